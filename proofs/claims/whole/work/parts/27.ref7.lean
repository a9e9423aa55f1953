theorem isFl_zero {A U s : Nat} {e : Int} (hU : U ≠ 0) (hA : A = 0) (h : isFl s A U e) : s = 0 := by
  have h1 := h.2.1
  unfold fle at h1
  rw [hA, Nat.zero_mul, Nat.le_zero, Nat.mul_eq_zero, Nat.mul_eq_zero] at h1
  have hp := pw_pos (-1074)
  rcases h1 with (q | q) | q
  · exact fv_0.1 q
  · exact absurd q hU
  · omega

set_option maxRecDepth 100000 in
set_option maxHeartbeats 4000000 in
/-- up -/
theorem r_up0Z (l : Launch) (dC : Nat → ClassId) (dI : Nat → Nat → Nat) {cI : ClassId} {tys : List (ClassId × FieldType)} (ht : tys[0]? = some (cI, .int)) (r : Nat → Nat) {V : Nat → Nat} {J : Nat → Nat → Nat} {A1 U1 A2 U2 : Nat} {pb pe ob oe b1 e1 b2 e2 : Int} (hJ : rJ V J) (kA1 : bk A1 (J 7)) (kU1 : bk U1 (J 8)) (kA2 : bk A2 (J 9)) (kU2 : bk U2 (J 10)) (mA1 : dn A1 ≤ 300) (mU1 : dn U1 ≤ 300) (mA2 : dn A2 ≤ 300) (mU2 : dn U2 ≤ 300) (nU : U1 ≠ 0) (bA : bl A1 ≤ 4800) (bU : bl U1 ≤ 4800) (lee : -12000 ≤ e1) (gee : e1 ≤ 12000) (hbr : b1 = 0 ∨ b1 = 1) (hA : A1 = 0) : ef_C l ry_M_up rw_M_up ({ frames := 5, cells := 0, slots := 0, locals := 127 } : Room) [.ref (r 0), .ref (r 3)] (dC, dI) vwCl tys (rC cI r ((V 0)) ((V 1)) ((V 2)) ((V 3)) ((V 4)) ((V 5)) ((V 6)) (A1) (U1) (A2) (U2) ((J 0)) ((J 1)) ((J 2)) ((J 3)) ((J 4)) ((J 5)) ((J 6)) ((J 7)) ((J 8)) ((J 9)) ((J 10)) (pb) (pe) (ob) (oe) (b1) (e1) (b2) (e2)) (fun o w1 => ∃ (V2 : Nat → Nat) (J2 : Nat → Nat → Nat) (pb2 pe2 ob2 oe2 : Int), o = some (.long (jv 0)) ∧ w1 = rC cI r (V2 0) (V2 1) (V2 2) (V2 3) (V2 4) (V2 5) (V2 6) (A1) (U1) (A2) (U2) (J2 0) (J2 1) (J2 2) (J2 3) (J2 4) (J2 5) (J2 6) (J2 7) (J2 8) (J2 9) (J2 10) (pb2) (pe2) (ob2) (oe2) (b1) (e1) (b2) (e2) ∧ rJ V2 J2 ∧ bk (A1) (J2 7) ∧ bk (U1) (J2 8) ∧ bk (A2) (J2 9) ∧ bk (U2) (J2 10)) := by
  refine ef_C.of (cc := rc_M_up) (maxL := 2) (ret := (some .long)) (by decide) rfl (Nat.le_of_ble_eq_true rfl) ?_
  intro p e s m below meth c ls hx hb hml hr hts hown hlocks hK hNX hP hD hS hl
  have hl : lv_has ls 2 [(0, .ref (r 0)), (1, .ref (r 3))] := hl
  have hown : s.vm.findClass rR5 = some m.cls := hown
  generalize hH : s.heap = H at hP ⊢
  have hS : va_S (ef_A (rC cI r ((V 0)) ((V 1)) ((V 2)) ((V 3)) ((V 4)) ((V 5)) ((V 6)) (A1) (U1) (A2) (U2) ((J 0)) ((J 1)) ((J 2)) ((J 3)) ((J 4)) ((J 5)) ((J 6)) ((J 7)) ((J 8)) ((J 9)) ((J 10)) (pb) (pe) (ob) (oe) (b1) (e1) (b2) (e2))) s.heap H [] := by rw [← hH]; exact hS
  generalize ([] : List Loc) = locs at hS ⊢
  have hbi : ir b1 := by rcases hbr with h | h <;> rw [h] <;> exact ⟨by decide, by decide⟩
  refine lv_aload_n hx hb rd_M_up_0 rfl (lv_at hl 0 rfl) ?_
  refine va_get (D := (dC, dI)) (ci := 5) (v := .ref (r 2)) (C := rR5) (T := rT5) (N := 7) hx hb hts (fun w h => List.mem_cons_of_mem _ (rin5 w h)) hown hK hP 0 rfl rfl 3 (by decide) (hts _ (List.mem_cons_of_mem _ rm_313)) (fun _ h9 => h9) rfl rd_M_up_1 ?_
  refine lv_aload_n hx hb rd_M_up_4 rfl (lv_at hl 1 rfl) ?_
  refine ef_callV (As := [.ref (r 3)]) (rest := []) ⟨hx, hb, hml, hown, hts⟩ (r_ncopy0 l dC dI ht r hJ kA1 kU1 kA2 kU2 mA1 mU1 mA2 mU2 hbr) (cwV 1 hts (ef_goodV rm_444 rm_445 rm_446 rm_26 rm_447) rfl rfl rfl (by decide +kernel) ⟨Nat.le_of_ble_eq_true rfl, Nat.le_of_ble_eq_true rfl⟩) hK hNX hP hD hS 2 rfl rfl rfl rfl hl.1 rfl (Nat.le_of_ble_eq_true rfl) rd_M_up_5 ⟨Nat.zero_le _, Nat.zero_le _⟩ (fun o w1 H locs hq hP hD hS => ?_)
  obtain ⟨Vv_1, Jv_1, pbv_1, pev_1, obv_1, oev_1, h5, h6, hob, hoe, rfl, rfl, hJv_1, kA1v_1, kU1v_1, kA2v_1, kU2v_1⟩ := hq
  have hP : va_P (dC, dI) vwCl (rC cI r ((Vv_1 0)) ((Vv_1 1)) ((Vv_1 2)) ((Vv_1 3)) ((Vv_1 4)) ((Vv_1 5)) ((Vv_1 6)) (A1) (U1) (A2) (U2) ((Jv_1 0)) ((Jv_1 1)) ((Jv_1 2)) ((Jv_1 3)) ((Jv_1 4)) ((Jv_1 5)) ((Jv_1 6)) ((Jv_1 7)) ((Jv_1 8)) ((Jv_1 9)) ((Jv_1 10)) (pbv_1) (pev_1) (obv_1) (oev_1) (b1) (e1) (b2) (e2)) H := hP
  have hD : va_D (ef_A (rC cI r ((V 0)) ((V 1)) ((V 2)) ((V 3)) ((V 4)) ((V 5)) ((V 6)) (A1) (U1) (A2) (U2) ((J 0)) ((J 1)) ((J 2)) ((J 3)) ((J 4)) ((J 5)) ((J 6)) ((J 7)) ((J 8)) ((J 9)) ((J 10)) (pb) (pe) (ob) (oe) (b1) (e1) (b2) (e2))) (rC cI r ((Vv_1 0)) ((Vv_1 1)) ((Vv_1 2)) ((Vv_1 3)) ((Vv_1 4)) ((Vv_1 5)) ((Vv_1 6)) (A1) (U1) (A2) (U2) ((Jv_1 0)) ((Jv_1 1)) ((Jv_1 2)) ((Jv_1 3)) ((Jv_1 4)) ((Jv_1 5)) ((Jv_1 6)) ((Jv_1 7)) ((Jv_1 8)) ((Jv_1 9)) ((Jv_1 10)) (pbv_1) (pev_1) (obv_1) (oev_1) (b1) (e1) (b2) (e2)) := hD
  refine W.eq (g2 := F0 m 8 ls []) rfl ?_
  refine lv_aload_n hx hb rd_M_up_8 rfl (lv_at hl 0 rfl) ?_
  refine va_get (D := (dC, dI)) (ci := 5) (v := .ref (r 2)) (C := rR5) (T := rT5) (N := 7) hx hb hts (fun w h => List.mem_cons_of_mem _ (rin5 w h)) hown hK hP 0 rfl rfl 3 (by decide) (hts _ (List.mem_cons_of_mem _ rm_313)) (fun _ h9 => h9) rfl rd_M_up_9 ?_
  refine lv_aload_n hx hb rd_M_up_12 rfl (lv_at hl 1 rfl) ?_
  refine va_getN (D := (dC, dI)) (ci := 4) (v := .int (iv (b1))) (C := rR4) (T := rT4) (N := 4) hx hb hts (fun w h => List.mem_cons_of_mem _ (rin4 w h)) hown hK hP 3 rfl rfl 0 (by decide) (hNX.use rm_285 rfl) (fun _ h9 => h9) rfl rd_M_up_13 ?_
  refine iw_if_ne (tgt := 23) hx hb rd_M_up_16 (by decide) (hbi) (fun c1 => ?_) (fun c1 => ?_)
  ·
    refine lv_iconst (v := iv (0)) hx hb rd_M_up_23 (by decide) ?_
    refine va_putN (D := (dC, dI)) (ci := 4) (v := .int (iv (0))) (ty := .boolean) (C := rR4) (T := rT4) (N := 4) hx hb hts (fun w h => List.mem_cons_of_mem _ (rin4 w h)) rty4 rtyok4 rnm4 hown hK hP hD hS 2 rfl rfl 0 (by decide) (hNX.use rm_285 rfl) (fun _ h9 => h9) rfl (by decide +kernel) rfl rfl (Nat.le_of_ble_eq_true rfl) rd_M_up_24 (fun H locs hP hD hS => ?_)
    have hP : va_P (dC, dI) vwCl (rC cI r ((Vv_1 0)) ((Vv_1 1)) ((Vv_1 2)) ((Vv_1 3)) ((Vv_1 4)) ((Vv_1 5)) ((Vv_1 6)) (A1) (U1) (A2) (U2) ((Jv_1 0)) ((Jv_1 1)) ((Jv_1 2)) ((Jv_1 3)) ((Jv_1 4)) ((Jv_1 5)) ((Jv_1 6)) ((Jv_1 7)) ((Jv_1 8)) ((Jv_1 9)) ((Jv_1 10)) (pbv_1) (pev_1) (0) (oev_1) (b1) (e1) (b2) (e2)) H := hP
    have hD : va_D (ef_A (rC cI r ((V 0)) ((V 1)) ((V 2)) ((V 3)) ((V 4)) ((V 5)) ((V 6)) (A1) (U1) (A2) (U2) ((J 0)) ((J 1)) ((J 2)) ((J 3)) ((J 4)) ((J 5)) ((J 6)) ((J 7)) ((J 8)) ((J 9)) ((J 10)) (pb) (pe) (ob) (oe) (b1) (e1) (b2) (e2))) (rC cI r ((Vv_1 0)) ((Vv_1 1)) ((Vv_1 2)) ((Vv_1 3)) ((Vv_1 4)) ((Vv_1 5)) ((Vv_1 6)) (A1) (U1) (A2) (U2) ((Jv_1 0)) ((Jv_1 1)) ((Jv_1 2)) ((Jv_1 3)) ((Jv_1 4)) ((Jv_1 5)) ((Jv_1 6)) ((Jv_1 7)) ((Jv_1 8)) ((Jv_1 9)) ((Jv_1 10)) (pbv_1) (pev_1) (0) (oev_1) (b1) (e1) (b2) (e2)) := hD
    refine lv_aload_n hx hb rd_M_up_27 rfl (lv_at hl 0 rfl) ?_
    refine lv_aload_n hx hb rd_M_up_28 rfl (lv_at hl 0 rfl) ?_
    refine va_get (D := (dC, dI)) (ci := 5) (v := .ref (r 2)) (C := rR5) (T := rT5) (N := 7) hx hb hts (fun w h => List.mem_cons_of_mem _ (rin5 w h)) hown hK hP 0 rfl rfl 3 (by decide) (hts _ (List.mem_cons_of_mem _ rm_313)) (fun _ h9 => h9) rfl rd_M_up_29 ?_
    refine ef_callV (As := [.ref (r 2)]) (rest := []) ⟨hx, hb, hml, hown, hts⟩ (r_downOP l dC dI ht r hJv_1 kA1v_1 kU1v_1 kA2v_1 kU2v_1 mA1 mU1 mA2 mU2 (by rw [h6]; exact nU) (by rw [h5]; exact bA) (by rw [h6]; exact bU) (by rw [hoe]; exact lee) (by rw [hoe]; exact gee) (Or.inl rfl) (Or.inl (by rw [h5]; exact hA))) (cwV 1 hts (ef_goodV rm_449 rm_451 rm_18 rm_24 rm_452) rfl rfl rfl (by decide +kernel) ⟨Nat.le_of_ble_eq_true rfl, Nat.le_of_ble_eq_true rfl⟩) hK hNX hP hD hS 0 rfl rfl rfl rfl hl.1 rfl (Nat.le_of_ble_eq_true rfl) rd_M_up_32 ⟨Nat.zero_le _, Nat.zero_le _⟩ (fun o w1 H locs hq hP hD hS => ?_)
    obtain ⟨z, hz, Vv_2, Jv_2, pbv_2, pev_2, obv_2, oev_2, rfl, rfl, hJv_2, kA1v_2, kU1v_2, kA2v_2, kU2v_2⟩ := hq
    have hP : va_P (dC, dI) vwCl (rC cI r ((Vv_2 0)) ((Vv_2 1)) ((Vv_2 2)) ((Vv_2 3)) ((Vv_2 4)) ((Vv_2 5)) ((Vv_2 6)) (A1) (U1) (A2) (U2) ((Jv_2 0)) ((Jv_2 1)) ((Jv_2 2)) ((Jv_2 3)) ((Jv_2 4)) ((Jv_2 5)) ((Jv_2 6)) ((Jv_2 7)) ((Jv_2 8)) ((Jv_2 9)) ((Jv_2 10)) (pbv_2) (pev_2) (obv_2) (oev_2) (b1) (e1) (b2) (e2)) H := hP
    have hD : va_D (ef_A (rC cI r ((V 0)) ((V 1)) ((V 2)) ((V 3)) ((V 4)) ((V 5)) ((V 6)) (A1) (U1) (A2) (U2) ((J 0)) ((J 1)) ((J 2)) ((J 3)) ((J 4)) ((J 5)) ((J 6)) ((J 7)) ((J 8)) ((J 9)) ((J 10)) (pb) (pe) (ob) (oe) (b1) (e1) (b2) (e2))) (rC cI r ((Vv_2 0)) ((Vv_2 1)) ((Vv_2 2)) ((Vv_2 3)) ((Vv_2 4)) ((Vv_2 5)) ((Vv_2 6)) (A1) (U1) (A2) (U2) ((Jv_2 0)) ((Jv_2 1)) ((Jv_2 2)) ((Jv_2 3)) ((Jv_2 4)) ((Jv_2 5)) ((Jv_2 6)) ((Jv_2 7)) ((Jv_2 8)) ((Jv_2 9)) ((Jv_2 10)) (pbv_2) (pev_2) (obv_2) (oev_2) (b1) (e1) (b2) (e2)) := hD
    refine W.eq (g2 := F0 m 35 ls [.long (jv ((z : Int)))]) rfl ?_
    rw [h5, h6, hoe] at hz
    have hzb := hz.1
    have hz0 : z = 0 := isFl_zero nU hA hz
    refine iw_topl (y := jv (0)) (congrArg jv (by rw [hz0]; rfl : (((z : Int)) : Int) = (0))) ?_
    refine ef_callS (As := [.long (jv (0))]) (rest := []) ⟨hx, hb, hml, hown, hts⟩ (r_minus0 l dC dI ht r) (cwS 1 hts (ef_goodS rm_468 rm_469 rm_24 rm_470) rfl rfl rfl (by decide +kernel) ⟨Nat.le_of_ble_eq_true rfl, Nat.le_of_ble_eq_true rfl⟩) hK hNX hP hD hS rfl hl.1 rfl (Nat.le_of_ble_eq_true rfl) rd_M_up_35 ⟨Nat.zero_le _, Nat.zero_le _⟩ (fun o w1 H locs hq hP hD hS => ?_)
    obtain ⟨rfl, e9⟩ := hq
    rw [e9] at hP hD
    refine W.eq (g2 := F0 m 38 ls [.long (jv (0))]) rfl ?_
    exact ef_lret hx hb hr hlocks hP hD hS rd_M_up_38 (⟨fun i => [((Vv_2 0)), ((Vv_2 1)), ((Vv_2 2)), ((Vv_2 3)), ((Vv_2 4)), ((Vv_2 5)), ((Vv_2 6))].getD i 0, fun i => [((Jv_2 0)), ((Jv_2 1)), ((Jv_2 2)), ((Jv_2 3)), ((Jv_2 4)), ((Jv_2 5)), ((Jv_2 6)), ((Jv_2 7)), ((Jv_2 8)), ((Jv_2 9)), ((Jv_2 10))].getD i (fun _ => 0), _, _, _, _, rfl, rfl, rJ_of (hJv_2 0 (by decide)) (hJv_2 1 (by decide)) (hJv_2 2 (by decide)) (hJv_2 3 (by decide)) (hJv_2 4 (by decide)) (hJv_2 5 (by decide)) (hJv_2 6 (by decide)), kA1v_2, kU1v_2, kA2v_2, kU2v_2⟩)
  ·
    refine lv_iconst (v := iv (1)) hx hb rd_M_up_19 (by decide) ?_
    refine lv_goto (tgt := 24) hx hb rd_M_up_20 (by decide) ?_
    refine va_putN (D := (dC, dI)) (ci := 4) (v := .int (iv (1))) (ty := .boolean) (C := rR4) (T := rT4) (N := 4) hx hb hts (fun w h => List.mem_cons_of_mem _ (rin4 w h)) rty4 rtyok4 rnm4 hown hK hP hD hS 2 rfl rfl 0 (by decide) (hNX.use rm_285 rfl) (fun _ h9 => h9) rfl (by decide +kernel) rfl rfl (Nat.le_of_ble_eq_true rfl) rd_M_up_24 (fun H locs hP hD hS => ?_)
    have hP : va_P (dC, dI) vwCl (rC cI r ((Vv_1 0)) ((Vv_1 1)) ((Vv_1 2)) ((Vv_1 3)) ((Vv_1 4)) ((Vv_1 5)) ((Vv_1 6)) (A1) (U1) (A2) (U2) ((Jv_1 0)) ((Jv_1 1)) ((Jv_1 2)) ((Jv_1 3)) ((Jv_1 4)) ((Jv_1 5)) ((Jv_1 6)) ((Jv_1 7)) ((Jv_1 8)) ((Jv_1 9)) ((Jv_1 10)) (pbv_1) (pev_1) (1) (oev_1) (b1) (e1) (b2) (e2)) H := hP
    have hD : va_D (ef_A (rC cI r ((V 0)) ((V 1)) ((V 2)) ((V 3)) ((V 4)) ((V 5)) ((V 6)) (A1) (U1) (A2) (U2) ((J 0)) ((J 1)) ((J 2)) ((J 3)) ((J 4)) ((J 5)) ((J 6)) ((J 7)) ((J 8)) ((J 9)) ((J 10)) (pb) (pe) (ob) (oe) (b1) (e1) (b2) (e2))) (rC cI r ((Vv_1 0)) ((Vv_1 1)) ((Vv_1 2)) ((Vv_1 3)) ((Vv_1 4)) ((Vv_1 5)) ((Vv_1 6)) (A1) (U1) (A2) (U2) ((Jv_1 0)) ((Jv_1 1)) ((Jv_1 2)) ((Jv_1 3)) ((Jv_1 4)) ((Jv_1 5)) ((Jv_1 6)) ((Jv_1 7)) ((Jv_1 8)) ((Jv_1 9)) ((Jv_1 10)) (pbv_1) (pev_1) (1) (oev_1) (b1) (e1) (b2) (e2)) := hD
    refine lv_aload_n hx hb rd_M_up_27 rfl (lv_at hl 0 rfl) ?_
    refine lv_aload_n hx hb rd_M_up_28 rfl (lv_at hl 0 rfl) ?_
    refine va_get (D := (dC, dI)) (ci := 5) (v := .ref (r 2)) (C := rR5) (T := rT5) (N := 7) hx hb hts (fun w h => List.mem_cons_of_mem _ (rin5 w h)) hown hK hP 0 rfl rfl 3 (by decide) (hts _ (List.mem_cons_of_mem _ rm_313)) (fun _ h9 => h9) rfl rd_M_up_29 ?_
    refine ef_callV (As := [.ref (r 2)]) (rest := []) ⟨hx, hb, hml, hown, hts⟩ (r_downOP l dC dI ht r hJv_1 kA1v_1 kU1v_1 kA2v_1 kU2v_1 mA1 mU1 mA2 mU2 (by rw [h6]; exact nU) (by rw [h5]; exact bA) (by rw [h6]; exact bU) (by rw [hoe]; exact lee) (by rw [hoe]; exact gee) (Or.inr rfl) (Or.inl (by rw [h5]; exact hA))) (cwV 1 hts (ef_goodV rm_449 rm_451 rm_18 rm_24 rm_452) rfl rfl rfl (by decide +kernel) ⟨Nat.le_of_ble_eq_true rfl, Nat.le_of_ble_eq_true rfl⟩) hK hNX hP hD hS 0 rfl rfl rfl rfl hl.1 rfl (Nat.le_of_ble_eq_true rfl) rd_M_up_32 ⟨Nat.zero_le _, Nat.zero_le _⟩ (fun o w1 H locs hq hP hD hS => ?_)
    obtain ⟨z, hz, Vv_3, Jv_3, pbv_3, pev_3, obv_3, oev_3, rfl, rfl, hJv_3, kA1v_3, kU1v_3, kA2v_3, kU2v_3⟩ := hq
    have hP : va_P (dC, dI) vwCl (rC cI r ((Vv_3 0)) ((Vv_3 1)) ((Vv_3 2)) ((Vv_3 3)) ((Vv_3 4)) ((Vv_3 5)) ((Vv_3 6)) (A1) (U1) (A2) (U2) ((Jv_3 0)) ((Jv_3 1)) ((Jv_3 2)) ((Jv_3 3)) ((Jv_3 4)) ((Jv_3 5)) ((Jv_3 6)) ((Jv_3 7)) ((Jv_3 8)) ((Jv_3 9)) ((Jv_3 10)) (pbv_3) (pev_3) (obv_3) (oev_3) (b1) (e1) (b2) (e2)) H := hP
    have hD : va_D (ef_A (rC cI r ((V 0)) ((V 1)) ((V 2)) ((V 3)) ((V 4)) ((V 5)) ((V 6)) (A1) (U1) (A2) (U2) ((J 0)) ((J 1)) ((J 2)) ((J 3)) ((J 4)) ((J 5)) ((J 6)) ((J 7)) ((J 8)) ((J 9)) ((J 10)) (pb) (pe) (ob) (oe) (b1) (e1) (b2) (e2))) (rC cI r ((Vv_3 0)) ((Vv_3 1)) ((Vv_3 2)) ((Vv_3 3)) ((Vv_3 4)) ((Vv_3 5)) ((Vv_3 6)) (A1) (U1) (A2) (U2) ((Jv_3 0)) ((Jv_3 1)) ((Jv_3 2)) ((Jv_3 3)) ((Jv_3 4)) ((Jv_3 5)) ((Jv_3 6)) ((Jv_3 7)) ((Jv_3 8)) ((Jv_3 9)) ((Jv_3 10)) (pbv_3) (pev_3) (obv_3) (oev_3) (b1) (e1) (b2) (e2)) := hD
    refine W.eq (g2 := F0 m 35 ls [.long (jv ((z : Int)))]) rfl ?_
    rw [h5, h6, hoe] at hz
    have hzb := hz.1
    have hz0 : z = 0 := isFl_zero nU hA hz
    refine iw_topl (y := jv (0)) (congrArg jv (by rw [hz0]; rfl : (((z : Int)) : Int) = (0))) ?_
    refine ef_callS (As := [.long (jv (0))]) (rest := []) ⟨hx, hb, hml, hown, hts⟩ (r_minus0 l dC dI ht r) (cwS 1 hts (ef_goodS rm_468 rm_469 rm_24 rm_470) rfl rfl rfl (by decide +kernel) ⟨Nat.le_of_ble_eq_true rfl, Nat.le_of_ble_eq_true rfl⟩) hK hNX hP hD hS rfl hl.1 rfl (Nat.le_of_ble_eq_true rfl) rd_M_up_35 ⟨Nat.zero_le _, Nat.zero_le _⟩ (fun o w1 H locs hq hP hD hS => ?_)
    obtain ⟨rfl, e9⟩ := hq
    rw [e9] at hP hD
    refine W.eq (g2 := F0 m 38 ls [.long (jv (0))]) rfl ?_
    exact ef_lret hx hb hr hlocks hP hD hS rd_M_up_38 (⟨fun i => [((Vv_3 0)), ((Vv_3 1)), ((Vv_3 2)), ((Vv_3 3)), ((Vv_3 4)), ((Vv_3 5)), ((Vv_3 6))].getD i 0, fun i => [((Jv_3 0)), ((Jv_3 1)), ((Jv_3 2)), ((Jv_3 3)), ((Jv_3 4)), ((Jv_3 5)), ((Jv_3 6)), ((Jv_3 7)), ((Jv_3 8)), ((Jv_3 9)), ((Jv_3 10))].getD i (fun _ => 0), _, _, _, _, rfl, rfl, rJ_of (hJv_3 0 (by decide)) (hJv_3 1 (by decide)) (hJv_3 2 (by decide)) (hJv_3 3 (by decide)) (hJv_3 4 (by decide)) (hJv_3 5 (by decide)) (hJv_3 6 (by decide)), kA1v_3, kU1v_3, kA2v_3, kU2v_3⟩)

set_option maxRecDepth 100000 in
set_option maxHeartbeats 4000000 in
/-- up -/
theorem r_up0K (l : Launch) (dC : Nat → ClassId) (dI : Nat → Nat → Nat) {cI : ClassId} {tys : List (ClassId × FieldType)} (ht : tys[0]? = some (cI, .int)) (r : Nat → Nat) {V : Nat → Nat} {J : Nat → Nat → Nat} {A1 U1 A2 U2 : Nat} {pb pe ob oe b1 e1 b2 e2 : Int} (hJ : rJ V J) (kA1 : bk A1 (J 7)) (kU1 : bk U1 (J 8)) (kA2 : bk A2 (J 9)) (kU2 : bk U2 (J 10)) (mA1 : dn A1 ≤ 300) (mU1 : dn U1 ≤ 300) (mA2 : dn A2 ≤ 300) (mU2 : dn U2 ≤ 300) (nU : U1 ≠ 0) (bA : bl A1 ≤ 4800) (bU : bl U1 ≤ 4800) (lee : -12000 ≤ e1) (gee : e1 ≤ 12000) (hbr : b1 = 0 ∨ b1 = 1) (hA : A1 ≠ 0) : ef_C l ry_M_up rw_M_up ({ frames := 5, cells := 0, slots := 0, locals := 127 } : Room) [.ref (r 0), .ref (r 3)] (dC, dI) vwCl tys (rC cI r ((V 0)) ((V 1)) ((V 2)) ((V 3)) ((V 4)) ((V 5)) ((V 6)) (A1) (U1) (A2) (U2) ((J 0)) ((J 1)) ((J 2)) ((J 3)) ((J 4)) ((J 5)) ((J 6)) ((J 7)) ((J 8)) ((J 9)) ((J 10)) (pb) (pe) (ob) (oe) (b1) (e1) (b2) (e2)) (fun o w1 => ∃ z : Nat, rsz A1 U1 e1 (if 1 = b1 then 0 else 1) z ∧ ∃ (V2 : Nat → Nat) (J2 : Nat → Nat → Nat) (pb2 pe2 ob2 oe2 : Int), o = some (.long (jv (if b1 = 0 ∨ z = 0 then (z : Int) else (z : Int) - 9223372036854775808))) ∧ w1 = rC cI r (V2 0) (V2 1) (V2 2) (V2 3) (V2 4) (V2 5) (V2 6) (A1) (U1) (A2) (U2) (J2 0) (J2 1) (J2 2) (J2 3) (J2 4) (J2 5) (J2 6) (J2 7) (J2 8) (J2 9) (J2 10) (pb2) (pe2) (ob2) (oe2) (b1) (e1) (b2) (e2) ∧ rJ V2 J2 ∧ bk (A1) (J2 7) ∧ bk (U1) (J2 8) ∧ bk (A2) (J2 9) ∧ bk (U2) (J2 10)) := by
  refine ef_C.of (cc := rc_M_up) (maxL := 2) (ret := (some .long)) (by decide) rfl (Nat.le_of_ble_eq_true rfl) ?_
  intro p e s m below meth c ls hx hb hml hr hts hown hlocks hK hNX hP hD hS hl
  have hl : lv_has ls 2 [(0, .ref (r 0)), (1, .ref (r 3))] := hl
  have hown : s.vm.findClass rR5 = some m.cls := hown
  generalize hH : s.heap = H at hP ⊢
  have hS : va_S (ef_A (rC cI r ((V 0)) ((V 1)) ((V 2)) ((V 3)) ((V 4)) ((V 5)) ((V 6)) (A1) (U1) (A2) (U2) ((J 0)) ((J 1)) ((J 2)) ((J 3)) ((J 4)) ((J 5)) ((J 6)) ((J 7)) ((J 8)) ((J 9)) ((J 10)) (pb) (pe) (ob) (oe) (b1) (e1) (b2) (e2))) s.heap H [] := by rw [← hH]; exact hS
  generalize ([] : List Loc) = locs at hS ⊢
  have hbi : ir b1 := by rcases hbr with h | h <;> rw [h] <;> exact ⟨by decide, by decide⟩
  refine lv_aload_n hx hb rd_M_up_0 rfl (lv_at hl 0 rfl) ?_
  refine va_get (D := (dC, dI)) (ci := 5) (v := .ref (r 2)) (C := rR5) (T := rT5) (N := 7) hx hb hts (fun w h => List.mem_cons_of_mem _ (rin5 w h)) hown hK hP 0 rfl rfl 3 (by decide) (hts _ (List.mem_cons_of_mem _ rm_313)) (fun _ h9 => h9) rfl rd_M_up_1 ?_
  refine lv_aload_n hx hb rd_M_up_4 rfl (lv_at hl 1 rfl) ?_
  refine ef_callV (As := [.ref (r 3)]) (rest := []) ⟨hx, hb, hml, hown, hts⟩ (r_ncopy0 l dC dI ht r hJ kA1 kU1 kA2 kU2 mA1 mU1 mA2 mU2 hbr) (cwV 1 hts (ef_goodV rm_444 rm_445 rm_446 rm_26 rm_447) rfl rfl rfl (by decide +kernel) ⟨Nat.le_of_ble_eq_true rfl, Nat.le_of_ble_eq_true rfl⟩) hK hNX hP hD hS 2 rfl rfl rfl rfl hl.1 rfl (Nat.le_of_ble_eq_true rfl) rd_M_up_5 ⟨Nat.zero_le _, Nat.zero_le _⟩ (fun o w1 H locs hq hP hD hS => ?_)
  obtain ⟨Vv_1, Jv_1, pbv_1, pev_1, obv_1, oev_1, h5, h6, hob, hoe, rfl, rfl, hJv_1, kA1v_1, kU1v_1, kA2v_1, kU2v_1⟩ := hq
  have hP : va_P (dC, dI) vwCl (rC cI r ((Vv_1 0)) ((Vv_1 1)) ((Vv_1 2)) ((Vv_1 3)) ((Vv_1 4)) ((Vv_1 5)) ((Vv_1 6)) (A1) (U1) (A2) (U2) ((Jv_1 0)) ((Jv_1 1)) ((Jv_1 2)) ((Jv_1 3)) ((Jv_1 4)) ((Jv_1 5)) ((Jv_1 6)) ((Jv_1 7)) ((Jv_1 8)) ((Jv_1 9)) ((Jv_1 10)) (pbv_1) (pev_1) (obv_1) (oev_1) (b1) (e1) (b2) (e2)) H := hP
  have hD : va_D (ef_A (rC cI r ((V 0)) ((V 1)) ((V 2)) ((V 3)) ((V 4)) ((V 5)) ((V 6)) (A1) (U1) (A2) (U2) ((J 0)) ((J 1)) ((J 2)) ((J 3)) ((J 4)) ((J 5)) ((J 6)) ((J 7)) ((J 8)) ((J 9)) ((J 10)) (pb) (pe) (ob) (oe) (b1) (e1) (b2) (e2))) (rC cI r ((Vv_1 0)) ((Vv_1 1)) ((Vv_1 2)) ((Vv_1 3)) ((Vv_1 4)) ((Vv_1 5)) ((Vv_1 6)) (A1) (U1) (A2) (U2) ((Jv_1 0)) ((Jv_1 1)) ((Jv_1 2)) ((Jv_1 3)) ((Jv_1 4)) ((Jv_1 5)) ((Jv_1 6)) ((Jv_1 7)) ((Jv_1 8)) ((Jv_1 9)) ((Jv_1 10)) (pbv_1) (pev_1) (obv_1) (oev_1) (b1) (e1) (b2) (e2)) := hD
  refine W.eq (g2 := F0 m 8 ls []) rfl ?_
  refine lv_aload_n hx hb rd_M_up_8 rfl (lv_at hl 0 rfl) ?_
  refine va_get (D := (dC, dI)) (ci := 5) (v := .ref (r 2)) (C := rR5) (T := rT5) (N := 7) hx hb hts (fun w h => List.mem_cons_of_mem _ (rin5 w h)) hown hK hP 0 rfl rfl 3 (by decide) (hts _ (List.mem_cons_of_mem _ rm_313)) (fun _ h9 => h9) rfl rd_M_up_9 ?_
  refine lv_aload_n hx hb rd_M_up_12 rfl (lv_at hl 1 rfl) ?_
  refine va_getN (D := (dC, dI)) (ci := 4) (v := .int (iv (b1))) (C := rR4) (T := rT4) (N := 4) hx hb hts (fun w h => List.mem_cons_of_mem _ (rin4 w h)) hown hK hP 3 rfl rfl 0 (by decide) (hNX.use rm_285 rfl) (fun _ h9 => h9) rfl rd_M_up_13 ?_
  refine iw_if_ne (tgt := 23) hx hb rd_M_up_16 (by decide) (hbi) (fun c1 => ?_) (fun c1 => ?_)
  ·
    refine lv_iconst (v := iv (0)) hx hb rd_M_up_23 (by decide) ?_
    refine va_putN (D := (dC, dI)) (ci := 4) (v := .int (iv (0))) (ty := .boolean) (C := rR4) (T := rT4) (N := 4) hx hb hts (fun w h => List.mem_cons_of_mem _ (rin4 w h)) rty4 rtyok4 rnm4 hown hK hP hD hS 2 rfl rfl 0 (by decide) (hNX.use rm_285 rfl) (fun _ h9 => h9) rfl (by decide +kernel) rfl rfl (Nat.le_of_ble_eq_true rfl) rd_M_up_24 (fun H locs hP hD hS => ?_)
    have hP : va_P (dC, dI) vwCl (rC cI r ((Vv_1 0)) ((Vv_1 1)) ((Vv_1 2)) ((Vv_1 3)) ((Vv_1 4)) ((Vv_1 5)) ((Vv_1 6)) (A1) (U1) (A2) (U2) ((Jv_1 0)) ((Jv_1 1)) ((Jv_1 2)) ((Jv_1 3)) ((Jv_1 4)) ((Jv_1 5)) ((Jv_1 6)) ((Jv_1 7)) ((Jv_1 8)) ((Jv_1 9)) ((Jv_1 10)) (pbv_1) (pev_1) (0) (oev_1) (b1) (e1) (b2) (e2)) H := hP
    have hD : va_D (ef_A (rC cI r ((V 0)) ((V 1)) ((V 2)) ((V 3)) ((V 4)) ((V 5)) ((V 6)) (A1) (U1) (A2) (U2) ((J 0)) ((J 1)) ((J 2)) ((J 3)) ((J 4)) ((J 5)) ((J 6)) ((J 7)) ((J 8)) ((J 9)) ((J 10)) (pb) (pe) (ob) (oe) (b1) (e1) (b2) (e2))) (rC cI r ((Vv_1 0)) ((Vv_1 1)) ((Vv_1 2)) ((Vv_1 3)) ((Vv_1 4)) ((Vv_1 5)) ((Vv_1 6)) (A1) (U1) (A2) (U2) ((Jv_1 0)) ((Jv_1 1)) ((Jv_1 2)) ((Jv_1 3)) ((Jv_1 4)) ((Jv_1 5)) ((Jv_1 6)) ((Jv_1 7)) ((Jv_1 8)) ((Jv_1 9)) ((Jv_1 10)) (pbv_1) (pev_1) (0) (oev_1) (b1) (e1) (b2) (e2)) := hD
    refine lv_aload_n hx hb rd_M_up_27 rfl (lv_at hl 0 rfl) ?_
    refine lv_aload_n hx hb rd_M_up_28 rfl (lv_at hl 0 rfl) ?_
    refine va_get (D := (dC, dI)) (ci := 5) (v := .ref (r 2)) (C := rR5) (T := rT5) (N := 7) hx hb hts (fun w h => List.mem_cons_of_mem _ (rin5 w h)) hown hK hP 0 rfl rfl 3 (by decide) (hts _ (List.mem_cons_of_mem _ rm_313)) (fun _ h9 => h9) rfl rd_M_up_29 ?_
    refine ef_callV (As := [.ref (r 2)]) (rest := []) ⟨hx, hb, hml, hown, hts⟩ (r_downOP l dC dI ht r hJv_1 kA1v_1 kU1v_1 kA2v_1 kU2v_1 mA1 mU1 mA2 mU2 (by rw [h6]; exact nU) (by rw [h5]; exact bA) (by rw [h6]; exact bU) (by rw [hoe]; exact lee) (by rw [hoe]; exact gee) (Or.inl rfl) (Or.inr rfl)) (cwV 1 hts (ef_goodV rm_449 rm_451 rm_18 rm_24 rm_452) rfl rfl rfl (by decide +kernel) ⟨Nat.le_of_ble_eq_true rfl, Nat.le_of_ble_eq_true rfl⟩) hK hNX hP hD hS 0 rfl rfl rfl rfl hl.1 rfl (Nat.le_of_ble_eq_true rfl) rd_M_up_32 ⟨Nat.zero_le _, Nat.zero_le _⟩ (fun o w1 H locs hq hP hD hS => ?_)
    obtain ⟨z, hz, Vv_2, Jv_2, pbv_2, pev_2, obv_2, oev_2, rfl, rfl, hJv_2, kA1v_2, kU1v_2, kA2v_2, kU2v_2⟩ := hq
    have hP : va_P (dC, dI) vwCl (rC cI r ((Vv_2 0)) ((Vv_2 1)) ((Vv_2 2)) ((Vv_2 3)) ((Vv_2 4)) ((Vv_2 5)) ((Vv_2 6)) (A1) (U1) (A2) (U2) ((Jv_2 0)) ((Jv_2 1)) ((Jv_2 2)) ((Jv_2 3)) ((Jv_2 4)) ((Jv_2 5)) ((Jv_2 6)) ((Jv_2 7)) ((Jv_2 8)) ((Jv_2 9)) ((Jv_2 10)) (pbv_2) (pev_2) (obv_2) (oev_2) (b1) (e1) (b2) (e2)) H := hP
    have hD : va_D (ef_A (rC cI r ((V 0)) ((V 1)) ((V 2)) ((V 3)) ((V 4)) ((V 5)) ((V 6)) (A1) (U1) (A2) (U2) ((J 0)) ((J 1)) ((J 2)) ((J 3)) ((J 4)) ((J 5)) ((J 6)) ((J 7)) ((J 8)) ((J 9)) ((J 10)) (pb) (pe) (ob) (oe) (b1) (e1) (b2) (e2))) (rC cI r ((Vv_2 0)) ((Vv_2 1)) ((Vv_2 2)) ((Vv_2 3)) ((Vv_2 4)) ((Vv_2 5)) ((Vv_2 6)) (A1) (U1) (A2) (U2) ((Jv_2 0)) ((Jv_2 1)) ((Jv_2 2)) ((Jv_2 3)) ((Jv_2 4)) ((Jv_2 5)) ((Jv_2 6)) ((Jv_2 7)) ((Jv_2 8)) ((Jv_2 9)) ((Jv_2 10)) (pbv_2) (pev_2) (obv_2) (oev_2) (b1) (e1) (b2) (e2)) := hD
    refine W.eq (g2 := F0 m 35 ls [.long (jv ((z : Int)))]) rfl ?_
    rw [h5, h6, hoe] at hz
    have hzb := hz.1
    have hrz : rsz A1 U1 e1 (if 1 = b1 then 0 else 1) z := ⟨z, hz, Or.inl ⟨Or.inl (if_pos (by omega)), rfl⟩⟩
    rcases Nat.eq_zero_or_pos z with hz0 | hz0
    ·
      refine iw_topl (y := jv (0)) (congrArg jv (by rw [hz0]; rfl : (((z : Int)) : Int) = (0))) ?_
      refine ef_callS (As := [.long (jv (0))]) (rest := []) ⟨hx, hb, hml, hown, hts⟩ (r_minus0 l dC dI ht r) (cwS 1 hts (ef_goodS rm_468 rm_469 rm_24 rm_470) rfl rfl rfl (by decide +kernel) ⟨Nat.le_of_ble_eq_true rfl, Nat.le_of_ble_eq_true rfl⟩) hK hNX hP hD hS rfl hl.1 rfl (Nat.le_of_ble_eq_true rfl) rd_M_up_35 ⟨Nat.zero_le _, Nat.zero_le _⟩ (fun o w1 H locs hq hP hD hS => ?_)
      obtain ⟨rfl, e9⟩ := hq
      rw [e9] at hP hD
      refine W.eq (g2 := F0 m 38 ls [.long (jv (0))]) rfl ?_
      exact ef_lret hx hb hr hlocks hP hD hS rd_M_up_38 (by
          refine ⟨z, hrz, ?_⟩
          rw [if_pos (Or.inr hz0), hz0]; exact ⟨fun i => [((Vv_2 0)), ((Vv_2 1)), ((Vv_2 2)), ((Vv_2 3)), ((Vv_2 4)), ((Vv_2 5)), ((Vv_2 6))].getD i 0, fun i => [((Jv_2 0)), ((Jv_2 1)), ((Jv_2 2)), ((Jv_2 3)), ((Jv_2 4)), ((Jv_2 5)), ((Jv_2 6)), ((Jv_2 7)), ((Jv_2 8)), ((Jv_2 9)), ((Jv_2 10))].getD i (fun _ => 0), _, _, _, _, rfl, rfl, rJ_of (hJv_2 0 (by decide)) (hJv_2 1 (by decide)) (hJv_2 2 (by decide)) (hJv_2 3 (by decide)) (hJv_2 4 (by decide)) (hJv_2 5 (by decide)) (hJv_2 6 (by decide)), kA1v_2, kU1v_2, kA2v_2, kU2v_2⟩)
    ·
      refine ef_callS (As := [.long (jv ((z : Int)))]) (rest := []) ⟨hx, hb, hml, hown, hts⟩ (r_minusP l dC dI ht r z (by omega) (by omega)) (cwS 1 hts (ef_goodS rm_468 rm_469 rm_24 rm_470) rfl rfl rfl (by decide +kernel) ⟨Nat.le_of_ble_eq_true rfl, Nat.le_of_ble_eq_true rfl⟩) hK hNX hP hD hS rfl hl.1 rfl (Nat.le_of_ble_eq_true rfl) rd_M_up_35 ⟨Nat.zero_le _, Nat.zero_le _⟩ (fun o w1 H locs hq hP hD hS => ?_)
      obtain ⟨rfl, e9⟩ := hq
      rw [e9] at hP hD
      refine W.eq (g2 := F0 m 38 ls [.long (jv ((z : Int) - 9223372036854775808))]) rfl ?_
      exact ef_lret hx hb hr hlocks hP hD hS rd_M_up_38 (by
          refine ⟨z, hrz, ?_⟩
          rw [if_neg (by omega)]; exact ⟨fun i => [((Vv_2 0)), ((Vv_2 1)), ((Vv_2 2)), ((Vv_2 3)), ((Vv_2 4)), ((Vv_2 5)), ((Vv_2 6))].getD i 0, fun i => [((Jv_2 0)), ((Jv_2 1)), ((Jv_2 2)), ((Jv_2 3)), ((Jv_2 4)), ((Jv_2 5)), ((Jv_2 6)), ((Jv_2 7)), ((Jv_2 8)), ((Jv_2 9)), ((Jv_2 10))].getD i (fun _ => 0), _, _, _, _, rfl, rfl, rJ_of (hJv_2 0 (by decide)) (hJv_2 1 (by decide)) (hJv_2 2 (by decide)) (hJv_2 3 (by decide)) (hJv_2 4 (by decide)) (hJv_2 5 (by decide)) (hJv_2 6 (by decide)), kA1v_2, kU1v_2, kA2v_2, kU2v_2⟩)
  ·
    refine lv_iconst (v := iv (1)) hx hb rd_M_up_19 (by decide) ?_
    refine lv_goto (tgt := 24) hx hb rd_M_up_20 (by decide) ?_
    refine va_putN (D := (dC, dI)) (ci := 4) (v := .int (iv (1))) (ty := .boolean) (C := rR4) (T := rT4) (N := 4) hx hb hts (fun w h => List.mem_cons_of_mem _ (rin4 w h)) rty4 rtyok4 rnm4 hown hK hP hD hS 2 rfl rfl 0 (by decide) (hNX.use rm_285 rfl) (fun _ h9 => h9) rfl (by decide +kernel) rfl rfl (Nat.le_of_ble_eq_true rfl) rd_M_up_24 (fun H locs hP hD hS => ?_)
    have hP : va_P (dC, dI) vwCl (rC cI r ((Vv_1 0)) ((Vv_1 1)) ((Vv_1 2)) ((Vv_1 3)) ((Vv_1 4)) ((Vv_1 5)) ((Vv_1 6)) (A1) (U1) (A2) (U2) ((Jv_1 0)) ((Jv_1 1)) ((Jv_1 2)) ((Jv_1 3)) ((Jv_1 4)) ((Jv_1 5)) ((Jv_1 6)) ((Jv_1 7)) ((Jv_1 8)) ((Jv_1 9)) ((Jv_1 10)) (pbv_1) (pev_1) (1) (oev_1) (b1) (e1) (b2) (e2)) H := hP
    have hD : va_D (ef_A (rC cI r ((V 0)) ((V 1)) ((V 2)) ((V 3)) ((V 4)) ((V 5)) ((V 6)) (A1) (U1) (A2) (U2) ((J 0)) ((J 1)) ((J 2)) ((J 3)) ((J 4)) ((J 5)) ((J 6)) ((J 7)) ((J 8)) ((J 9)) ((J 10)) (pb) (pe) (ob) (oe) (b1) (e1) (b2) (e2))) (rC cI r ((Vv_1 0)) ((Vv_1 1)) ((Vv_1 2)) ((Vv_1 3)) ((Vv_1 4)) ((Vv_1 5)) ((Vv_1 6)) (A1) (U1) (A2) (U2) ((Jv_1 0)) ((Jv_1 1)) ((Jv_1 2)) ((Jv_1 3)) ((Jv_1 4)) ((Jv_1 5)) ((Jv_1 6)) ((Jv_1 7)) ((Jv_1 8)) ((Jv_1 9)) ((Jv_1 10)) (pbv_1) (pev_1) (1) (oev_1) (b1) (e1) (b2) (e2)) := hD
    refine lv_aload_n hx hb rd_M_up_27 rfl (lv_at hl 0 rfl) ?_
    refine lv_aload_n hx hb rd_M_up_28 rfl (lv_at hl 0 rfl) ?_
    refine va_get (D := (dC, dI)) (ci := 5) (v := .ref (r 2)) (C := rR5) (T := rT5) (N := 7) hx hb hts (fun w h => List.mem_cons_of_mem _ (rin5 w h)) hown hK hP 0 rfl rfl 3 (by decide) (hts _ (List.mem_cons_of_mem _ rm_313)) (fun _ h9 => h9) rfl rd_M_up_29 ?_
    refine ef_callV (As := [.ref (r 2)]) (rest := []) ⟨hx, hb, hml, hown, hts⟩ (r_downON l dC dI ht r hJv_1 kA1v_1 kU1v_1 kA2v_1 kU2v_1 mA1 mU1 mA2 mU2 (by rw [h6]; exact nU) (by rw [h5]; exact bA) (by rw [h6]; exact bU) (by rw [hoe]; exact lee) (by rw [hoe]; exact gee) (Or.inr rfl) (by rw [h5]; exact hA) rfl) (cwV 1 hts (ef_goodV rm_449 rm_451 rm_18 rm_24 rm_452) rfl rfl rfl (by decide +kernel) ⟨Nat.le_of_ble_eq_true rfl, Nat.le_of_ble_eq_true rfl⟩) hK hNX hP hD hS 0 rfl rfl rfl rfl hl.1 rfl (Nat.le_of_ble_eq_true rfl) rd_M_up_32 ⟨Nat.zero_le _, Nat.zero_le _⟩ (fun o w1 H locs hq hP hD hS => ?_)
    obtain ⟨z, ⟨hz, hz0⟩, Vv_3, Jv_3, pbv_3, pev_3, obv_3, oev_3, rfl, rfl, hJv_3, kA1v_3, kU1v_3, kA2v_3, kU2v_3⟩ := hq
    have hP : va_P (dC, dI) vwCl (rC cI r ((Vv_3 0)) ((Vv_3 1)) ((Vv_3 2)) ((Vv_3 3)) ((Vv_3 4)) ((Vv_3 5)) ((Vv_3 6)) (A1) (U1) (A2) (U2) ((Jv_3 0)) ((Jv_3 1)) ((Jv_3 2)) ((Jv_3 3)) ((Jv_3 4)) ((Jv_3 5)) ((Jv_3 6)) ((Jv_3 7)) ((Jv_3 8)) ((Jv_3 9)) ((Jv_3 10)) (pbv_3) (pev_3) (obv_3) (oev_3) (b1) (e1) (b2) (e2)) H := hP
    have hD : va_D (ef_A (rC cI r ((V 0)) ((V 1)) ((V 2)) ((V 3)) ((V 4)) ((V 5)) ((V 6)) (A1) (U1) (A2) (U2) ((J 0)) ((J 1)) ((J 2)) ((J 3)) ((J 4)) ((J 5)) ((J 6)) ((J 7)) ((J 8)) ((J 9)) ((J 10)) (pb) (pe) (ob) (oe) (b1) (e1) (b2) (e2))) (rC cI r ((Vv_3 0)) ((Vv_3 1)) ((Vv_3 2)) ((Vv_3 3)) ((Vv_3 4)) ((Vv_3 5)) ((Vv_3 6)) (A1) (U1) (A2) (U2) ((Jv_3 0)) ((Jv_3 1)) ((Jv_3 2)) ((Jv_3 3)) ((Jv_3 4)) ((Jv_3 5)) ((Jv_3 6)) ((Jv_3 7)) ((Jv_3 8)) ((Jv_3 9)) ((Jv_3 10)) (pbv_3) (pev_3) (obv_3) (oev_3) (b1) (e1) (b2) (e2)) := hD
    refine W.eq (g2 := F0 m 35 ls [.long (jv ((z : Int) - 9223372036854775808))]) rfl ?_
    rw [h5, h6, hoe] at hz
    have hzb := rsz_le hz
    refine ef_callS (As := [.long (jv ((z : Int) - 9223372036854775808))]) (rest := []) ⟨hx, hb, hml, hown, hts⟩ (r_minusN l dC dI ht r z (by omega) hz0) (cwS 1 hts (ef_goodS rm_468 rm_469 rm_24 rm_470) rfl rfl rfl (by decide +kernel) ⟨Nat.le_of_ble_eq_true rfl, Nat.le_of_ble_eq_true rfl⟩) hK hNX hP hD hS rfl hl.1 rfl (Nat.le_of_ble_eq_true rfl) rd_M_up_35 ⟨Nat.zero_le _, Nat.zero_le _⟩ (fun o w1 H locs hq hP hD hS => ?_)
    obtain ⟨rfl, e9⟩ := hq
    rw [e9] at hP hD
    refine W.eq (g2 := F0 m 38 ls [.long (jv ((z : Int)))]) rfl ?_
    exact ef_lret hx hb hr hlocks hP hD hS rd_M_up_38 (by
        refine ⟨z, ?_, ?_⟩
        · rw [if_neg (by omega)]; exact hz
        · rw [if_pos (Or.inl c1)]; exact ⟨fun i => [((Vv_3 0)), ((Vv_3 1)), ((Vv_3 2)), ((Vv_3 3)), ((Vv_3 4)), ((Vv_3 5)), ((Vv_3 6))].getD i 0, fun i => [((Jv_3 0)), ((Jv_3 1)), ((Jv_3 2)), ((Jv_3 3)), ((Jv_3 4)), ((Jv_3 5)), ((Jv_3 6)), ((Jv_3 7)), ((Jv_3 8)), ((Jv_3 9)), ((Jv_3 10))].getD i (fun _ => 0), _, _, _, _, rfl, rfl, rJ_of (hJv_3 0 (by decide)) (hJv_3 1 (by decide)) (hJv_3 2 (by decide)) (hJv_3 3 (by decide)) (hJv_3 4 (by decide)) (hJv_3 5 (by decide)) (hJv_3 6 (by decide)), kA1v_3, kU1v_3, kA2v_3, kU2v_3⟩)

set_option maxRecDepth 100000 in
set_option maxHeartbeats 4000000 in
/-- up -/
theorem r_up1Z (l : Launch) (dC : Nat → ClassId) (dI : Nat → Nat → Nat) {cI : ClassId} {tys : List (ClassId × FieldType)} (ht : tys[0]? = some (cI, .int)) (r : Nat → Nat) {V : Nat → Nat} {J : Nat → Nat → Nat} {A1 U1 A2 U2 : Nat} {pb pe ob oe b1 e1 b2 e2 : Int} (hJ : rJ V J) (kA1 : bk A1 (J 7)) (kU1 : bk U1 (J 8)) (kA2 : bk A2 (J 9)) (kU2 : bk U2 (J 10)) (mA1 : dn A1 ≤ 300) (mU1 : dn U1 ≤ 300) (mA2 : dn A2 ≤ 300) (mU2 : dn U2 ≤ 300) (nU : U2 ≠ 0) (bA : bl A2 ≤ 4800) (bU : bl U2 ≤ 4800) (lee : -12000 ≤ e2) (gee : e2 ≤ 12000) (hbr : b2 = 0 ∨ b2 = 1) (hA : A2 = 0) : ef_C l ry_M_up rw_M_up ({ frames := 5, cells := 0, slots := 0, locals := 127 } : Room) [.ref (r 0), .ref (r 4)] (dC, dI) vwCl tys (rC cI r ((V 0)) ((V 1)) ((V 2)) ((V 3)) ((V 4)) ((V 5)) ((V 6)) (A1) (U1) (A2) (U2) ((J 0)) ((J 1)) ((J 2)) ((J 3)) ((J 4)) ((J 5)) ((J 6)) ((J 7)) ((J 8)) ((J 9)) ((J 10)) (pb) (pe) (ob) (oe) (b1) (e1) (b2) (e2)) (fun o w1 => ∃ (V2 : Nat → Nat) (J2 : Nat → Nat → Nat) (pb2 pe2 ob2 oe2 : Int), o = some (.long (jv 0)) ∧ w1 = rC cI r (V2 0) (V2 1) (V2 2) (V2 3) (V2 4) (V2 5) (V2 6) (A1) (U1) (A2) (U2) (J2 0) (J2 1) (J2 2) (J2 3) (J2 4) (J2 5) (J2 6) (J2 7) (J2 8) (J2 9) (J2 10) (pb2) (pe2) (ob2) (oe2) (b1) (e1) (b2) (e2) ∧ rJ V2 J2 ∧ bk (A1) (J2 7) ∧ bk (U1) (J2 8) ∧ bk (A2) (J2 9) ∧ bk (U2) (J2 10)) := by
  refine ef_C.of (cc := rc_M_up) (maxL := 2) (ret := (some .long)) (by decide) rfl (Nat.le_of_ble_eq_true rfl) ?_
  intro p e s m below meth c ls hx hb hml hr hts hown hlocks hK hNX hP hD hS hl
  have hl : lv_has ls 2 [(0, .ref (r 0)), (1, .ref (r 4))] := hl
  have hown : s.vm.findClass rR5 = some m.cls := hown
  generalize hH : s.heap = H at hP ⊢
  have hS : va_S (ef_A (rC cI r ((V 0)) ((V 1)) ((V 2)) ((V 3)) ((V 4)) ((V 5)) ((V 6)) (A1) (U1) (A2) (U2) ((J 0)) ((J 1)) ((J 2)) ((J 3)) ((J 4)) ((J 5)) ((J 6)) ((J 7)) ((J 8)) ((J 9)) ((J 10)) (pb) (pe) (ob) (oe) (b1) (e1) (b2) (e2))) s.heap H [] := by rw [← hH]; exact hS
  generalize ([] : List Loc) = locs at hS ⊢
  have hbi : ir b2 := by rcases hbr with h | h <;> rw [h] <;> exact ⟨by decide, by decide⟩
  refine lv_aload_n hx hb rd_M_up_0 rfl (lv_at hl 0 rfl) ?_
  refine va_get (D := (dC, dI)) (ci := 5) (v := .ref (r 2)) (C := rR5) (T := rT5) (N := 7) hx hb hts (fun w h => List.mem_cons_of_mem _ (rin5 w h)) hown hK hP 0 rfl rfl 3 (by decide) (hts _ (List.mem_cons_of_mem _ rm_313)) (fun _ h9 => h9) rfl rd_M_up_1 ?_
  refine lv_aload_n hx hb rd_M_up_4 rfl (lv_at hl 1 rfl) ?_
  refine ef_callV (As := [.ref (r 4)]) (rest := []) ⟨hx, hb, hml, hown, hts⟩ (r_ncopy1 l dC dI ht r hJ kA1 kU1 kA2 kU2 mA1 mU1 mA2 mU2 hbr) (cwV 1 hts (ef_goodV rm_444 rm_445 rm_446 rm_26 rm_447) rfl rfl rfl (by decide +kernel) ⟨Nat.le_of_ble_eq_true rfl, Nat.le_of_ble_eq_true rfl⟩) hK hNX hP hD hS 2 rfl rfl rfl rfl hl.1 rfl (Nat.le_of_ble_eq_true rfl) rd_M_up_5 ⟨Nat.zero_le _, Nat.zero_le _⟩ (fun o w1 H locs hq hP hD hS => ?_)
  obtain ⟨Vv_1, Jv_1, pbv_1, pev_1, obv_1, oev_1, h5, h6, hob, hoe, rfl, rfl, hJv_1, kA1v_1, kU1v_1, kA2v_1, kU2v_1⟩ := hq
  have hP : va_P (dC, dI) vwCl (rC cI r ((Vv_1 0)) ((Vv_1 1)) ((Vv_1 2)) ((Vv_1 3)) ((Vv_1 4)) ((Vv_1 5)) ((Vv_1 6)) (A1) (U1) (A2) (U2) ((Jv_1 0)) ((Jv_1 1)) ((Jv_1 2)) ((Jv_1 3)) ((Jv_1 4)) ((Jv_1 5)) ((Jv_1 6)) ((Jv_1 7)) ((Jv_1 8)) ((Jv_1 9)) ((Jv_1 10)) (pbv_1) (pev_1) (obv_1) (oev_1) (b1) (e1) (b2) (e2)) H := hP
  have hD : va_D (ef_A (rC cI r ((V 0)) ((V 1)) ((V 2)) ((V 3)) ((V 4)) ((V 5)) ((V 6)) (A1) (U1) (A2) (U2) ((J 0)) ((J 1)) ((J 2)) ((J 3)) ((J 4)) ((J 5)) ((J 6)) ((J 7)) ((J 8)) ((J 9)) ((J 10)) (pb) (pe) (ob) (oe) (b1) (e1) (b2) (e2))) (rC cI r ((Vv_1 0)) ((Vv_1 1)) ((Vv_1 2)) ((Vv_1 3)) ((Vv_1 4)) ((Vv_1 5)) ((Vv_1 6)) (A1) (U1) (A2) (U2) ((Jv_1 0)) ((Jv_1 1)) ((Jv_1 2)) ((Jv_1 3)) ((Jv_1 4)) ((Jv_1 5)) ((Jv_1 6)) ((Jv_1 7)) ((Jv_1 8)) ((Jv_1 9)) ((Jv_1 10)) (pbv_1) (pev_1) (obv_1) (oev_1) (b1) (e1) (b2) (e2)) := hD
  refine W.eq (g2 := F0 m 8 ls []) rfl ?_
  refine lv_aload_n hx hb rd_M_up_8 rfl (lv_at hl 0 rfl) ?_
  refine va_get (D := (dC, dI)) (ci := 5) (v := .ref (r 2)) (C := rR5) (T := rT5) (N := 7) hx hb hts (fun w h => List.mem_cons_of_mem _ (rin5 w h)) hown hK hP 0 rfl rfl 3 (by decide) (hts _ (List.mem_cons_of_mem _ rm_313)) (fun _ h9 => h9) rfl rd_M_up_9 ?_
  refine lv_aload_n hx hb rd_M_up_12 rfl (lv_at hl 1 rfl) ?_
  refine va_getN (D := (dC, dI)) (ci := 4) (v := .int (iv (b2))) (C := rR4) (T := rT4) (N := 4) hx hb hts (fun w h => List.mem_cons_of_mem _ (rin4 w h)) hown hK hP 4 rfl rfl 0 (by decide) (hNX.use rm_285 rfl) (fun _ h9 => h9) rfl rd_M_up_13 ?_
  refine iw_if_ne (tgt := 23) hx hb rd_M_up_16 (by decide) (hbi) (fun c1 => ?_) (fun c1 => ?_)
  ·
    refine lv_iconst (v := iv (0)) hx hb rd_M_up_23 (by decide) ?_
    refine va_putN (D := (dC, dI)) (ci := 4) (v := .int (iv (0))) (ty := .boolean) (C := rR4) (T := rT4) (N := 4) hx hb hts (fun w h => List.mem_cons_of_mem _ (rin4 w h)) rty4 rtyok4 rnm4 hown hK hP hD hS 2 rfl rfl 0 (by decide) (hNX.use rm_285 rfl) (fun _ h9 => h9) rfl (by decide +kernel) rfl rfl (Nat.le_of_ble_eq_true rfl) rd_M_up_24 (fun H locs hP hD hS => ?_)
    have hP : va_P (dC, dI) vwCl (rC cI r ((Vv_1 0)) ((Vv_1 1)) ((Vv_1 2)) ((Vv_1 3)) ((Vv_1 4)) ((Vv_1 5)) ((Vv_1 6)) (A1) (U1) (A2) (U2) ((Jv_1 0)) ((Jv_1 1)) ((Jv_1 2)) ((Jv_1 3)) ((Jv_1 4)) ((Jv_1 5)) ((Jv_1 6)) ((Jv_1 7)) ((Jv_1 8)) ((Jv_1 9)) ((Jv_1 10)) (pbv_1) (pev_1) (0) (oev_1) (b1) (e1) (b2) (e2)) H := hP
    have hD : va_D (ef_A (rC cI r ((V 0)) ((V 1)) ((V 2)) ((V 3)) ((V 4)) ((V 5)) ((V 6)) (A1) (U1) (A2) (U2) ((J 0)) ((J 1)) ((J 2)) ((J 3)) ((J 4)) ((J 5)) ((J 6)) ((J 7)) ((J 8)) ((J 9)) ((J 10)) (pb) (pe) (ob) (oe) (b1) (e1) (b2) (e2))) (rC cI r ((Vv_1 0)) ((Vv_1 1)) ((Vv_1 2)) ((Vv_1 3)) ((Vv_1 4)) ((Vv_1 5)) ((Vv_1 6)) (A1) (U1) (A2) (U2) ((Jv_1 0)) ((Jv_1 1)) ((Jv_1 2)) ((Jv_1 3)) ((Jv_1 4)) ((Jv_1 5)) ((Jv_1 6)) ((Jv_1 7)) ((Jv_1 8)) ((Jv_1 9)) ((Jv_1 10)) (pbv_1) (pev_1) (0) (oev_1) (b1) (e1) (b2) (e2)) := hD
    refine lv_aload_n hx hb rd_M_up_27 rfl (lv_at hl 0 rfl) ?_
    refine lv_aload_n hx hb rd_M_up_28 rfl (lv_at hl 0 rfl) ?_
    refine va_get (D := (dC, dI)) (ci := 5) (v := .ref (r 2)) (C := rR5) (T := rT5) (N := 7) hx hb hts (fun w h => List.mem_cons_of_mem _ (rin5 w h)) hown hK hP 0 rfl rfl 3 (by decide) (hts _ (List.mem_cons_of_mem _ rm_313)) (fun _ h9 => h9) rfl rd_M_up_29 ?_
    refine ef_callV (As := [.ref (r 2)]) (rest := []) ⟨hx, hb, hml, hown, hts⟩ (r_downOP l dC dI ht r hJv_1 kA1v_1 kU1v_1 kA2v_1 kU2v_1 mA1 mU1 mA2 mU2 (by rw [h6]; exact nU) (by rw [h5]; exact bA) (by rw [h6]; exact bU) (by rw [hoe]; exact lee) (by rw [hoe]; exact gee) (Or.inl rfl) (Or.inl (by rw [h5]; exact hA))) (cwV 1 hts (ef_goodV rm_449 rm_451 rm_18 rm_24 rm_452) rfl rfl rfl (by decide +kernel) ⟨Nat.le_of_ble_eq_true rfl, Nat.le_of_ble_eq_true rfl⟩) hK hNX hP hD hS 0 rfl rfl rfl rfl hl.1 rfl (Nat.le_of_ble_eq_true rfl) rd_M_up_32 ⟨Nat.zero_le _, Nat.zero_le _⟩ (fun o w1 H locs hq hP hD hS => ?_)
    obtain ⟨z, hz, Vv_2, Jv_2, pbv_2, pev_2, obv_2, oev_2, rfl, rfl, hJv_2, kA1v_2, kU1v_2, kA2v_2, kU2v_2⟩ := hq
    have hP : va_P (dC, dI) vwCl (rC cI r ((Vv_2 0)) ((Vv_2 1)) ((Vv_2 2)) ((Vv_2 3)) ((Vv_2 4)) ((Vv_2 5)) ((Vv_2 6)) (A1) (U1) (A2) (U2) ((Jv_2 0)) ((Jv_2 1)) ((Jv_2 2)) ((Jv_2 3)) ((Jv_2 4)) ((Jv_2 5)) ((Jv_2 6)) ((Jv_2 7)) ((Jv_2 8)) ((Jv_2 9)) ((Jv_2 10)) (pbv_2) (pev_2) (obv_2) (oev_2) (b1) (e1) (b2) (e2)) H := hP
    have hD : va_D (ef_A (rC cI r ((V 0)) ((V 1)) ((V 2)) ((V 3)) ((V 4)) ((V 5)) ((V 6)) (A1) (U1) (A2) (U2) ((J 0)) ((J 1)) ((J 2)) ((J 3)) ((J 4)) ((J 5)) ((J 6)) ((J 7)) ((J 8)) ((J 9)) ((J 10)) (pb) (pe) (ob) (oe) (b1) (e1) (b2) (e2))) (rC cI r ((Vv_2 0)) ((Vv_2 1)) ((Vv_2 2)) ((Vv_2 3)) ((Vv_2 4)) ((Vv_2 5)) ((Vv_2 6)) (A1) (U1) (A2) (U2) ((Jv_2 0)) ((Jv_2 1)) ((Jv_2 2)) ((Jv_2 3)) ((Jv_2 4)) ((Jv_2 5)) ((Jv_2 6)) ((Jv_2 7)) ((Jv_2 8)) ((Jv_2 9)) ((Jv_2 10)) (pbv_2) (pev_2) (obv_2) (oev_2) (b1) (e1) (b2) (e2)) := hD
    refine W.eq (g2 := F0 m 35 ls [.long (jv ((z : Int)))]) rfl ?_
    rw [h5, h6, hoe] at hz
    have hzb := hz.1
    have hz0 : z = 0 := isFl_zero nU hA hz
    refine iw_topl (y := jv (0)) (congrArg jv (by rw [hz0]; rfl : (((z : Int)) : Int) = (0))) ?_
    refine ef_callS (As := [.long (jv (0))]) (rest := []) ⟨hx, hb, hml, hown, hts⟩ (r_minus0 l dC dI ht r) (cwS 1 hts (ef_goodS rm_468 rm_469 rm_24 rm_470) rfl rfl rfl (by decide +kernel) ⟨Nat.le_of_ble_eq_true rfl, Nat.le_of_ble_eq_true rfl⟩) hK hNX hP hD hS rfl hl.1 rfl (Nat.le_of_ble_eq_true rfl) rd_M_up_35 ⟨Nat.zero_le _, Nat.zero_le _⟩ (fun o w1 H locs hq hP hD hS => ?_)
    obtain ⟨rfl, e9⟩ := hq
    rw [e9] at hP hD
    refine W.eq (g2 := F0 m 38 ls [.long (jv (0))]) rfl ?_
    exact ef_lret hx hb hr hlocks hP hD hS rd_M_up_38 (⟨fun i => [((Vv_2 0)), ((Vv_2 1)), ((Vv_2 2)), ((Vv_2 3)), ((Vv_2 4)), ((Vv_2 5)), ((Vv_2 6))].getD i 0, fun i => [((Jv_2 0)), ((Jv_2 1)), ((Jv_2 2)), ((Jv_2 3)), ((Jv_2 4)), ((Jv_2 5)), ((Jv_2 6)), ((Jv_2 7)), ((Jv_2 8)), ((Jv_2 9)), ((Jv_2 10))].getD i (fun _ => 0), _, _, _, _, rfl, rfl, rJ_of (hJv_2 0 (by decide)) (hJv_2 1 (by decide)) (hJv_2 2 (by decide)) (hJv_2 3 (by decide)) (hJv_2 4 (by decide)) (hJv_2 5 (by decide)) (hJv_2 6 (by decide)), kA1v_2, kU1v_2, kA2v_2, kU2v_2⟩)
  ·
    refine lv_iconst (v := iv (1)) hx hb rd_M_up_19 (by decide) ?_
    refine lv_goto (tgt := 24) hx hb rd_M_up_20 (by decide) ?_
    refine va_putN (D := (dC, dI)) (ci := 4) (v := .int (iv (1))) (ty := .boolean) (C := rR4) (T := rT4) (N := 4) hx hb hts (fun w h => List.mem_cons_of_mem _ (rin4 w h)) rty4 rtyok4 rnm4 hown hK hP hD hS 2 rfl rfl 0 (by decide) (hNX.use rm_285 rfl) (fun _ h9 => h9) rfl (by decide +kernel) rfl rfl (Nat.le_of_ble_eq_true rfl) rd_M_up_24 (fun H locs hP hD hS => ?_)
    have hP : va_P (dC, dI) vwCl (rC cI r ((Vv_1 0)) ((Vv_1 1)) ((Vv_1 2)) ((Vv_1 3)) ((Vv_1 4)) ((Vv_1 5)) ((Vv_1 6)) (A1) (U1) (A2) (U2) ((Jv_1 0)) ((Jv_1 1)) ((Jv_1 2)) ((Jv_1 3)) ((Jv_1 4)) ((Jv_1 5)) ((Jv_1 6)) ((Jv_1 7)) ((Jv_1 8)) ((Jv_1 9)) ((Jv_1 10)) (pbv_1) (pev_1) (1) (oev_1) (b1) (e1) (b2) (e2)) H := hP
    have hD : va_D (ef_A (rC cI r ((V 0)) ((V 1)) ((V 2)) ((V 3)) ((V 4)) ((V 5)) ((V 6)) (A1) (U1) (A2) (U2) ((J 0)) ((J 1)) ((J 2)) ((J 3)) ((J 4)) ((J 5)) ((J 6)) ((J 7)) ((J 8)) ((J 9)) ((J 10)) (pb) (pe) (ob) (oe) (b1) (e1) (b2) (e2))) (rC cI r ((Vv_1 0)) ((Vv_1 1)) ((Vv_1 2)) ((Vv_1 3)) ((Vv_1 4)) ((Vv_1 5)) ((Vv_1 6)) (A1) (U1) (A2) (U2) ((Jv_1 0)) ((Jv_1 1)) ((Jv_1 2)) ((Jv_1 3)) ((Jv_1 4)) ((Jv_1 5)) ((Jv_1 6)) ((Jv_1 7)) ((Jv_1 8)) ((Jv_1 9)) ((Jv_1 10)) (pbv_1) (pev_1) (1) (oev_1) (b1) (e1) (b2) (e2)) := hD
    refine lv_aload_n hx hb rd_M_up_27 rfl (lv_at hl 0 rfl) ?_
    refine lv_aload_n hx hb rd_M_up_28 rfl (lv_at hl 0 rfl) ?_
    refine va_get (D := (dC, dI)) (ci := 5) (v := .ref (r 2)) (C := rR5) (T := rT5) (N := 7) hx hb hts (fun w h => List.mem_cons_of_mem _ (rin5 w h)) hown hK hP 0 rfl rfl 3 (by decide) (hts _ (List.mem_cons_of_mem _ rm_313)) (fun _ h9 => h9) rfl rd_M_up_29 ?_
    refine ef_callV (As := [.ref (r 2)]) (rest := []) ⟨hx, hb, hml, hown, hts⟩ (r_downOP l dC dI ht r hJv_1 kA1v_1 kU1v_1 kA2v_1 kU2v_1 mA1 mU1 mA2 mU2 (by rw [h6]; exact nU) (by rw [h5]; exact bA) (by rw [h6]; exact bU) (by rw [hoe]; exact lee) (by rw [hoe]; exact gee) (Or.inr rfl) (Or.inl (by rw [h5]; exact hA))) (cwV 1 hts (ef_goodV rm_449 rm_451 rm_18 rm_24 rm_452) rfl rfl rfl (by decide +kernel) ⟨Nat.le_of_ble_eq_true rfl, Nat.le_of_ble_eq_true rfl⟩) hK hNX hP hD hS 0 rfl rfl rfl rfl hl.1 rfl (Nat.le_of_ble_eq_true rfl) rd_M_up_32 ⟨Nat.zero_le _, Nat.zero_le _⟩ (fun o w1 H locs hq hP hD hS => ?_)
    obtain ⟨z, hz, Vv_3, Jv_3, pbv_3, pev_3, obv_3, oev_3, rfl, rfl, hJv_3, kA1v_3, kU1v_3, kA2v_3, kU2v_3⟩ := hq
    have hP : va_P (dC, dI) vwCl (rC cI r ((Vv_3 0)) ((Vv_3 1)) ((Vv_3 2)) ((Vv_3 3)) ((Vv_3 4)) ((Vv_3 5)) ((Vv_3 6)) (A1) (U1) (A2) (U2) ((Jv_3 0)) ((Jv_3 1)) ((Jv_3 2)) ((Jv_3 3)) ((Jv_3 4)) ((Jv_3 5)) ((Jv_3 6)) ((Jv_3 7)) ((Jv_3 8)) ((Jv_3 9)) ((Jv_3 10)) (pbv_3) (pev_3) (obv_3) (oev_3) (b1) (e1) (b2) (e2)) H := hP
    have hD : va_D (ef_A (rC cI r ((V 0)) ((V 1)) ((V 2)) ((V 3)) ((V 4)) ((V 5)) ((V 6)) (A1) (U1) (A2) (U2) ((J 0)) ((J 1)) ((J 2)) ((J 3)) ((J 4)) ((J 5)) ((J 6)) ((J 7)) ((J 8)) ((J 9)) ((J 10)) (pb) (pe) (ob) (oe) (b1) (e1) (b2) (e2))) (rC cI r ((Vv_3 0)) ((Vv_3 1)) ((Vv_3 2)) ((Vv_3 3)) ((Vv_3 4)) ((Vv_3 5)) ((Vv_3 6)) (A1) (U1) (A2) (U2) ((Jv_3 0)) ((Jv_3 1)) ((Jv_3 2)) ((Jv_3 3)) ((Jv_3 4)) ((Jv_3 5)) ((Jv_3 6)) ((Jv_3 7)) ((Jv_3 8)) ((Jv_3 9)) ((Jv_3 10)) (pbv_3) (pev_3) (obv_3) (oev_3) (b1) (e1) (b2) (e2)) := hD
    refine W.eq (g2 := F0 m 35 ls [.long (jv ((z : Int)))]) rfl ?_
    rw [h5, h6, hoe] at hz
    have hzb := hz.1
    have hz0 : z = 0 := isFl_zero nU hA hz
    refine iw_topl (y := jv (0)) (congrArg jv (by rw [hz0]; rfl : (((z : Int)) : Int) = (0))) ?_
    refine ef_callS (As := [.long (jv (0))]) (rest := []) ⟨hx, hb, hml, hown, hts⟩ (r_minus0 l dC dI ht r) (cwS 1 hts (ef_goodS rm_468 rm_469 rm_24 rm_470) rfl rfl rfl (by decide +kernel) ⟨Nat.le_of_ble_eq_true rfl, Nat.le_of_ble_eq_true rfl⟩) hK hNX hP hD hS rfl hl.1 rfl (Nat.le_of_ble_eq_true rfl) rd_M_up_35 ⟨Nat.zero_le _, Nat.zero_le _⟩ (fun o w1 H locs hq hP hD hS => ?_)
    obtain ⟨rfl, e9⟩ := hq
    rw [e9] at hP hD
    refine W.eq (g2 := F0 m 38 ls [.long (jv (0))]) rfl ?_
    exact ef_lret hx hb hr hlocks hP hD hS rd_M_up_38 (⟨fun i => [((Vv_3 0)), ((Vv_3 1)), ((Vv_3 2)), ((Vv_3 3)), ((Vv_3 4)), ((Vv_3 5)), ((Vv_3 6))].getD i 0, fun i => [((Jv_3 0)), ((Jv_3 1)), ((Jv_3 2)), ((Jv_3 3)), ((Jv_3 4)), ((Jv_3 5)), ((Jv_3 6)), ((Jv_3 7)), ((Jv_3 8)), ((Jv_3 9)), ((Jv_3 10))].getD i (fun _ => 0), _, _, _, _, rfl, rfl, rJ_of (hJv_3 0 (by decide)) (hJv_3 1 (by decide)) (hJv_3 2 (by decide)) (hJv_3 3 (by decide)) (hJv_3 4 (by decide)) (hJv_3 5 (by decide)) (hJv_3 6 (by decide)), kA1v_3, kU1v_3, kA2v_3, kU2v_3⟩)

set_option maxRecDepth 100000 in
set_option maxHeartbeats 4000000 in
/-- up -/
theorem r_up1K (l : Launch) (dC : Nat → ClassId) (dI : Nat → Nat → Nat) {cI : ClassId} {tys : List (ClassId × FieldType)} (ht : tys[0]? = some (cI, .int)) (r : Nat → Nat) {V : Nat → Nat} {J : Nat → Nat → Nat} {A1 U1 A2 U2 : Nat} {pb pe ob oe b1 e1 b2 e2 : Int} (hJ : rJ V J) (kA1 : bk A1 (J 7)) (kU1 : bk U1 (J 8)) (kA2 : bk A2 (J 9)) (kU2 : bk U2 (J 10)) (mA1 : dn A1 ≤ 300) (mU1 : dn U1 ≤ 300) (mA2 : dn A2 ≤ 300) (mU2 : dn U2 ≤ 300) (nU : U2 ≠ 0) (bA : bl A2 ≤ 4800) (bU : bl U2 ≤ 4800) (lee : -12000 ≤ e2) (gee : e2 ≤ 12000) (hbr : b2 = 0 ∨ b2 = 1) (hA : A2 ≠ 0) : ef_C l ry_M_up rw_M_up ({ frames := 5, cells := 0, slots := 0, locals := 127 } : Room) [.ref (r 0), .ref (r 4)] (dC, dI) vwCl tys (rC cI r ((V 0)) ((V 1)) ((V 2)) ((V 3)) ((V 4)) ((V 5)) ((V 6)) (A1) (U1) (A2) (U2) ((J 0)) ((J 1)) ((J 2)) ((J 3)) ((J 4)) ((J 5)) ((J 6)) ((J 7)) ((J 8)) ((J 9)) ((J 10)) (pb) (pe) (ob) (oe) (b1) (e1) (b2) (e2)) (fun o w1 => ∃ z : Nat, rsz A2 U2 e2 (if 1 = b2 then 0 else 1) z ∧ ∃ (V2 : Nat → Nat) (J2 : Nat → Nat → Nat) (pb2 pe2 ob2 oe2 : Int), o = some (.long (jv (if b2 = 0 ∨ z = 0 then (z : Int) else (z : Int) - 9223372036854775808))) ∧ w1 = rC cI r (V2 0) (V2 1) (V2 2) (V2 3) (V2 4) (V2 5) (V2 6) (A1) (U1) (A2) (U2) (J2 0) (J2 1) (J2 2) (J2 3) (J2 4) (J2 5) (J2 6) (J2 7) (J2 8) (J2 9) (J2 10) (pb2) (pe2) (ob2) (oe2) (b1) (e1) (b2) (e2) ∧ rJ V2 J2 ∧ bk (A1) (J2 7) ∧ bk (U1) (J2 8) ∧ bk (A2) (J2 9) ∧ bk (U2) (J2 10)) := by
  refine ef_C.of (cc := rc_M_up) (maxL := 2) (ret := (some .long)) (by decide) rfl (Nat.le_of_ble_eq_true rfl) ?_
  intro p e s m below meth c ls hx hb hml hr hts hown hlocks hK hNX hP hD hS hl
  have hl : lv_has ls 2 [(0, .ref (r 0)), (1, .ref (r 4))] := hl
  have hown : s.vm.findClass rR5 = some m.cls := hown
  generalize hH : s.heap = H at hP ⊢
  have hS : va_S (ef_A (rC cI r ((V 0)) ((V 1)) ((V 2)) ((V 3)) ((V 4)) ((V 5)) ((V 6)) (A1) (U1) (A2) (U2) ((J 0)) ((J 1)) ((J 2)) ((J 3)) ((J 4)) ((J 5)) ((J 6)) ((J 7)) ((J 8)) ((J 9)) ((J 10)) (pb) (pe) (ob) (oe) (b1) (e1) (b2) (e2))) s.heap H [] := by rw [← hH]; exact hS
  generalize ([] : List Loc) = locs at hS ⊢
  have hbi : ir b2 := by rcases hbr with h | h <;> rw [h] <;> exact ⟨by decide, by decide⟩
  refine lv_aload_n hx hb rd_M_up_0 rfl (lv_at hl 0 rfl) ?_
  refine va_get (D := (dC, dI)) (ci := 5) (v := .ref (r 2)) (C := rR5) (T := rT5) (N := 7) hx hb hts (fun w h => List.mem_cons_of_mem _ (rin5 w h)) hown hK hP 0 rfl rfl 3 (by decide) (hts _ (List.mem_cons_of_mem _ rm_313)) (fun _ h9 => h9) rfl rd_M_up_1 ?_
  refine lv_aload_n hx hb rd_M_up_4 rfl (lv_at hl 1 rfl) ?_
  refine ef_callV (As := [.ref (r 4)]) (rest := []) ⟨hx, hb, hml, hown, hts⟩ (r_ncopy1 l dC dI ht r hJ kA1 kU1 kA2 kU2 mA1 mU1 mA2 mU2 hbr) (cwV 1 hts (ef_goodV rm_444 rm_445 rm_446 rm_26 rm_447) rfl rfl rfl (by decide +kernel) ⟨Nat.le_of_ble_eq_true rfl, Nat.le_of_ble_eq_true rfl⟩) hK hNX hP hD hS 2 rfl rfl rfl rfl hl.1 rfl (Nat.le_of_ble_eq_true rfl) rd_M_up_5 ⟨Nat.zero_le _, Nat.zero_le _⟩ (fun o w1 H locs hq hP hD hS => ?_)
  obtain ⟨Vv_1, Jv_1, pbv_1, pev_1, obv_1, oev_1, h5, h6, hob, hoe, rfl, rfl, hJv_1, kA1v_1, kU1v_1, kA2v_1, kU2v_1⟩ := hq
  have hP : va_P (dC, dI) vwCl (rC cI r ((Vv_1 0)) ((Vv_1 1)) ((Vv_1 2)) ((Vv_1 3)) ((Vv_1 4)) ((Vv_1 5)) ((Vv_1 6)) (A1) (U1) (A2) (U2) ((Jv_1 0)) ((Jv_1 1)) ((Jv_1 2)) ((Jv_1 3)) ((Jv_1 4)) ((Jv_1 5)) ((Jv_1 6)) ((Jv_1 7)) ((Jv_1 8)) ((Jv_1 9)) ((Jv_1 10)) (pbv_1) (pev_1) (obv_1) (oev_1) (b1) (e1) (b2) (e2)) H := hP
  have hD : va_D (ef_A (rC cI r ((V 0)) ((V 1)) ((V 2)) ((V 3)) ((V 4)) ((V 5)) ((V 6)) (A1) (U1) (A2) (U2) ((J 0)) ((J 1)) ((J 2)) ((J 3)) ((J 4)) ((J 5)) ((J 6)) ((J 7)) ((J 8)) ((J 9)) ((J 10)) (pb) (pe) (ob) (oe) (b1) (e1) (b2) (e2))) (rC cI r ((Vv_1 0)) ((Vv_1 1)) ((Vv_1 2)) ((Vv_1 3)) ((Vv_1 4)) ((Vv_1 5)) ((Vv_1 6)) (A1) (U1) (A2) (U2) ((Jv_1 0)) ((Jv_1 1)) ((Jv_1 2)) ((Jv_1 3)) ((Jv_1 4)) ((Jv_1 5)) ((Jv_1 6)) ((Jv_1 7)) ((Jv_1 8)) ((Jv_1 9)) ((Jv_1 10)) (pbv_1) (pev_1) (obv_1) (oev_1) (b1) (e1) (b2) (e2)) := hD
  refine W.eq (g2 := F0 m 8 ls []) rfl ?_
  refine lv_aload_n hx hb rd_M_up_8 rfl (lv_at hl 0 rfl) ?_
  refine va_get (D := (dC, dI)) (ci := 5) (v := .ref (r 2)) (C := rR5) (T := rT5) (N := 7) hx hb hts (fun w h => List.mem_cons_of_mem _ (rin5 w h)) hown hK hP 0 rfl rfl 3 (by decide) (hts _ (List.mem_cons_of_mem _ rm_313)) (fun _ h9 => h9) rfl rd_M_up_9 ?_
  refine lv_aload_n hx hb rd_M_up_12 rfl (lv_at hl 1 rfl) ?_
  refine va_getN (D := (dC, dI)) (ci := 4) (v := .int (iv (b2))) (C := rR4) (T := rT4) (N := 4) hx hb hts (fun w h => List.mem_cons_of_mem _ (rin4 w h)) hown hK hP 4 rfl rfl 0 (by decide) (hNX.use rm_285 rfl) (fun _ h9 => h9) rfl rd_M_up_13 ?_
  refine iw_if_ne (tgt := 23) hx hb rd_M_up_16 (by decide) (hbi) (fun c1 => ?_) (fun c1 => ?_)
  ·
    refine lv_iconst (v := iv (0)) hx hb rd_M_up_23 (by decide) ?_
    refine va_putN (D := (dC, dI)) (ci := 4) (v := .int (iv (0))) (ty := .boolean) (C := rR4) (T := rT4) (N := 4) hx hb hts (fun w h => List.mem_cons_of_mem _ (rin4 w h)) rty4 rtyok4 rnm4 hown hK hP hD hS 2 rfl rfl 0 (by decide) (hNX.use rm_285 rfl) (fun _ h9 => h9) rfl (by decide +kernel) rfl rfl (Nat.le_of_ble_eq_true rfl) rd_M_up_24 (fun H locs hP hD hS => ?_)
    have hP : va_P (dC, dI) vwCl (rC cI r ((Vv_1 0)) ((Vv_1 1)) ((Vv_1 2)) ((Vv_1 3)) ((Vv_1 4)) ((Vv_1 5)) ((Vv_1 6)) (A1) (U1) (A2) (U2) ((Jv_1 0)) ((Jv_1 1)) ((Jv_1 2)) ((Jv_1 3)) ((Jv_1 4)) ((Jv_1 5)) ((Jv_1 6)) ((Jv_1 7)) ((Jv_1 8)) ((Jv_1 9)) ((Jv_1 10)) (pbv_1) (pev_1) (0) (oev_1) (b1) (e1) (b2) (e2)) H := hP
    have hD : va_D (ef_A (rC cI r ((V 0)) ((V 1)) ((V 2)) ((V 3)) ((V 4)) ((V 5)) ((V 6)) (A1) (U1) (A2) (U2) ((J 0)) ((J 1)) ((J 2)) ((J 3)) ((J 4)) ((J 5)) ((J 6)) ((J 7)) ((J 8)) ((J 9)) ((J 10)) (pb) (pe) (ob) (oe) (b1) (e1) (b2) (e2))) (rC cI r ((Vv_1 0)) ((Vv_1 1)) ((Vv_1 2)) ((Vv_1 3)) ((Vv_1 4)) ((Vv_1 5)) ((Vv_1 6)) (A1) (U1) (A2) (U2) ((Jv_1 0)) ((Jv_1 1)) ((Jv_1 2)) ((Jv_1 3)) ((Jv_1 4)) ((Jv_1 5)) ((Jv_1 6)) ((Jv_1 7)) ((Jv_1 8)) ((Jv_1 9)) ((Jv_1 10)) (pbv_1) (pev_1) (0) (oev_1) (b1) (e1) (b2) (e2)) := hD
    refine lv_aload_n hx hb rd_M_up_27 rfl (lv_at hl 0 rfl) ?_
    refine lv_aload_n hx hb rd_M_up_28 rfl (lv_at hl 0 rfl) ?_
    refine va_get (D := (dC, dI)) (ci := 5) (v := .ref (r 2)) (C := rR5) (T := rT5) (N := 7) hx hb hts (fun w h => List.mem_cons_of_mem _ (rin5 w h)) hown hK hP 0 rfl rfl 3 (by decide) (hts _ (List.mem_cons_of_mem _ rm_313)) (fun _ h9 => h9) rfl rd_M_up_29 ?_
    refine ef_callV (As := [.ref (r 2)]) (rest := []) ⟨hx, hb, hml, hown, hts⟩ (r_downOP l dC dI ht r hJv_1 kA1v_1 kU1v_1 kA2v_1 kU2v_1 mA1 mU1 mA2 mU2 (by rw [h6]; exact nU) (by rw [h5]; exact bA) (by rw [h6]; exact bU) (by rw [hoe]; exact lee) (by rw [hoe]; exact gee) (Or.inl rfl) (Or.inr rfl)) (cwV 1 hts (ef_goodV rm_449 rm_451 rm_18 rm_24 rm_452) rfl rfl rfl (by decide +kernel) ⟨Nat.le_of_ble_eq_true rfl, Nat.le_of_ble_eq_true rfl⟩) hK hNX hP hD hS 0 rfl rfl rfl rfl hl.1 rfl (Nat.le_of_ble_eq_true rfl) rd_M_up_32 ⟨Nat.zero_le _, Nat.zero_le _⟩ (fun o w1 H locs hq hP hD hS => ?_)
    obtain ⟨z, hz, Vv_2, Jv_2, pbv_2, pev_2, obv_2, oev_2, rfl, rfl, hJv_2, kA1v_2, kU1v_2, kA2v_2, kU2v_2⟩ := hq
    have hP : va_P (dC, dI) vwCl (rC cI r ((Vv_2 0)) ((Vv_2 1)) ((Vv_2 2)) ((Vv_2 3)) ((Vv_2 4)) ((Vv_2 5)) ((Vv_2 6)) (A1) (U1) (A2) (U2) ((Jv_2 0)) ((Jv_2 1)) ((Jv_2 2)) ((Jv_2 3)) ((Jv_2 4)) ((Jv_2 5)) ((Jv_2 6)) ((Jv_2 7)) ((Jv_2 8)) ((Jv_2 9)) ((Jv_2 10)) (pbv_2) (pev_2) (obv_2) (oev_2) (b1) (e1) (b2) (e2)) H := hP
    have hD : va_D (ef_A (rC cI r ((V 0)) ((V 1)) ((V 2)) ((V 3)) ((V 4)) ((V 5)) ((V 6)) (A1) (U1) (A2) (U2) ((J 0)) ((J 1)) ((J 2)) ((J 3)) ((J 4)) ((J 5)) ((J 6)) ((J 7)) ((J 8)) ((J 9)) ((J 10)) (pb) (pe) (ob) (oe) (b1) (e1) (b2) (e2))) (rC cI r ((Vv_2 0)) ((Vv_2 1)) ((Vv_2 2)) ((Vv_2 3)) ((Vv_2 4)) ((Vv_2 5)) ((Vv_2 6)) (A1) (U1) (A2) (U2) ((Jv_2 0)) ((Jv_2 1)) ((Jv_2 2)) ((Jv_2 3)) ((Jv_2 4)) ((Jv_2 5)) ((Jv_2 6)) ((Jv_2 7)) ((Jv_2 8)) ((Jv_2 9)) ((Jv_2 10)) (pbv_2) (pev_2) (obv_2) (oev_2) (b1) (e1) (b2) (e2)) := hD
    refine W.eq (g2 := F0 m 35 ls [.long (jv ((z : Int)))]) rfl ?_
    rw [h5, h6, hoe] at hz
    have hzb := hz.1
    have hrz : rsz A2 U2 e2 (if 1 = b2 then 0 else 1) z := ⟨z, hz, Or.inl ⟨Or.inl (if_pos (by omega)), rfl⟩⟩
    rcases Nat.eq_zero_or_pos z with hz0 | hz0
    ·
      refine iw_topl (y := jv (0)) (congrArg jv (by rw [hz0]; rfl : (((z : Int)) : Int) = (0))) ?_
      refine ef_callS (As := [.long (jv (0))]) (rest := []) ⟨hx, hb, hml, hown, hts⟩ (r_minus0 l dC dI ht r) (cwS 1 hts (ef_goodS rm_468 rm_469 rm_24 rm_470) rfl rfl rfl (by decide +kernel) ⟨Nat.le_of_ble_eq_true rfl, Nat.le_of_ble_eq_true rfl⟩) hK hNX hP hD hS rfl hl.1 rfl (Nat.le_of_ble_eq_true rfl) rd_M_up_35 ⟨Nat.zero_le _, Nat.zero_le _⟩ (fun o w1 H locs hq hP hD hS => ?_)
      obtain ⟨rfl, e9⟩ := hq
      rw [e9] at hP hD
      refine W.eq (g2 := F0 m 38 ls [.long (jv (0))]) rfl ?_
      exact ef_lret hx hb hr hlocks hP hD hS rd_M_up_38 (by
          refine ⟨z, hrz, ?_⟩
          rw [if_pos (Or.inr hz0), hz0]; exact ⟨fun i => [((Vv_2 0)), ((Vv_2 1)), ((Vv_2 2)), ((Vv_2 3)), ((Vv_2 4)), ((Vv_2 5)), ((Vv_2 6))].getD i 0, fun i => [((Jv_2 0)), ((Jv_2 1)), ((Jv_2 2)), ((Jv_2 3)), ((Jv_2 4)), ((Jv_2 5)), ((Jv_2 6)), ((Jv_2 7)), ((Jv_2 8)), ((Jv_2 9)), ((Jv_2 10))].getD i (fun _ => 0), _, _, _, _, rfl, rfl, rJ_of (hJv_2 0 (by decide)) (hJv_2 1 (by decide)) (hJv_2 2 (by decide)) (hJv_2 3 (by decide)) (hJv_2 4 (by decide)) (hJv_2 5 (by decide)) (hJv_2 6 (by decide)), kA1v_2, kU1v_2, kA2v_2, kU2v_2⟩)
    ·
      refine ef_callS (As := [.long (jv ((z : Int)))]) (rest := []) ⟨hx, hb, hml, hown, hts⟩ (r_minusP l dC dI ht r z (by omega) (by omega)) (cwS 1 hts (ef_goodS rm_468 rm_469 rm_24 rm_470) rfl rfl rfl (by decide +kernel) ⟨Nat.le_of_ble_eq_true rfl, Nat.le_of_ble_eq_true rfl⟩) hK hNX hP hD hS rfl hl.1 rfl (Nat.le_of_ble_eq_true rfl) rd_M_up_35 ⟨Nat.zero_le _, Nat.zero_le _⟩ (fun o w1 H locs hq hP hD hS => ?_)
      obtain ⟨rfl, e9⟩ := hq
      rw [e9] at hP hD
      refine W.eq (g2 := F0 m 38 ls [.long (jv ((z : Int) - 9223372036854775808))]) rfl ?_
      exact ef_lret hx hb hr hlocks hP hD hS rd_M_up_38 (by
          refine ⟨z, hrz, ?_⟩
          rw [if_neg (by omega)]; exact ⟨fun i => [((Vv_2 0)), ((Vv_2 1)), ((Vv_2 2)), ((Vv_2 3)), ((Vv_2 4)), ((Vv_2 5)), ((Vv_2 6))].getD i 0, fun i => [((Jv_2 0)), ((Jv_2 1)), ((Jv_2 2)), ((Jv_2 3)), ((Jv_2 4)), ((Jv_2 5)), ((Jv_2 6)), ((Jv_2 7)), ((Jv_2 8)), ((Jv_2 9)), ((Jv_2 10))].getD i (fun _ => 0), _, _, _, _, rfl, rfl, rJ_of (hJv_2 0 (by decide)) (hJv_2 1 (by decide)) (hJv_2 2 (by decide)) (hJv_2 3 (by decide)) (hJv_2 4 (by decide)) (hJv_2 5 (by decide)) (hJv_2 6 (by decide)), kA1v_2, kU1v_2, kA2v_2, kU2v_2⟩)
  ·
    refine lv_iconst (v := iv (1)) hx hb rd_M_up_19 (by decide) ?_
    refine lv_goto (tgt := 24) hx hb rd_M_up_20 (by decide) ?_
    refine va_putN (D := (dC, dI)) (ci := 4) (v := .int (iv (1))) (ty := .boolean) (C := rR4) (T := rT4) (N := 4) hx hb hts (fun w h => List.mem_cons_of_mem _ (rin4 w h)) rty4 rtyok4 rnm4 hown hK hP hD hS 2 rfl rfl 0 (by decide) (hNX.use rm_285 rfl) (fun _ h9 => h9) rfl (by decide +kernel) rfl rfl (Nat.le_of_ble_eq_true rfl) rd_M_up_24 (fun H locs hP hD hS => ?_)
    have hP : va_P (dC, dI) vwCl (rC cI r ((Vv_1 0)) ((Vv_1 1)) ((Vv_1 2)) ((Vv_1 3)) ((Vv_1 4)) ((Vv_1 5)) ((Vv_1 6)) (A1) (U1) (A2) (U2) ((Jv_1 0)) ((Jv_1 1)) ((Jv_1 2)) ((Jv_1 3)) ((Jv_1 4)) ((Jv_1 5)) ((Jv_1 6)) ((Jv_1 7)) ((Jv_1 8)) ((Jv_1 9)) ((Jv_1 10)) (pbv_1) (pev_1) (1) (oev_1) (b1) (e1) (b2) (e2)) H := hP
    have hD : va_D (ef_A (rC cI r ((V 0)) ((V 1)) ((V 2)) ((V 3)) ((V 4)) ((V 5)) ((V 6)) (A1) (U1) (A2) (U2) ((J 0)) ((J 1)) ((J 2)) ((J 3)) ((J 4)) ((J 5)) ((J 6)) ((J 7)) ((J 8)) ((J 9)) ((J 10)) (pb) (pe) (ob) (oe) (b1) (e1) (b2) (e2))) (rC cI r ((Vv_1 0)) ((Vv_1 1)) ((Vv_1 2)) ((Vv_1 3)) ((Vv_1 4)) ((Vv_1 5)) ((Vv_1 6)) (A1) (U1) (A2) (U2) ((Jv_1 0)) ((Jv_1 1)) ((Jv_1 2)) ((Jv_1 3)) ((Jv_1 4)) ((Jv_1 5)) ((Jv_1 6)) ((Jv_1 7)) ((Jv_1 8)) ((Jv_1 9)) ((Jv_1 10)) (pbv_1) (pev_1) (1) (oev_1) (b1) (e1) (b2) (e2)) := hD
    refine lv_aload_n hx hb rd_M_up_27 rfl (lv_at hl 0 rfl) ?_
    refine lv_aload_n hx hb rd_M_up_28 rfl (lv_at hl 0 rfl) ?_
    refine va_get (D := (dC, dI)) (ci := 5) (v := .ref (r 2)) (C := rR5) (T := rT5) (N := 7) hx hb hts (fun w h => List.mem_cons_of_mem _ (rin5 w h)) hown hK hP 0 rfl rfl 3 (by decide) (hts _ (List.mem_cons_of_mem _ rm_313)) (fun _ h9 => h9) rfl rd_M_up_29 ?_
    refine ef_callV (As := [.ref (r 2)]) (rest := []) ⟨hx, hb, hml, hown, hts⟩ (r_downON l dC dI ht r hJv_1 kA1v_1 kU1v_1 kA2v_1 kU2v_1 mA1 mU1 mA2 mU2 (by rw [h6]; exact nU) (by rw [h5]; exact bA) (by rw [h6]; exact bU) (by rw [hoe]; exact lee) (by rw [hoe]; exact gee) (Or.inr rfl) (by rw [h5]; exact hA) rfl) (cwV 1 hts (ef_goodV rm_449 rm_451 rm_18 rm_24 rm_452) rfl rfl rfl (by decide +kernel) ⟨Nat.le_of_ble_eq_true rfl, Nat.le_of_ble_eq_true rfl⟩) hK hNX hP hD hS 0 rfl rfl rfl rfl hl.1 rfl (Nat.le_of_ble_eq_true rfl) rd_M_up_32 ⟨Nat.zero_le _, Nat.zero_le _⟩ (fun o w1 H locs hq hP hD hS => ?_)
    obtain ⟨z, ⟨hz, hz0⟩, Vv_3, Jv_3, pbv_3, pev_3, obv_3, oev_3, rfl, rfl, hJv_3, kA1v_3, kU1v_3, kA2v_3, kU2v_3⟩ := hq
    have hP : va_P (dC, dI) vwCl (rC cI r ((Vv_3 0)) ((Vv_3 1)) ((Vv_3 2)) ((Vv_3 3)) ((Vv_3 4)) ((Vv_3 5)) ((Vv_3 6)) (A1) (U1) (A2) (U2) ((Jv_3 0)) ((Jv_3 1)) ((Jv_3 2)) ((Jv_3 3)) ((Jv_3 4)) ((Jv_3 5)) ((Jv_3 6)) ((Jv_3 7)) ((Jv_3 8)) ((Jv_3 9)) ((Jv_3 10)) (pbv_3) (pev_3) (obv_3) (oev_3) (b1) (e1) (b2) (e2)) H := hP
    have hD : va_D (ef_A (rC cI r ((V 0)) ((V 1)) ((V 2)) ((V 3)) ((V 4)) ((V 5)) ((V 6)) (A1) (U1) (A2) (U2) ((J 0)) ((J 1)) ((J 2)) ((J 3)) ((J 4)) ((J 5)) ((J 6)) ((J 7)) ((J 8)) ((J 9)) ((J 10)) (pb) (pe) (ob) (oe) (b1) (e1) (b2) (e2))) (rC cI r ((Vv_3 0)) ((Vv_3 1)) ((Vv_3 2)) ((Vv_3 3)) ((Vv_3 4)) ((Vv_3 5)) ((Vv_3 6)) (A1) (U1) (A2) (U2) ((Jv_3 0)) ((Jv_3 1)) ((Jv_3 2)) ((Jv_3 3)) ((Jv_3 4)) ((Jv_3 5)) ((Jv_3 6)) ((Jv_3 7)) ((Jv_3 8)) ((Jv_3 9)) ((Jv_3 10)) (pbv_3) (pev_3) (obv_3) (oev_3) (b1) (e1) (b2) (e2)) := hD
    refine W.eq (g2 := F0 m 35 ls [.long (jv ((z : Int) - 9223372036854775808))]) rfl ?_
    rw [h5, h6, hoe] at hz
    have hzb := rsz_le hz
    refine ef_callS (As := [.long (jv ((z : Int) - 9223372036854775808))]) (rest := []) ⟨hx, hb, hml, hown, hts⟩ (r_minusN l dC dI ht r z (by omega) hz0) (cwS 1 hts (ef_goodS rm_468 rm_469 rm_24 rm_470) rfl rfl rfl (by decide +kernel) ⟨Nat.le_of_ble_eq_true rfl, Nat.le_of_ble_eq_true rfl⟩) hK hNX hP hD hS rfl hl.1 rfl (Nat.le_of_ble_eq_true rfl) rd_M_up_35 ⟨Nat.zero_le _, Nat.zero_le _⟩ (fun o w1 H locs hq hP hD hS => ?_)
    obtain ⟨rfl, e9⟩ := hq
    rw [e9] at hP hD
    refine W.eq (g2 := F0 m 38 ls [.long (jv ((z : Int)))]) rfl ?_
    exact ef_lret hx hb hr hlocks hP hD hS rd_M_up_38 (by
        refine ⟨z, ?_, ?_⟩
        · rw [if_neg (by omega)]; exact hz
        · rw [if_pos (Or.inl c1)]; exact ⟨fun i => [((Vv_3 0)), ((Vv_3 1)), ((Vv_3 2)), ((Vv_3 3)), ((Vv_3 4)), ((Vv_3 5)), ((Vv_3 6))].getD i 0, fun i => [((Jv_3 0)), ((Jv_3 1)), ((Jv_3 2)), ((Jv_3 3)), ((Jv_3 4)), ((Jv_3 5)), ((Jv_3 6)), ((Jv_3 7)), ((Jv_3 8)), ((Jv_3 9)), ((Jv_3 10))].getD i (fun _ => 0), _, _, _, _, rfl, rfl, rJ_of (hJv_3 0 (by decide)) (hJv_3 1 (by decide)) (hJv_3 2 (by decide)) (hJv_3 3 (by decide)) (hJv_3 4 (by decide)) (hJv_3 5 (by decide)) (hJv_3 6 (by decide)), kA1v_3, kU1v_3, kA2v_3, kU2v_3⟩)

set_option maxRecDepth 100000 in
set_option maxHeartbeats 4000000 in
/-- round -/
theorem r_round0Z (l : Launch) (dC : Nat → ClassId) (dI : Nat → Nat → Nat) {cI : ClassId} {tys : List (ClassId × FieldType)} (ht : tys[0]? = some (cI, .int)) (r : Nat → Nat) {V : Nat → Nat} {J : Nat → Nat → Nat} {A1 U1 A2 U2 : Nat} {pb pe ob oe b1 e1 b2 e2 : Int} (hJ : rJ V J) (kA1 : bk A1 (J 7)) (kU1 : bk U1 (J 8)) (kA2 : bk A2 (J 9)) (kU2 : bk U2 (J 10)) (mA1 : dn A1 ≤ 300) (mU1 : dn U1 ≤ 300) (mA2 : dn A2 ≤ 300) (mU2 : dn U2 ≤ 300) (nU : U1 ≠ 0) (bA : bl A1 ≤ 4800) (bU : bl U1 ≤ 4800) (lee : -12000 ≤ e1) (gee : e1 ≤ 12000) (hbr : b1 = 0 ∨ b1 = 1) (hA : A1 = 0) (up : Int) (hup : up = 0 ∨ up = 1) : ef_C l ry_M_round rw_M_round ({ frames := 6, cells := 0, slots := 0, locals := 148 } : Room) [.ref (r 0), .int (iv (0)), .int (iv (up))] (dC, dI) vwCl tys (rC cI r ((V 0)) ((V 1)) ((V 2)) ((V 3)) ((V 4)) ((V 5)) ((V 6)) (A1) (U1) (A2) (U2) ((J 0)) ((J 1)) ((J 2)) ((J 3)) ((J 4)) ((J 5)) ((J 6)) ((J 7)) ((J 8)) ((J 9)) ((J 10)) (pb) (pe) (ob) (oe) (b1) (e1) (b2) (e2)) (fun o w1 => ∃ (V2 : Nat → Nat) (J2 : Nat → Nat → Nat) (pb2 pe2 ob2 oe2 : Int), o = some (.long (jv 0)) ∧ w1 = rC cI r (V2 0) (V2 1) (V2 2) (V2 3) (V2 4) (V2 5) (V2 6) (A1) (U1) (A2) (U2) (J2 0) (J2 1) (J2 2) (J2 3) (J2 4) (J2 5) (J2 6) (J2 7) (J2 8) (J2 9) (J2 10) (pb2) (pe2) (ob2) (oe2) (b1) (e1) (b2) (e2) ∧ rJ V2 J2 ∧ bk (A1) (J2 7) ∧ bk (U1) (J2 8) ∧ bk (A2) (J2 9) ∧ bk (U2) (J2 10)) := by
  refine ef_C.of (cc := rc_M_round) (maxL := 3) (ret := (some .long)) (by decide) rfl (Nat.le_of_ble_eq_true rfl) ?_
  intro p e s m below meth c ls hx hb hml hr hts hown hlocks hK hNX hP hD hS hl
  have hl : lv_has ls 3 [(0, .ref (r 0)), (1, .int (iv (0))), (2, .int (iv (up)))] := hl
  have hown : s.vm.findClass rR5 = some m.cls := hown
  generalize hH : s.heap = H at hP ⊢
  have hS : va_S (ef_A (rC cI r ((V 0)) ((V 1)) ((V 2)) ((V 3)) ((V 4)) ((V 5)) ((V 6)) (A1) (U1) (A2) (U2) ((J 0)) ((J 1)) ((J 2)) ((J 3)) ((J 4)) ((J 5)) ((J 6)) ((J 7)) ((J 8)) ((J 9)) ((J 10)) (pb) (pe) (ob) (oe) (b1) (e1) (b2) (e2))) s.heap H [] := by rw [← hH]; exact hS
  generalize ([] : List Loc) = locs at hS ⊢
  have hui : ir up := by rcases hup with h | h <;> rw [h] <;> exact ⟨by decide, by decide⟩
  refine lv_iload_n hx hb rd_M_round_0 rfl (lv_at hl 1 rfl) ?_
  refine ef_callS (As := [.int (iv (0))]) (rest := []) ⟨hx, hb, hml, hown, hts⟩ (r_isNumber0 l dC dI ht r) (cwS 1 hts (ef_goodS rm_336 rm_337 rm_24 rm_338) rfl rfl rfl (by decide +kernel) ⟨Nat.le_of_ble_eq_true rfl, Nat.le_of_ble_eq_true rfl⟩) hK hNX hP hD hS rfl hl.1 rfl (Nat.le_of_ble_eq_true rfl) rd_M_round_1 ⟨Nat.zero_le _, Nat.zero_le _⟩ (fun o w1 H locs hq hP hD hS => ?_)
  obtain ⟨rfl, e9⟩ := hq
  rw [e9] at hP hD
  refine W.eq (g2 := F0 m 4 ls [.int (iv (1))]) rfl ?_
  refine iw_if_ne (tgt := 11) hx hb rd_M_round_4 (by decide) ⟨by omega, by omega⟩ (fun k1 => ?_) (fun k1 => ?_)
  ·
    refine lv_iload_n hx hb rd_M_round_11 rfl (lv_at hl 2 rfl) ?_
    refine iw_if_eq (tgt := 27) hx hb rd_M_round_12 (by decide) (hui) (fun c1 => ?_) (fun c1 => ?_)
    ·
      refine lv_aload_n hx hb rd_M_round_27 rfl (lv_at hl 0 rfl) ?_
      refine lv_aload_n hx hb rd_M_round_28 rfl (lv_at hl 0 rfl) ?_
      refine lv_iload_n hx hb rd_M_round_29 rfl (lv_at hl 1 rfl) ?_
      refine ef_callV (As := [.int (iv (0))]) (rest := [.ref (r 0)]) ⟨hx, hb, hml, hown, hts⟩ (r_numberOf0 l dC dI ht r) (cwV 1 hts (ef_goodV rm_339 rm_341 rm_12 rm_24 rm_342) rfl rfl rfl (by decide +kernel) ⟨Nat.le_of_ble_eq_true rfl, Nat.le_of_ble_eq_true rfl⟩) hK hNX hP hD hS 0 rfl rfl rfl rfl hl.1 rfl (Nat.le_of_ble_eq_true rfl) rd_M_round_30 ⟨Nat.zero_le _, Nat.zero_le _⟩ (fun o w1 H locs hq hP hD hS => ?_)
      obtain ⟨rfl, e9⟩ := hq
      rw [e9] at hP hD
      refine W.eq (g2 := F0 m 33 ls [.ref (r 3), .ref (r 0)]) rfl ?_
      refine ef_callV (As := [.ref (r 3)]) (rest := []) ⟨hx, hb, hml, hown, hts⟩ (r_down0P l dC dI ht r hJ kA1 kU1 kA2 kU2 mA1 mU1 mA2 mU2 nU bA bU lee gee hbr (Or.inl hA)) (cwV 1 hts (ef_goodV rm_449 rm_451 rm_18 rm_24 rm_452) rfl rfl rfl (by decide +kernel) ⟨Nat.le_of_ble_eq_true rfl, Nat.le_of_ble_eq_true rfl⟩) hK hNX hP hD hS 0 rfl rfl rfl rfl hl.1 rfl (Nat.le_of_ble_eq_true rfl) rd_M_round_33 ⟨Nat.zero_le _, Nat.zero_le _⟩ (fun o w1 H locs hq hP hD hS => ?_)
      obtain ⟨z, hz, Vv_1, Jv_1, pbv_1, pev_1, obv_1, oev_1, rfl, rfl, hJv_1, kA1v_1, kU1v_1, kA2v_1, kU2v_1⟩ := hq
      have hP : va_P (dC, dI) vwCl (rC cI r ((Vv_1 0)) ((Vv_1 1)) ((Vv_1 2)) ((Vv_1 3)) ((Vv_1 4)) ((Vv_1 5)) ((Vv_1 6)) (A1) (U1) (A2) (U2) ((Jv_1 0)) ((Jv_1 1)) ((Jv_1 2)) ((Jv_1 3)) ((Jv_1 4)) ((Jv_1 5)) ((Jv_1 6)) ((Jv_1 7)) ((Jv_1 8)) ((Jv_1 9)) ((Jv_1 10)) (pbv_1) (pev_1) (obv_1) (oev_1) (b1) (e1) (b2) (e2)) H := hP
      have hD : va_D (ef_A (rC cI r ((V 0)) ((V 1)) ((V 2)) ((V 3)) ((V 4)) ((V 5)) ((V 6)) (A1) (U1) (A2) (U2) ((J 0)) ((J 1)) ((J 2)) ((J 3)) ((J 4)) ((J 5)) ((J 6)) ((J 7)) ((J 8)) ((J 9)) ((J 10)) (pb) (pe) (ob) (oe) (b1) (e1) (b2) (e2))) (rC cI r ((Vv_1 0)) ((Vv_1 1)) ((Vv_1 2)) ((Vv_1 3)) ((Vv_1 4)) ((Vv_1 5)) ((Vv_1 6)) (A1) (U1) (A2) (U2) ((Jv_1 0)) ((Jv_1 1)) ((Jv_1 2)) ((Jv_1 3)) ((Jv_1 4)) ((Jv_1 5)) ((Jv_1 6)) ((Jv_1 7)) ((Jv_1 8)) ((Jv_1 9)) ((Jv_1 10)) (pbv_1) (pev_1) (obv_1) (oev_1) (b1) (e1) (b2) (e2)) := hD
      have hz0 : z = 0 := isFl_zero nU hA hz
      subst hz0
      refine W.eq (g2 := F0 m 36 ls [.long (jv (((0 : Nat) : Int)))]) rfl ?_
      refine iw_topl (y := jv (0)) (congrArg jv (by rfl : ((((0 : Nat) : Int)) : Int) = (0))) ?_
      exact ef_lret hx hb hr hlocks hP hD hS rd_M_round_36 (⟨fun i => [((Vv_1 0)), ((Vv_1 1)), ((Vv_1 2)), ((Vv_1 3)), ((Vv_1 4)), ((Vv_1 5)), ((Vv_1 6))].getD i 0, fun i => [((Jv_1 0)), ((Jv_1 1)), ((Jv_1 2)), ((Jv_1 3)), ((Jv_1 4)), ((Jv_1 5)), ((Jv_1 6)), ((Jv_1 7)), ((Jv_1 8)), ((Jv_1 9)), ((Jv_1 10))].getD i (fun _ => 0), _, _, _, _, rfl, rfl, rJ_of (hJv_1 0 (by decide)) (hJv_1 1 (by decide)) (hJv_1 2 (by decide)) (hJv_1 3 (by decide)) (hJv_1 4 (by decide)) (hJv_1 5 (by decide)) (hJv_1 6 (by decide)), kA1v_1, kU1v_1, kA2v_1, kU2v_1⟩)
    ·
      have hu1 : up = 1 := by omega
      refine lv_aload_n hx hb rd_M_round_15 rfl (lv_at hl 0 rfl) ?_
      refine lv_aload_n hx hb rd_M_round_16 rfl (lv_at hl 0 rfl) ?_
      refine lv_iload_n hx hb rd_M_round_17 rfl (lv_at hl 1 rfl) ?_
      refine ef_callV (As := [.int (iv (0))]) (rest := [.ref (r 0)]) ⟨hx, hb, hml, hown, hts⟩ (r_numberOf0 l dC dI ht r) (cwV 1 hts (ef_goodV rm_339 rm_341 rm_12 rm_24 rm_342) rfl rfl rfl (by decide +kernel) ⟨Nat.le_of_ble_eq_true rfl, Nat.le_of_ble_eq_true rfl⟩) hK hNX hP hD hS 0 rfl rfl rfl rfl hl.1 rfl (Nat.le_of_ble_eq_true rfl) rd_M_round_18 ⟨Nat.zero_le _, Nat.zero_le _⟩ (fun o w1 H locs hq hP hD hS => ?_)
      obtain ⟨rfl, e9⟩ := hq
      rw [e9] at hP hD
      refine W.eq (g2 := F0 m 21 ls [.ref (r 3), .ref (r 0)]) rfl ?_
      refine ef_callV (As := [.ref (r 3)]) (rest := []) ⟨hx, hb, hml, hown, hts⟩ (r_up0Z l dC dI ht r hJ kA1 kU1 kA2 kU2 mA1 mU1 mA2 mU2 nU bA bU lee gee hbr hA) (cwV 1 hts (ef_goodV rm_440 rm_442 rm_17 rm_24 rm_443) rfl rfl rfl (by decide +kernel) ⟨Nat.le_of_ble_eq_true rfl, Nat.le_of_ble_eq_true rfl⟩) hK hNX hP hD hS 0 rfl rfl rfl rfl hl.1 rfl (Nat.le_of_ble_eq_true rfl) rd_M_round_21 ⟨Nat.zero_le _, Nat.zero_le _⟩ (fun o w1 H locs hq hP hD hS => ?_)
      obtain ⟨Vv_2, Jv_2, pbv_2, pev_2, obv_2, oev_2, rfl, rfl, hJv_2, kA1v_2, kU1v_2, kA2v_2, kU2v_2⟩ := hq
      have hP : va_P (dC, dI) vwCl (rC cI r ((Vv_2 0)) ((Vv_2 1)) ((Vv_2 2)) ((Vv_2 3)) ((Vv_2 4)) ((Vv_2 5)) ((Vv_2 6)) (A1) (U1) (A2) (U2) ((Jv_2 0)) ((Jv_2 1)) ((Jv_2 2)) ((Jv_2 3)) ((Jv_2 4)) ((Jv_2 5)) ((Jv_2 6)) ((Jv_2 7)) ((Jv_2 8)) ((Jv_2 9)) ((Jv_2 10)) (pbv_2) (pev_2) (obv_2) (oev_2) (b1) (e1) (b2) (e2)) H := hP
      have hD : va_D (ef_A (rC cI r ((V 0)) ((V 1)) ((V 2)) ((V 3)) ((V 4)) ((V 5)) ((V 6)) (A1) (U1) (A2) (U2) ((J 0)) ((J 1)) ((J 2)) ((J 3)) ((J 4)) ((J 5)) ((J 6)) ((J 7)) ((J 8)) ((J 9)) ((J 10)) (pb) (pe) (ob) (oe) (b1) (e1) (b2) (e2))) (rC cI r ((Vv_2 0)) ((Vv_2 1)) ((Vv_2 2)) ((Vv_2 3)) ((Vv_2 4)) ((Vv_2 5)) ((Vv_2 6)) (A1) (U1) (A2) (U2) ((Jv_2 0)) ((Jv_2 1)) ((Jv_2 2)) ((Jv_2 3)) ((Jv_2 4)) ((Jv_2 5)) ((Jv_2 6)) ((Jv_2 7)) ((Jv_2 8)) ((Jv_2 9)) ((Jv_2 10)) (pbv_2) (pev_2) (obv_2) (oev_2) (b1) (e1) (b2) (e2)) := hD
      refine W.eq (g2 := F0 m 24 ls [.long (jv (0))]) rfl ?_
      refine lv_goto (tgt := 36) hx hb rd_M_round_24 (by decide) ?_
      exact ef_lret hx hb hr hlocks hP hD hS rd_M_round_36 (⟨fun i => [((Vv_2 0)), ((Vv_2 1)), ((Vv_2 2)), ((Vv_2 3)), ((Vv_2 4)), ((Vv_2 5)), ((Vv_2 6))].getD i 0, fun i => [((Jv_2 0)), ((Jv_2 1)), ((Jv_2 2)), ((Jv_2 3)), ((Jv_2 4)), ((Jv_2 5)), ((Jv_2 6)), ((Jv_2 7)), ((Jv_2 8)), ((Jv_2 9)), ((Jv_2 10))].getD i (fun _ => 0), _, _, _, _, rfl, rfl, rJ_of (hJv_2 0 (by decide)) (hJv_2 1 (by decide)) (hJv_2 2 (by decide)) (hJv_2 3 (by decide)) (hJv_2 4 (by decide)) (hJv_2 5 (by decide)) (hJv_2 6 (by decide)), kA1v_2, kU1v_2, kA2v_2, kU2v_2⟩)
  ·
    exact absurd k1 (by decide)

set_option maxRecDepth 100000 in
set_option maxHeartbeats 4000000 in
/-- round -/
theorem r_round0 (l : Launch) (dC : Nat → ClassId) (dI : Nat → Nat → Nat) {cI : ClassId} {tys : List (ClassId × FieldType)} (ht : tys[0]? = some (cI, .int)) (r : Nat → Nat) {V : Nat → Nat} {J : Nat → Nat → Nat} {A1 U1 A2 U2 : Nat} {pb pe ob oe b1 e1 b2 e2 : Int} (hJ : rJ V J) (kA1 : bk A1 (J 7)) (kU1 : bk U1 (J 8)) (kA2 : bk A2 (J 9)) (kU2 : bk U2 (J 10)) (mA1 : dn A1 ≤ 300) (mU1 : dn U1 ≤ 300) (mA2 : dn A2 ≤ 300) (mU2 : dn U2 ≤ 300) (nU : U1 ≠ 0) (bA : bl A1 ≤ 4800) (bU : bl U1 ≤ 4800) (lee : -12000 ≤ e1) (gee : e1 ≤ 12000) (hbr : b1 = 0 ∨ b1 = 1) (hA : A1 ≠ 0) (up : Int) (hup : up = 0 ∨ up = 1) : ef_C l ry_M_round rw_M_round ({ frames := 6, cells := 0, slots := 0, locals := 148 } : Room) [.ref (r 0), .int (iv (0)), .int (iv (up))] (dC, dI) vwCl tys (rC cI r ((V 0)) ((V 1)) ((V 2)) ((V 3)) ((V 4)) ((V 5)) ((V 6)) (A1) (U1) (A2) (U2) ((J 0)) ((J 1)) ((J 2)) ((J 3)) ((J 4)) ((J 5)) ((J 6)) ((J 7)) ((J 8)) ((J 9)) ((J 10)) (pb) (pe) (ob) (oe) (b1) (e1) (b2) (e2)) (fun o w1 => ∃ z : Nat, rsz A1 U1 e1 (if up = b1 then 0 else 1) z ∧ ∃ (V2 : Nat → Nat) (J2 : Nat → Nat → Nat) (pb2 pe2 ob2 oe2 : Int), o = some (.long (jv (if b1 = 0 ∨ z = 0 then (z : Int) else (z : Int) - 9223372036854775808))) ∧ w1 = rC cI r (V2 0) (V2 1) (V2 2) (V2 3) (V2 4) (V2 5) (V2 6) (A1) (U1) (A2) (U2) (J2 0) (J2 1) (J2 2) (J2 3) (J2 4) (J2 5) (J2 6) (J2 7) (J2 8) (J2 9) (J2 10) (pb2) (pe2) (ob2) (oe2) (b1) (e1) (b2) (e2) ∧ rJ V2 J2 ∧ bk (A1) (J2 7) ∧ bk (U1) (J2 8) ∧ bk (A2) (J2 9) ∧ bk (U2) (J2 10)) := by
  refine ef_C.of (cc := rc_M_round) (maxL := 3) (ret := (some .long)) (by decide) rfl (Nat.le_of_ble_eq_true rfl) ?_
  intro p e s m below meth c ls hx hb hml hr hts hown hlocks hK hNX hP hD hS hl
  have hl : lv_has ls 3 [(0, .ref (r 0)), (1, .int (iv (0))), (2, .int (iv (up)))] := hl
  have hown : s.vm.findClass rR5 = some m.cls := hown
  generalize hH : s.heap = H at hP ⊢
  have hS : va_S (ef_A (rC cI r ((V 0)) ((V 1)) ((V 2)) ((V 3)) ((V 4)) ((V 5)) ((V 6)) (A1) (U1) (A2) (U2) ((J 0)) ((J 1)) ((J 2)) ((J 3)) ((J 4)) ((J 5)) ((J 6)) ((J 7)) ((J 8)) ((J 9)) ((J 10)) (pb) (pe) (ob) (oe) (b1) (e1) (b2) (e2))) s.heap H [] := by rw [← hH]; exact hS
  generalize ([] : List Loc) = locs at hS ⊢
  have hui : ir up := by rcases hup with h | h <;> rw [h] <;> exact ⟨by decide, by decide⟩
  refine lv_iload_n hx hb rd_M_round_0 rfl (lv_at hl 1 rfl) ?_
  refine ef_callS (As := [.int (iv (0))]) (rest := []) ⟨hx, hb, hml, hown, hts⟩ (r_isNumber0 l dC dI ht r) (cwS 1 hts (ef_goodS rm_336 rm_337 rm_24 rm_338) rfl rfl rfl (by decide +kernel) ⟨Nat.le_of_ble_eq_true rfl, Nat.le_of_ble_eq_true rfl⟩) hK hNX hP hD hS rfl hl.1 rfl (Nat.le_of_ble_eq_true rfl) rd_M_round_1 ⟨Nat.zero_le _, Nat.zero_le _⟩ (fun o w1 H locs hq hP hD hS => ?_)
  obtain ⟨rfl, e9⟩ := hq
  rw [e9] at hP hD
  refine W.eq (g2 := F0 m 4 ls [.int (iv (1))]) rfl ?_
  refine iw_if_ne (tgt := 11) hx hb rd_M_round_4 (by decide) ⟨by omega, by omega⟩ (fun k1 => ?_) (fun k1 => ?_)
  ·
    refine lv_iload_n hx hb rd_M_round_11 rfl (lv_at hl 2 rfl) ?_
    refine iw_if_eq (tgt := 27) hx hb rd_M_round_12 (by decide) (hui) (fun c1 => ?_) (fun c1 => ?_)
    ·
      refine lv_aload_n hx hb rd_M_round_27 rfl (lv_at hl 0 rfl) ?_
      refine lv_aload_n hx hb rd_M_round_28 rfl (lv_at hl 0 rfl) ?_
      refine lv_iload_n hx hb rd_M_round_29 rfl (lv_at hl 1 rfl) ?_
      refine ef_callV (As := [.int (iv (0))]) (rest := [.ref (r 0)]) ⟨hx, hb, hml, hown, hts⟩ (r_numberOf0 l dC dI ht r) (cwV 1 hts (ef_goodV rm_339 rm_341 rm_12 rm_24 rm_342) rfl rfl rfl (by decide +kernel) ⟨Nat.le_of_ble_eq_true rfl, Nat.le_of_ble_eq_true rfl⟩) hK hNX hP hD hS 0 rfl rfl rfl rfl hl.1 rfl (Nat.le_of_ble_eq_true rfl) rd_M_round_30 ⟨Nat.zero_le _, Nat.zero_le _⟩ (fun o w1 H locs hq hP hD hS => ?_)
      obtain ⟨rfl, e9⟩ := hq
      rw [e9] at hP hD
      refine W.eq (g2 := F0 m 33 ls [.ref (r 3), .ref (r 0)]) rfl ?_
      rcases hbr with hb0 | hb0
      ·
        refine ef_callV (As := [.ref (r 3)]) (rest := []) ⟨hx, hb, hml, hown, hts⟩ (r_down0P l dC dI ht r hJ kA1 kU1 kA2 kU2 mA1 mU1 mA2 mU2 nU bA bU lee gee (Or.inl hb0) (Or.inr hb0)) (cwV 1 hts (ef_goodV rm_449 rm_451 rm_18 rm_24 rm_452) rfl rfl rfl (by decide +kernel) ⟨Nat.le_of_ble_eq_true rfl, Nat.le_of_ble_eq_true rfl⟩) hK hNX hP hD hS 0 rfl rfl rfl rfl hl.1 rfl (Nat.le_of_ble_eq_true rfl) rd_M_round_33 ⟨Nat.zero_le _, Nat.zero_le _⟩ (fun o w1 H locs hq hP hD hS => ?_)
        obtain ⟨z, hz, Vv_1, Jv_1, pbv_1, pev_1, obv_1, oev_1, rfl, rfl, hJv_1, kA1v_1, kU1v_1, kA2v_1, kU2v_1⟩ := hq
        have hP : va_P (dC, dI) vwCl (rC cI r ((Vv_1 0)) ((Vv_1 1)) ((Vv_1 2)) ((Vv_1 3)) ((Vv_1 4)) ((Vv_1 5)) ((Vv_1 6)) (A1) (U1) (A2) (U2) ((Jv_1 0)) ((Jv_1 1)) ((Jv_1 2)) ((Jv_1 3)) ((Jv_1 4)) ((Jv_1 5)) ((Jv_1 6)) ((Jv_1 7)) ((Jv_1 8)) ((Jv_1 9)) ((Jv_1 10)) (pbv_1) (pev_1) (obv_1) (oev_1) (b1) (e1) (b2) (e2)) H := hP
        have hD : va_D (ef_A (rC cI r ((V 0)) ((V 1)) ((V 2)) ((V 3)) ((V 4)) ((V 5)) ((V 6)) (A1) (U1) (A2) (U2) ((J 0)) ((J 1)) ((J 2)) ((J 3)) ((J 4)) ((J 5)) ((J 6)) ((J 7)) ((J 8)) ((J 9)) ((J 10)) (pb) (pe) (ob) (oe) (b1) (e1) (b2) (e2))) (rC cI r ((Vv_1 0)) ((Vv_1 1)) ((Vv_1 2)) ((Vv_1 3)) ((Vv_1 4)) ((Vv_1 5)) ((Vv_1 6)) (A1) (U1) (A2) (U2) ((Jv_1 0)) ((Jv_1 1)) ((Jv_1 2)) ((Jv_1 3)) ((Jv_1 4)) ((Jv_1 5)) ((Jv_1 6)) ((Jv_1 7)) ((Jv_1 8)) ((Jv_1 9)) ((Jv_1 10)) (pbv_1) (pev_1) (obv_1) (oev_1) (b1) (e1) (b2) (e2)) := hD
        refine W.eq (g2 := F0 m 36 ls [.long (jv ((z : Int)))]) rfl ?_
        exact ef_lret hx hb hr hlocks hP hD hS rd_M_round_36 (by
            refine ⟨z, ⟨z, hz, Or.inl ⟨Or.inl (if_pos (by omega)), rfl⟩⟩, ?_⟩
            rw [if_pos (Or.inl hb0)]; exact ⟨fun i => [((Vv_1 0)), ((Vv_1 1)), ((Vv_1 2)), ((Vv_1 3)), ((Vv_1 4)), ((Vv_1 5)), ((Vv_1 6))].getD i 0, fun i => [((Jv_1 0)), ((Jv_1 1)), ((Jv_1 2)), ((Jv_1 3)), ((Jv_1 4)), ((Jv_1 5)), ((Jv_1 6)), ((Jv_1 7)), ((Jv_1 8)), ((Jv_1 9)), ((Jv_1 10))].getD i (fun _ => 0), _, _, _, _, rfl, rfl, rJ_of (hJv_1 0 (by decide)) (hJv_1 1 (by decide)) (hJv_1 2 (by decide)) (hJv_1 3 (by decide)) (hJv_1 4 (by decide)) (hJv_1 5 (by decide)) (hJv_1 6 (by decide)), kA1v_1, kU1v_1, kA2v_1, kU2v_1⟩)
      ·
        refine ef_callV (As := [.ref (r 3)]) (rest := []) ⟨hx, hb, hml, hown, hts⟩ (r_down0N l dC dI ht r hJ kA1 kU1 kA2 kU2 mA1 mU1 mA2 mU2 nU bA bU lee gee (Or.inr hb0) hA hb0) (cwV 1 hts (ef_goodV rm_449 rm_451 rm_18 rm_24 rm_452) rfl rfl rfl (by decide +kernel) ⟨Nat.le_of_ble_eq_true rfl, Nat.le_of_ble_eq_true rfl⟩) hK hNX hP hD hS 0 rfl rfl rfl rfl hl.1 rfl (Nat.le_of_ble_eq_true rfl) rd_M_round_33 ⟨Nat.zero_le _, Nat.zero_le _⟩ (fun o w1 H locs hq hP hD hS => ?_)
        obtain ⟨z, ⟨hz, hz0⟩, Vv_2, Jv_2, pbv_2, pev_2, obv_2, oev_2, rfl, rfl, hJv_2, kA1v_2, kU1v_2, kA2v_2, kU2v_2⟩ := hq
        have hP : va_P (dC, dI) vwCl (rC cI r ((Vv_2 0)) ((Vv_2 1)) ((Vv_2 2)) ((Vv_2 3)) ((Vv_2 4)) ((Vv_2 5)) ((Vv_2 6)) (A1) (U1) (A2) (U2) ((Jv_2 0)) ((Jv_2 1)) ((Jv_2 2)) ((Jv_2 3)) ((Jv_2 4)) ((Jv_2 5)) ((Jv_2 6)) ((Jv_2 7)) ((Jv_2 8)) ((Jv_2 9)) ((Jv_2 10)) (pbv_2) (pev_2) (obv_2) (oev_2) (b1) (e1) (b2) (e2)) H := hP
        have hD : va_D (ef_A (rC cI r ((V 0)) ((V 1)) ((V 2)) ((V 3)) ((V 4)) ((V 5)) ((V 6)) (A1) (U1) (A2) (U2) ((J 0)) ((J 1)) ((J 2)) ((J 3)) ((J 4)) ((J 5)) ((J 6)) ((J 7)) ((J 8)) ((J 9)) ((J 10)) (pb) (pe) (ob) (oe) (b1) (e1) (b2) (e2))) (rC cI r ((Vv_2 0)) ((Vv_2 1)) ((Vv_2 2)) ((Vv_2 3)) ((Vv_2 4)) ((Vv_2 5)) ((Vv_2 6)) (A1) (U1) (A2) (U2) ((Jv_2 0)) ((Jv_2 1)) ((Jv_2 2)) ((Jv_2 3)) ((Jv_2 4)) ((Jv_2 5)) ((Jv_2 6)) ((Jv_2 7)) ((Jv_2 8)) ((Jv_2 9)) ((Jv_2 10)) (pbv_2) (pev_2) (obv_2) (oev_2) (b1) (e1) (b2) (e2)) := hD
        refine W.eq (g2 := F0 m 36 ls [.long (jv ((z : Int) - 9223372036854775808))]) rfl ?_
        exact ef_lret hx hb hr hlocks hP hD hS rd_M_round_36 (by
            refine ⟨z, ?_, ?_⟩
            · rw [if_neg (by omega)]; exact hz
            · rw [if_neg (by omega)]; exact ⟨fun i => [((Vv_2 0)), ((Vv_2 1)), ((Vv_2 2)), ((Vv_2 3)), ((Vv_2 4)), ((Vv_2 5)), ((Vv_2 6))].getD i 0, fun i => [((Jv_2 0)), ((Jv_2 1)), ((Jv_2 2)), ((Jv_2 3)), ((Jv_2 4)), ((Jv_2 5)), ((Jv_2 6)), ((Jv_2 7)), ((Jv_2 8)), ((Jv_2 9)), ((Jv_2 10))].getD i (fun _ => 0), _, _, _, _, rfl, rfl, rJ_of (hJv_2 0 (by decide)) (hJv_2 1 (by decide)) (hJv_2 2 (by decide)) (hJv_2 3 (by decide)) (hJv_2 4 (by decide)) (hJv_2 5 (by decide)) (hJv_2 6 (by decide)), kA1v_2, kU1v_2, kA2v_2, kU2v_2⟩)
    ·
      have hu1 : up = 1 := by omega
      refine lv_aload_n hx hb rd_M_round_15 rfl (lv_at hl 0 rfl) ?_
      refine lv_aload_n hx hb rd_M_round_16 rfl (lv_at hl 0 rfl) ?_
      refine lv_iload_n hx hb rd_M_round_17 rfl (lv_at hl 1 rfl) ?_
      refine ef_callV (As := [.int (iv (0))]) (rest := [.ref (r 0)]) ⟨hx, hb, hml, hown, hts⟩ (r_numberOf0 l dC dI ht r) (cwV 1 hts (ef_goodV rm_339 rm_341 rm_12 rm_24 rm_342) rfl rfl rfl (by decide +kernel) ⟨Nat.le_of_ble_eq_true rfl, Nat.le_of_ble_eq_true rfl⟩) hK hNX hP hD hS 0 rfl rfl rfl rfl hl.1 rfl (Nat.le_of_ble_eq_true rfl) rd_M_round_18 ⟨Nat.zero_le _, Nat.zero_le _⟩ (fun o w1 H locs hq hP hD hS => ?_)
      obtain ⟨rfl, e9⟩ := hq
      rw [e9] at hP hD
      refine W.eq (g2 := F0 m 21 ls [.ref (r 3), .ref (r 0)]) rfl ?_
      refine ef_callV (As := [.ref (r 3)]) (rest := []) ⟨hx, hb, hml, hown, hts⟩ (r_up0K l dC dI ht r hJ kA1 kU1 kA2 kU2 mA1 mU1 mA2 mU2 nU bA bU lee gee hbr hA) (cwV 1 hts (ef_goodV rm_440 rm_442 rm_17 rm_24 rm_443) rfl rfl rfl (by decide +kernel) ⟨Nat.le_of_ble_eq_true rfl, Nat.le_of_ble_eq_true rfl⟩) hK hNX hP hD hS 0 rfl rfl rfl rfl hl.1 rfl (Nat.le_of_ble_eq_true rfl) rd_M_round_21 ⟨Nat.zero_le _, Nat.zero_le _⟩ (fun o w1 H locs hq hP hD hS => ?_)
      obtain ⟨z, hz, Vv_3, Jv_3, pbv_3, pev_3, obv_3, oev_3, rfl, rfl, hJv_3, kA1v_3, kU1v_3, kA2v_3, kU2v_3⟩ := hq
      have hP : va_P (dC, dI) vwCl (rC cI r ((Vv_3 0)) ((Vv_3 1)) ((Vv_3 2)) ((Vv_3 3)) ((Vv_3 4)) ((Vv_3 5)) ((Vv_3 6)) (A1) (U1) (A2) (U2) ((Jv_3 0)) ((Jv_3 1)) ((Jv_3 2)) ((Jv_3 3)) ((Jv_3 4)) ((Jv_3 5)) ((Jv_3 6)) ((Jv_3 7)) ((Jv_3 8)) ((Jv_3 9)) ((Jv_3 10)) (pbv_3) (pev_3) (obv_3) (oev_3) (b1) (e1) (b2) (e2)) H := hP
      have hD : va_D (ef_A (rC cI r ((V 0)) ((V 1)) ((V 2)) ((V 3)) ((V 4)) ((V 5)) ((V 6)) (A1) (U1) (A2) (U2) ((J 0)) ((J 1)) ((J 2)) ((J 3)) ((J 4)) ((J 5)) ((J 6)) ((J 7)) ((J 8)) ((J 9)) ((J 10)) (pb) (pe) (ob) (oe) (b1) (e1) (b2) (e2))) (rC cI r ((Vv_3 0)) ((Vv_3 1)) ((Vv_3 2)) ((Vv_3 3)) ((Vv_3 4)) ((Vv_3 5)) ((Vv_3 6)) (A1) (U1) (A2) (U2) ((Jv_3 0)) ((Jv_3 1)) ((Jv_3 2)) ((Jv_3 3)) ((Jv_3 4)) ((Jv_3 5)) ((Jv_3 6)) ((Jv_3 7)) ((Jv_3 8)) ((Jv_3 9)) ((Jv_3 10)) (pbv_3) (pev_3) (obv_3) (oev_3) (b1) (e1) (b2) (e2)) := hD
      refine W.eq (g2 := F0 m 24 ls [.long (jv (if b1 = 0 ∨ z = 0 then (z : Int) else (z : Int) - 9223372036854775808))]) rfl ?_
      refine lv_goto (tgt := 36) hx hb rd_M_round_24 (by decide) ?_
      exact ef_lret hx hb hr hlocks hP hD hS rd_M_round_36 (by
          refine ⟨z, by rw [hu1]; exact hz, ?_⟩
          exact ⟨fun i => [((Vv_3 0)), ((Vv_3 1)), ((Vv_3 2)), ((Vv_3 3)), ((Vv_3 4)), ((Vv_3 5)), ((Vv_3 6))].getD i 0, fun i => [((Jv_3 0)), ((Jv_3 1)), ((Jv_3 2)), ((Jv_3 3)), ((Jv_3 4)), ((Jv_3 5)), ((Jv_3 6)), ((Jv_3 7)), ((Jv_3 8)), ((Jv_3 9)), ((Jv_3 10))].getD i (fun _ => 0), _, _, _, _, rfl, rfl, rJ_of (hJv_3 0 (by decide)) (hJv_3 1 (by decide)) (hJv_3 2 (by decide)) (hJv_3 3 (by decide)) (hJv_3 4 (by decide)) (hJv_3 5 (by decide)) (hJv_3 6 (by decide)), kA1v_3, kU1v_3, kA2v_3, kU2v_3⟩)
  ·
    exact absurd k1 (by decide)

set_option maxRecDepth 100000 in
set_option maxHeartbeats 4000000 in
/-- round -/
theorem r_round1Z (l : Launch) (dC : Nat → ClassId) (dI : Nat → Nat → Nat) {cI : ClassId} {tys : List (ClassId × FieldType)} (ht : tys[0]? = some (cI, .int)) (r : Nat → Nat) {V : Nat → Nat} {J : Nat → Nat → Nat} {A1 U1 A2 U2 : Nat} {pb pe ob oe b1 e1 b2 e2 : Int} (hJ : rJ V J) (kA1 : bk A1 (J 7)) (kU1 : bk U1 (J 8)) (kA2 : bk A2 (J 9)) (kU2 : bk U2 (J 10)) (mA1 : dn A1 ≤ 300) (mU1 : dn U1 ≤ 300) (mA2 : dn A2 ≤ 300) (mU2 : dn U2 ≤ 300) (nU : U2 ≠ 0) (bA : bl A2 ≤ 4800) (bU : bl U2 ≤ 4800) (lee : -12000 ≤ e2) (gee : e2 ≤ 12000) (hbr : b2 = 0 ∨ b2 = 1) (hA : A2 = 0) (up : Int) (hup : up = 0 ∨ up = 1) : ef_C l ry_M_round rw_M_round ({ frames := 6, cells := 0, slots := 0, locals := 148 } : Room) [.ref (r 0), .int (iv (1)), .int (iv (up))] (dC, dI) vwCl tys (rC cI r ((V 0)) ((V 1)) ((V 2)) ((V 3)) ((V 4)) ((V 5)) ((V 6)) (A1) (U1) (A2) (U2) ((J 0)) ((J 1)) ((J 2)) ((J 3)) ((J 4)) ((J 5)) ((J 6)) ((J 7)) ((J 8)) ((J 9)) ((J 10)) (pb) (pe) (ob) (oe) (b1) (e1) (b2) (e2)) (fun o w1 => ∃ (V2 : Nat → Nat) (J2 : Nat → Nat → Nat) (pb2 pe2 ob2 oe2 : Int), o = some (.long (jv 0)) ∧ w1 = rC cI r (V2 0) (V2 1) (V2 2) (V2 3) (V2 4) (V2 5) (V2 6) (A1) (U1) (A2) (U2) (J2 0) (J2 1) (J2 2) (J2 3) (J2 4) (J2 5) (J2 6) (J2 7) (J2 8) (J2 9) (J2 10) (pb2) (pe2) (ob2) (oe2) (b1) (e1) (b2) (e2) ∧ rJ V2 J2 ∧ bk (A1) (J2 7) ∧ bk (U1) (J2 8) ∧ bk (A2) (J2 9) ∧ bk (U2) (J2 10)) := by
  refine ef_C.of (cc := rc_M_round) (maxL := 3) (ret := (some .long)) (by decide) rfl (Nat.le_of_ble_eq_true rfl) ?_
  intro p e s m below meth c ls hx hb hml hr hts hown hlocks hK hNX hP hD hS hl
  have hl : lv_has ls 3 [(0, .ref (r 0)), (1, .int (iv (1))), (2, .int (iv (up)))] := hl
  have hown : s.vm.findClass rR5 = some m.cls := hown
  generalize hH : s.heap = H at hP ⊢
  have hS : va_S (ef_A (rC cI r ((V 0)) ((V 1)) ((V 2)) ((V 3)) ((V 4)) ((V 5)) ((V 6)) (A1) (U1) (A2) (U2) ((J 0)) ((J 1)) ((J 2)) ((J 3)) ((J 4)) ((J 5)) ((J 6)) ((J 7)) ((J 8)) ((J 9)) ((J 10)) (pb) (pe) (ob) (oe) (b1) (e1) (b2) (e2))) s.heap H [] := by rw [← hH]; exact hS
  generalize ([] : List Loc) = locs at hS ⊢
  have hui : ir up := by rcases hup with h | h <;> rw [h] <;> exact ⟨by decide, by decide⟩
  refine lv_iload_n hx hb rd_M_round_0 rfl (lv_at hl 1 rfl) ?_
  refine ef_callS (As := [.int (iv (1))]) (rest := []) ⟨hx, hb, hml, hown, hts⟩ (r_isNumber1 l dC dI ht r) (cwS 1 hts (ef_goodS rm_336 rm_337 rm_24 rm_338) rfl rfl rfl (by decide +kernel) ⟨Nat.le_of_ble_eq_true rfl, Nat.le_of_ble_eq_true rfl⟩) hK hNX hP hD hS rfl hl.1 rfl (Nat.le_of_ble_eq_true rfl) rd_M_round_1 ⟨Nat.zero_le _, Nat.zero_le _⟩ (fun o w1 H locs hq hP hD hS => ?_)
  obtain ⟨rfl, e9⟩ := hq
  rw [e9] at hP hD
  refine W.eq (g2 := F0 m 4 ls [.int (iv (1))]) rfl ?_
  refine iw_if_ne (tgt := 11) hx hb rd_M_round_4 (by decide) ⟨by omega, by omega⟩ (fun k1 => ?_) (fun k1 => ?_)
  ·
    refine lv_iload_n hx hb rd_M_round_11 rfl (lv_at hl 2 rfl) ?_
    refine iw_if_eq (tgt := 27) hx hb rd_M_round_12 (by decide) (hui) (fun c1 => ?_) (fun c1 => ?_)
    ·
      refine lv_aload_n hx hb rd_M_round_27 rfl (lv_at hl 0 rfl) ?_
      refine lv_aload_n hx hb rd_M_round_28 rfl (lv_at hl 0 rfl) ?_
      refine lv_iload_n hx hb rd_M_round_29 rfl (lv_at hl 1 rfl) ?_
      refine ef_callV (As := [.int (iv (1))]) (rest := [.ref (r 0)]) ⟨hx, hb, hml, hown, hts⟩ (r_numberOf1 l dC dI ht r) (cwV 1 hts (ef_goodV rm_339 rm_341 rm_12 rm_24 rm_342) rfl rfl rfl (by decide +kernel) ⟨Nat.le_of_ble_eq_true rfl, Nat.le_of_ble_eq_true rfl⟩) hK hNX hP hD hS 0 rfl rfl rfl rfl hl.1 rfl (Nat.le_of_ble_eq_true rfl) rd_M_round_30 ⟨Nat.zero_le _, Nat.zero_le _⟩ (fun o w1 H locs hq hP hD hS => ?_)
      obtain ⟨rfl, e9⟩ := hq
      rw [e9] at hP hD
      refine W.eq (g2 := F0 m 33 ls [.ref (r 4), .ref (r 0)]) rfl ?_
      refine ef_callV (As := [.ref (r 4)]) (rest := []) ⟨hx, hb, hml, hown, hts⟩ (r_down1P l dC dI ht r hJ kA1 kU1 kA2 kU2 mA1 mU1 mA2 mU2 nU bA bU lee gee hbr (Or.inl hA)) (cwV 1 hts (ef_goodV rm_449 rm_451 rm_18 rm_24 rm_452) rfl rfl rfl (by decide +kernel) ⟨Nat.le_of_ble_eq_true rfl, Nat.le_of_ble_eq_true rfl⟩) hK hNX hP hD hS 0 rfl rfl rfl rfl hl.1 rfl (Nat.le_of_ble_eq_true rfl) rd_M_round_33 ⟨Nat.zero_le _, Nat.zero_le _⟩ (fun o w1 H locs hq hP hD hS => ?_)
      obtain ⟨z, hz, Vv_1, Jv_1, pbv_1, pev_1, obv_1, oev_1, rfl, rfl, hJv_1, kA1v_1, kU1v_1, kA2v_1, kU2v_1⟩ := hq
      have hP : va_P (dC, dI) vwCl (rC cI r ((Vv_1 0)) ((Vv_1 1)) ((Vv_1 2)) ((Vv_1 3)) ((Vv_1 4)) ((Vv_1 5)) ((Vv_1 6)) (A1) (U1) (A2) (U2) ((Jv_1 0)) ((Jv_1 1)) ((Jv_1 2)) ((Jv_1 3)) ((Jv_1 4)) ((Jv_1 5)) ((Jv_1 6)) ((Jv_1 7)) ((Jv_1 8)) ((Jv_1 9)) ((Jv_1 10)) (pbv_1) (pev_1) (obv_1) (oev_1) (b1) (e1) (b2) (e2)) H := hP
      have hD : va_D (ef_A (rC cI r ((V 0)) ((V 1)) ((V 2)) ((V 3)) ((V 4)) ((V 5)) ((V 6)) (A1) (U1) (A2) (U2) ((J 0)) ((J 1)) ((J 2)) ((J 3)) ((J 4)) ((J 5)) ((J 6)) ((J 7)) ((J 8)) ((J 9)) ((J 10)) (pb) (pe) (ob) (oe) (b1) (e1) (b2) (e2))) (rC cI r ((Vv_1 0)) ((Vv_1 1)) ((Vv_1 2)) ((Vv_1 3)) ((Vv_1 4)) ((Vv_1 5)) ((Vv_1 6)) (A1) (U1) (A2) (U2) ((Jv_1 0)) ((Jv_1 1)) ((Jv_1 2)) ((Jv_1 3)) ((Jv_1 4)) ((Jv_1 5)) ((Jv_1 6)) ((Jv_1 7)) ((Jv_1 8)) ((Jv_1 9)) ((Jv_1 10)) (pbv_1) (pev_1) (obv_1) (oev_1) (b1) (e1) (b2) (e2)) := hD
      have hz0 : z = 0 := isFl_zero nU hA hz
      subst hz0
      refine W.eq (g2 := F0 m 36 ls [.long (jv (((0 : Nat) : Int)))]) rfl ?_
      refine iw_topl (y := jv (0)) (congrArg jv (by rfl : ((((0 : Nat) : Int)) : Int) = (0))) ?_
      exact ef_lret hx hb hr hlocks hP hD hS rd_M_round_36 (⟨fun i => [((Vv_1 0)), ((Vv_1 1)), ((Vv_1 2)), ((Vv_1 3)), ((Vv_1 4)), ((Vv_1 5)), ((Vv_1 6))].getD i 0, fun i => [((Jv_1 0)), ((Jv_1 1)), ((Jv_1 2)), ((Jv_1 3)), ((Jv_1 4)), ((Jv_1 5)), ((Jv_1 6)), ((Jv_1 7)), ((Jv_1 8)), ((Jv_1 9)), ((Jv_1 10))].getD i (fun _ => 0), _, _, _, _, rfl, rfl, rJ_of (hJv_1 0 (by decide)) (hJv_1 1 (by decide)) (hJv_1 2 (by decide)) (hJv_1 3 (by decide)) (hJv_1 4 (by decide)) (hJv_1 5 (by decide)) (hJv_1 6 (by decide)), kA1v_1, kU1v_1, kA2v_1, kU2v_1⟩)
    ·
      have hu1 : up = 1 := by omega
      refine lv_aload_n hx hb rd_M_round_15 rfl (lv_at hl 0 rfl) ?_
      refine lv_aload_n hx hb rd_M_round_16 rfl (lv_at hl 0 rfl) ?_
      refine lv_iload_n hx hb rd_M_round_17 rfl (lv_at hl 1 rfl) ?_
      refine ef_callV (As := [.int (iv (1))]) (rest := [.ref (r 0)]) ⟨hx, hb, hml, hown, hts⟩ (r_numberOf1 l dC dI ht r) (cwV 1 hts (ef_goodV rm_339 rm_341 rm_12 rm_24 rm_342) rfl rfl rfl (by decide +kernel) ⟨Nat.le_of_ble_eq_true rfl, Nat.le_of_ble_eq_true rfl⟩) hK hNX hP hD hS 0 rfl rfl rfl rfl hl.1 rfl (Nat.le_of_ble_eq_true rfl) rd_M_round_18 ⟨Nat.zero_le _, Nat.zero_le _⟩ (fun o w1 H locs hq hP hD hS => ?_)
      obtain ⟨rfl, e9⟩ := hq
      rw [e9] at hP hD
      refine W.eq (g2 := F0 m 21 ls [.ref (r 4), .ref (r 0)]) rfl ?_
      refine ef_callV (As := [.ref (r 4)]) (rest := []) ⟨hx, hb, hml, hown, hts⟩ (r_up1Z l dC dI ht r hJ kA1 kU1 kA2 kU2 mA1 mU1 mA2 mU2 nU bA bU lee gee hbr hA) (cwV 1 hts (ef_goodV rm_440 rm_442 rm_17 rm_24 rm_443) rfl rfl rfl (by decide +kernel) ⟨Nat.le_of_ble_eq_true rfl, Nat.le_of_ble_eq_true rfl⟩) hK hNX hP hD hS 0 rfl rfl rfl rfl hl.1 rfl (Nat.le_of_ble_eq_true rfl) rd_M_round_21 ⟨Nat.zero_le _, Nat.zero_le _⟩ (fun o w1 H locs hq hP hD hS => ?_)
      obtain ⟨Vv_2, Jv_2, pbv_2, pev_2, obv_2, oev_2, rfl, rfl, hJv_2, kA1v_2, kU1v_2, kA2v_2, kU2v_2⟩ := hq
      have hP : va_P (dC, dI) vwCl (rC cI r ((Vv_2 0)) ((Vv_2 1)) ((Vv_2 2)) ((Vv_2 3)) ((Vv_2 4)) ((Vv_2 5)) ((Vv_2 6)) (A1) (U1) (A2) (U2) ((Jv_2 0)) ((Jv_2 1)) ((Jv_2 2)) ((Jv_2 3)) ((Jv_2 4)) ((Jv_2 5)) ((Jv_2 6)) ((Jv_2 7)) ((Jv_2 8)) ((Jv_2 9)) ((Jv_2 10)) (pbv_2) (pev_2) (obv_2) (oev_2) (b1) (e1) (b2) (e2)) H := hP
      have hD : va_D (ef_A (rC cI r ((V 0)) ((V 1)) ((V 2)) ((V 3)) ((V 4)) ((V 5)) ((V 6)) (A1) (U1) (A2) (U2) ((J 0)) ((J 1)) ((J 2)) ((J 3)) ((J 4)) ((J 5)) ((J 6)) ((J 7)) ((J 8)) ((J 9)) ((J 10)) (pb) (pe) (ob) (oe) (b1) (e1) (b2) (e2))) (rC cI r ((Vv_2 0)) ((Vv_2 1)) ((Vv_2 2)) ((Vv_2 3)) ((Vv_2 4)) ((Vv_2 5)) ((Vv_2 6)) (A1) (U1) (A2) (U2) ((Jv_2 0)) ((Jv_2 1)) ((Jv_2 2)) ((Jv_2 3)) ((Jv_2 4)) ((Jv_2 5)) ((Jv_2 6)) ((Jv_2 7)) ((Jv_2 8)) ((Jv_2 9)) ((Jv_2 10)) (pbv_2) (pev_2) (obv_2) (oev_2) (b1) (e1) (b2) (e2)) := hD
      refine W.eq (g2 := F0 m 24 ls [.long (jv (0))]) rfl ?_
      refine lv_goto (tgt := 36) hx hb rd_M_round_24 (by decide) ?_
      exact ef_lret hx hb hr hlocks hP hD hS rd_M_round_36 (⟨fun i => [((Vv_2 0)), ((Vv_2 1)), ((Vv_2 2)), ((Vv_2 3)), ((Vv_2 4)), ((Vv_2 5)), ((Vv_2 6))].getD i 0, fun i => [((Jv_2 0)), ((Jv_2 1)), ((Jv_2 2)), ((Jv_2 3)), ((Jv_2 4)), ((Jv_2 5)), ((Jv_2 6)), ((Jv_2 7)), ((Jv_2 8)), ((Jv_2 9)), ((Jv_2 10))].getD i (fun _ => 0), _, _, _, _, rfl, rfl, rJ_of (hJv_2 0 (by decide)) (hJv_2 1 (by decide)) (hJv_2 2 (by decide)) (hJv_2 3 (by decide)) (hJv_2 4 (by decide)) (hJv_2 5 (by decide)) (hJv_2 6 (by decide)), kA1v_2, kU1v_2, kA2v_2, kU2v_2⟩)
  ·
    exact absurd k1 (by decide)

set_option maxRecDepth 100000 in
set_option maxHeartbeats 4000000 in
/-- round -/
theorem r_round1 (l : Launch) (dC : Nat → ClassId) (dI : Nat → Nat → Nat) {cI : ClassId} {tys : List (ClassId × FieldType)} (ht : tys[0]? = some (cI, .int)) (r : Nat → Nat) {V : Nat → Nat} {J : Nat → Nat → Nat} {A1 U1 A2 U2 : Nat} {pb pe ob oe b1 e1 b2 e2 : Int} (hJ : rJ V J) (kA1 : bk A1 (J 7)) (kU1 : bk U1 (J 8)) (kA2 : bk A2 (J 9)) (kU2 : bk U2 (J 10)) (mA1 : dn A1 ≤ 300) (mU1 : dn U1 ≤ 300) (mA2 : dn A2 ≤ 300) (mU2 : dn U2 ≤ 300) (nU : U2 ≠ 0) (bA : bl A2 ≤ 4800) (bU : bl U2 ≤ 4800) (lee : -12000 ≤ e2) (gee : e2 ≤ 12000) (hbr : b2 = 0 ∨ b2 = 1) (hA : A2 ≠ 0) (up : Int) (hup : up = 0 ∨ up = 1) : ef_C l ry_M_round rw_M_round ({ frames := 6, cells := 0, slots := 0, locals := 148 } : Room) [.ref (r 0), .int (iv (1)), .int (iv (up))] (dC, dI) vwCl tys (rC cI r ((V 0)) ((V 1)) ((V 2)) ((V 3)) ((V 4)) ((V 5)) ((V 6)) (A1) (U1) (A2) (U2) ((J 0)) ((J 1)) ((J 2)) ((J 3)) ((J 4)) ((J 5)) ((J 6)) ((J 7)) ((J 8)) ((J 9)) ((J 10)) (pb) (pe) (ob) (oe) (b1) (e1) (b2) (e2)) (fun o w1 => ∃ z : Nat, rsz A2 U2 e2 (if up = b2 then 0 else 1) z ∧ ∃ (V2 : Nat → Nat) (J2 : Nat → Nat → Nat) (pb2 pe2 ob2 oe2 : Int), o = some (.long (jv (if b2 = 0 ∨ z = 0 then (z : Int) else (z : Int) - 9223372036854775808))) ∧ w1 = rC cI r (V2 0) (V2 1) (V2 2) (V2 3) (V2 4) (V2 5) (V2 6) (A1) (U1) (A2) (U2) (J2 0) (J2 1) (J2 2) (J2 3) (J2 4) (J2 5) (J2 6) (J2 7) (J2 8) (J2 9) (J2 10) (pb2) (pe2) (ob2) (oe2) (b1) (e1) (b2) (e2) ∧ rJ V2 J2 ∧ bk (A1) (J2 7) ∧ bk (U1) (J2 8) ∧ bk (A2) (J2 9) ∧ bk (U2) (J2 10)) := by
  refine ef_C.of (cc := rc_M_round) (maxL := 3) (ret := (some .long)) (by decide) rfl (Nat.le_of_ble_eq_true rfl) ?_
  intro p e s m below meth c ls hx hb hml hr hts hown hlocks hK hNX hP hD hS hl
  have hl : lv_has ls 3 [(0, .ref (r 0)), (1, .int (iv (1))), (2, .int (iv (up)))] := hl
  have hown : s.vm.findClass rR5 = some m.cls := hown
  generalize hH : s.heap = H at hP ⊢
  have hS : va_S (ef_A (rC cI r ((V 0)) ((V 1)) ((V 2)) ((V 3)) ((V 4)) ((V 5)) ((V 6)) (A1) (U1) (A2) (U2) ((J 0)) ((J 1)) ((J 2)) ((J 3)) ((J 4)) ((J 5)) ((J 6)) ((J 7)) ((J 8)) ((J 9)) ((J 10)) (pb) (pe) (ob) (oe) (b1) (e1) (b2) (e2))) s.heap H [] := by rw [← hH]; exact hS
  generalize ([] : List Loc) = locs at hS ⊢
  have hui : ir up := by rcases hup with h | h <;> rw [h] <;> exact ⟨by decide, by decide⟩
  refine lv_iload_n hx hb rd_M_round_0 rfl (lv_at hl 1 rfl) ?_
  refine ef_callS (As := [.int (iv (1))]) (rest := []) ⟨hx, hb, hml, hown, hts⟩ (r_isNumber1 l dC dI ht r) (cwS 1 hts (ef_goodS rm_336 rm_337 rm_24 rm_338) rfl rfl rfl (by decide +kernel) ⟨Nat.le_of_ble_eq_true rfl, Nat.le_of_ble_eq_true rfl⟩) hK hNX hP hD hS rfl hl.1 rfl (Nat.le_of_ble_eq_true rfl) rd_M_round_1 ⟨Nat.zero_le _, Nat.zero_le _⟩ (fun o w1 H locs hq hP hD hS => ?_)
  obtain ⟨rfl, e9⟩ := hq
  rw [e9] at hP hD
  refine W.eq (g2 := F0 m 4 ls [.int (iv (1))]) rfl ?_
  refine iw_if_ne (tgt := 11) hx hb rd_M_round_4 (by decide) ⟨by omega, by omega⟩ (fun k1 => ?_) (fun k1 => ?_)
  ·
    refine lv_iload_n hx hb rd_M_round_11 rfl (lv_at hl 2 rfl) ?_
    refine iw_if_eq (tgt := 27) hx hb rd_M_round_12 (by decide) (hui) (fun c1 => ?_) (fun c1 => ?_)
    ·
      refine lv_aload_n hx hb rd_M_round_27 rfl (lv_at hl 0 rfl) ?_
      refine lv_aload_n hx hb rd_M_round_28 rfl (lv_at hl 0 rfl) ?_
      refine lv_iload_n hx hb rd_M_round_29 rfl (lv_at hl 1 rfl) ?_
      refine ef_callV (As := [.int (iv (1))]) (rest := [.ref (r 0)]) ⟨hx, hb, hml, hown, hts⟩ (r_numberOf1 l dC dI ht r) (cwV 1 hts (ef_goodV rm_339 rm_341 rm_12 rm_24 rm_342) rfl rfl rfl (by decide +kernel) ⟨Nat.le_of_ble_eq_true rfl, Nat.le_of_ble_eq_true rfl⟩) hK hNX hP hD hS 0 rfl rfl rfl rfl hl.1 rfl (Nat.le_of_ble_eq_true rfl) rd_M_round_30 ⟨Nat.zero_le _, Nat.zero_le _⟩ (fun o w1 H locs hq hP hD hS => ?_)
      obtain ⟨rfl, e9⟩ := hq
      rw [e9] at hP hD
      refine W.eq (g2 := F0 m 33 ls [.ref (r 4), .ref (r 0)]) rfl ?_
      rcases hbr with hb0 | hb0
      ·
        refine ef_callV (As := [.ref (r 4)]) (rest := []) ⟨hx, hb, hml, hown, hts⟩ (r_down1P l dC dI ht r hJ kA1 kU1 kA2 kU2 mA1 mU1 mA2 mU2 nU bA bU lee gee (Or.inl hb0) (Or.inr hb0)) (cwV 1 hts (ef_goodV rm_449 rm_451 rm_18 rm_24 rm_452) rfl rfl rfl (by decide +kernel) ⟨Nat.le_of_ble_eq_true rfl, Nat.le_of_ble_eq_true rfl⟩) hK hNX hP hD hS 0 rfl rfl rfl rfl hl.1 rfl (Nat.le_of_ble_eq_true rfl) rd_M_round_33 ⟨Nat.zero_le _, Nat.zero_le _⟩ (fun o w1 H locs hq hP hD hS => ?_)
        obtain ⟨z, hz, Vv_1, Jv_1, pbv_1, pev_1, obv_1, oev_1, rfl, rfl, hJv_1, kA1v_1, kU1v_1, kA2v_1, kU2v_1⟩ := hq
        have hP : va_P (dC, dI) vwCl (rC cI r ((Vv_1 0)) ((Vv_1 1)) ((Vv_1 2)) ((Vv_1 3)) ((Vv_1 4)) ((Vv_1 5)) ((Vv_1 6)) (A1) (U1) (A2) (U2) ((Jv_1 0)) ((Jv_1 1)) ((Jv_1 2)) ((Jv_1 3)) ((Jv_1 4)) ((Jv_1 5)) ((Jv_1 6)) ((Jv_1 7)) ((Jv_1 8)) ((Jv_1 9)) ((Jv_1 10)) (pbv_1) (pev_1) (obv_1) (oev_1) (b1) (e1) (b2) (e2)) H := hP
        have hD : va_D (ef_A (rC cI r ((V 0)) ((V 1)) ((V 2)) ((V 3)) ((V 4)) ((V 5)) ((V 6)) (A1) (U1) (A2) (U2) ((J 0)) ((J 1)) ((J 2)) ((J 3)) ((J 4)) ((J 5)) ((J 6)) ((J 7)) ((J 8)) ((J 9)) ((J 10)) (pb) (pe) (ob) (oe) (b1) (e1) (b2) (e2))) (rC cI r ((Vv_1 0)) ((Vv_1 1)) ((Vv_1 2)) ((Vv_1 3)) ((Vv_1 4)) ((Vv_1 5)) ((Vv_1 6)) (A1) (U1) (A2) (U2) ((Jv_1 0)) ((Jv_1 1)) ((Jv_1 2)) ((Jv_1 3)) ((Jv_1 4)) ((Jv_1 5)) ((Jv_1 6)) ((Jv_1 7)) ((Jv_1 8)) ((Jv_1 9)) ((Jv_1 10)) (pbv_1) (pev_1) (obv_1) (oev_1) (b1) (e1) (b2) (e2)) := hD
        refine W.eq (g2 := F0 m 36 ls [.long (jv ((z : Int)))]) rfl ?_
        exact ef_lret hx hb hr hlocks hP hD hS rd_M_round_36 (by
            refine ⟨z, ⟨z, hz, Or.inl ⟨Or.inl (if_pos (by omega)), rfl⟩⟩, ?_⟩
            rw [if_pos (Or.inl hb0)]; exact ⟨fun i => [((Vv_1 0)), ((Vv_1 1)), ((Vv_1 2)), ((Vv_1 3)), ((Vv_1 4)), ((Vv_1 5)), ((Vv_1 6))].getD i 0, fun i => [((Jv_1 0)), ((Jv_1 1)), ((Jv_1 2)), ((Jv_1 3)), ((Jv_1 4)), ((Jv_1 5)), ((Jv_1 6)), ((Jv_1 7)), ((Jv_1 8)), ((Jv_1 9)), ((Jv_1 10))].getD i (fun _ => 0), _, _, _, _, rfl, rfl, rJ_of (hJv_1 0 (by decide)) (hJv_1 1 (by decide)) (hJv_1 2 (by decide)) (hJv_1 3 (by decide)) (hJv_1 4 (by decide)) (hJv_1 5 (by decide)) (hJv_1 6 (by decide)), kA1v_1, kU1v_1, kA2v_1, kU2v_1⟩)
      ·
        refine ef_callV (As := [.ref (r 4)]) (rest := []) ⟨hx, hb, hml, hown, hts⟩ (r_down1N l dC dI ht r hJ kA1 kU1 kA2 kU2 mA1 mU1 mA2 mU2 nU bA bU lee gee (Or.inr hb0) hA hb0) (cwV 1 hts (ef_goodV rm_449 rm_451 rm_18 rm_24 rm_452) rfl rfl rfl (by decide +kernel) ⟨Nat.le_of_ble_eq_true rfl, Nat.le_of_ble_eq_true rfl⟩) hK hNX hP hD hS 0 rfl rfl rfl rfl hl.1 rfl (Nat.le_of_ble_eq_true rfl) rd_M_round_33 ⟨Nat.zero_le _, Nat.zero_le _⟩ (fun o w1 H locs hq hP hD hS => ?_)
        obtain ⟨z, ⟨hz, hz0⟩, Vv_2, Jv_2, pbv_2, pev_2, obv_2, oev_2, rfl, rfl, hJv_2, kA1v_2, kU1v_2, kA2v_2, kU2v_2⟩ := hq
        have hP : va_P (dC, dI) vwCl (rC cI r ((Vv_2 0)) ((Vv_2 1)) ((Vv_2 2)) ((Vv_2 3)) ((Vv_2 4)) ((Vv_2 5)) ((Vv_2 6)) (A1) (U1) (A2) (U2) ((Jv_2 0)) ((Jv_2 1)) ((Jv_2 2)) ((Jv_2 3)) ((Jv_2 4)) ((Jv_2 5)) ((Jv_2 6)) ((Jv_2 7)) ((Jv_2 8)) ((Jv_2 9)) ((Jv_2 10)) (pbv_2) (pev_2) (obv_2) (oev_2) (b1) (e1) (b2) (e2)) H := hP
        have hD : va_D (ef_A (rC cI r ((V 0)) ((V 1)) ((V 2)) ((V 3)) ((V 4)) ((V 5)) ((V 6)) (A1) (U1) (A2) (U2) ((J 0)) ((J 1)) ((J 2)) ((J 3)) ((J 4)) ((J 5)) ((J 6)) ((J 7)) ((J 8)) ((J 9)) ((J 10)) (pb) (pe) (ob) (oe) (b1) (e1) (b2) (e2))) (rC cI r ((Vv_2 0)) ((Vv_2 1)) ((Vv_2 2)) ((Vv_2 3)) ((Vv_2 4)) ((Vv_2 5)) ((Vv_2 6)) (A1) (U1) (A2) (U2) ((Jv_2 0)) ((Jv_2 1)) ((Jv_2 2)) ((Jv_2 3)) ((Jv_2 4)) ((Jv_2 5)) ((Jv_2 6)) ((Jv_2 7)) ((Jv_2 8)) ((Jv_2 9)) ((Jv_2 10)) (pbv_2) (pev_2) (obv_2) (oev_2) (b1) (e1) (b2) (e2)) := hD
        refine W.eq (g2 := F0 m 36 ls [.long (jv ((z : Int) - 9223372036854775808))]) rfl ?_
        exact ef_lret hx hb hr hlocks hP hD hS rd_M_round_36 (by
            refine ⟨z, ?_, ?_⟩
            · rw [if_neg (by omega)]; exact hz
            · rw [if_neg (by omega)]; exact ⟨fun i => [((Vv_2 0)), ((Vv_2 1)), ((Vv_2 2)), ((Vv_2 3)), ((Vv_2 4)), ((Vv_2 5)), ((Vv_2 6))].getD i 0, fun i => [((Jv_2 0)), ((Jv_2 1)), ((Jv_2 2)), ((Jv_2 3)), ((Jv_2 4)), ((Jv_2 5)), ((Jv_2 6)), ((Jv_2 7)), ((Jv_2 8)), ((Jv_2 9)), ((Jv_2 10))].getD i (fun _ => 0), _, _, _, _, rfl, rfl, rJ_of (hJv_2 0 (by decide)) (hJv_2 1 (by decide)) (hJv_2 2 (by decide)) (hJv_2 3 (by decide)) (hJv_2 4 (by decide)) (hJv_2 5 (by decide)) (hJv_2 6 (by decide)), kA1v_2, kU1v_2, kA2v_2, kU2v_2⟩)
    ·
      have hu1 : up = 1 := by omega
      refine lv_aload_n hx hb rd_M_round_15 rfl (lv_at hl 0 rfl) ?_
      refine lv_aload_n hx hb rd_M_round_16 rfl (lv_at hl 0 rfl) ?_
      refine lv_iload_n hx hb rd_M_round_17 rfl (lv_at hl 1 rfl) ?_
      refine ef_callV (As := [.int (iv (1))]) (rest := [.ref (r 0)]) ⟨hx, hb, hml, hown, hts⟩ (r_numberOf1 l dC dI ht r) (cwV 1 hts (ef_goodV rm_339 rm_341 rm_12 rm_24 rm_342) rfl rfl rfl (by decide +kernel) ⟨Nat.le_of_ble_eq_true rfl, Nat.le_of_ble_eq_true rfl⟩) hK hNX hP hD hS 0 rfl rfl rfl rfl hl.1 rfl (Nat.le_of_ble_eq_true rfl) rd_M_round_18 ⟨Nat.zero_le _, Nat.zero_le _⟩ (fun o w1 H locs hq hP hD hS => ?_)
      obtain ⟨rfl, e9⟩ := hq
      rw [e9] at hP hD
      refine W.eq (g2 := F0 m 21 ls [.ref (r 4), .ref (r 0)]) rfl ?_
      refine ef_callV (As := [.ref (r 4)]) (rest := []) ⟨hx, hb, hml, hown, hts⟩ (r_up1K l dC dI ht r hJ kA1 kU1 kA2 kU2 mA1 mU1 mA2 mU2 nU bA bU lee gee hbr hA) (cwV 1 hts (ef_goodV rm_440 rm_442 rm_17 rm_24 rm_443) rfl rfl rfl (by decide +kernel) ⟨Nat.le_of_ble_eq_true rfl, Nat.le_of_ble_eq_true rfl⟩) hK hNX hP hD hS 0 rfl rfl rfl rfl hl.1 rfl (Nat.le_of_ble_eq_true rfl) rd_M_round_21 ⟨Nat.zero_le _, Nat.zero_le _⟩ (fun o w1 H locs hq hP hD hS => ?_)
      obtain ⟨z, hz, Vv_3, Jv_3, pbv_3, pev_3, obv_3, oev_3, rfl, rfl, hJv_3, kA1v_3, kU1v_3, kA2v_3, kU2v_3⟩ := hq
      have hP : va_P (dC, dI) vwCl (rC cI r ((Vv_3 0)) ((Vv_3 1)) ((Vv_3 2)) ((Vv_3 3)) ((Vv_3 4)) ((Vv_3 5)) ((Vv_3 6)) (A1) (U1) (A2) (U2) ((Jv_3 0)) ((Jv_3 1)) ((Jv_3 2)) ((Jv_3 3)) ((Jv_3 4)) ((Jv_3 5)) ((Jv_3 6)) ((Jv_3 7)) ((Jv_3 8)) ((Jv_3 9)) ((Jv_3 10)) (pbv_3) (pev_3) (obv_3) (oev_3) (b1) (e1) (b2) (e2)) H := hP
      have hD : va_D (ef_A (rC cI r ((V 0)) ((V 1)) ((V 2)) ((V 3)) ((V 4)) ((V 5)) ((V 6)) (A1) (U1) (A2) (U2) ((J 0)) ((J 1)) ((J 2)) ((J 3)) ((J 4)) ((J 5)) ((J 6)) ((J 7)) ((J 8)) ((J 9)) ((J 10)) (pb) (pe) (ob) (oe) (b1) (e1) (b2) (e2))) (rC cI r ((Vv_3 0)) ((Vv_3 1)) ((Vv_3 2)) ((Vv_3 3)) ((Vv_3 4)) ((Vv_3 5)) ((Vv_3 6)) (A1) (U1) (A2) (U2) ((Jv_3 0)) ((Jv_3 1)) ((Jv_3 2)) ((Jv_3 3)) ((Jv_3 4)) ((Jv_3 5)) ((Jv_3 6)) ((Jv_3 7)) ((Jv_3 8)) ((Jv_3 9)) ((Jv_3 10)) (pbv_3) (pev_3) (obv_3) (oev_3) (b1) (e1) (b2) (e2)) := hD
      refine W.eq (g2 := F0 m 24 ls [.long (jv (if b2 = 0 ∨ z = 0 then (z : Int) else (z : Int) - 9223372036854775808))]) rfl ?_
      refine lv_goto (tgt := 36) hx hb rd_M_round_24 (by decide) ?_
      exact ef_lret hx hb hr hlocks hP hD hS rd_M_round_36 (by
          refine ⟨z, by rw [hu1]; exact hz, ?_⟩
          exact ⟨fun i => [((Vv_3 0)), ((Vv_3 1)), ((Vv_3 2)), ((Vv_3 3)), ((Vv_3 4)), ((Vv_3 5)), ((Vv_3 6))].getD i 0, fun i => [((Jv_3 0)), ((Jv_3 1)), ((Jv_3 2)), ((Jv_3 3)), ((Jv_3 4)), ((Jv_3 5)), ((Jv_3 6)), ((Jv_3 7)), ((Jv_3 8)), ((Jv_3 9)), ((Jv_3 10))].getD i (fun _ => 0), _, _, _, _, rfl, rfl, rJ_of (hJv_3 0 (by decide)) (hJv_3 1 (by decide)) (hJv_3 2 (by decide)) (hJv_3 3 (by decide)) (hJv_3 4 (by decide)) (hJv_3 5 (by decide)) (hJv_3 6 (by decide)), kA1v_3, kU1v_3, kA2v_3, kU2v_3⟩)
  ·
    exact absurd k1 (by decide)

set_option maxRecDepth 100000 in
set_option maxHeartbeats 4000000 in
/-- round of no number -/
theorem r_roundx (l : Launch) (dC : Nat → ClassId) (dI : Nat → Nat → Nat) {cI : ClassId} {tys : List (ClassId × FieldType)} (ht : tys[0]? = some (cI, .int)) (r : Nat → Nat) {V : Nat → Nat} {J : Nat → Nat → Nat} {A1 U1 A2 U2 : Nat} {pb pe ob oe b1 e1 b2 e2 : Int} (hJ : rJ V J) (kA1 : bk A1 (J 7)) (kU1 : bk U1 (J 8)) (kA2 : bk A2 (J 9)) (kU2 : bk U2 (J 10)) (mA1 : dn A1 ≤ 300) (mU1 : dn U1 ≤ 300) (mA2 : dn A2 ≤ 300) (mU2 : dn U2 ≤ 300) (z : Int) (hz : ir z) (hz0 : z ≠ 0) (hz1 : z ≠ 1) (up : Int) : ef_C l ry_M_round rw_M_round ({ frames := 6, cells := 0, slots := 0, locals := 148 } : Room) [.ref (r 0), .int (iv (z)), .int (iv (up))] (dC, dI) vwCl tys (rC cI r ((V 0)) ((V 1)) ((V 2)) ((V 3)) ((V 4)) ((V 5)) ((V 6)) (A1) (U1) (A2) (U2) ((J 0)) ((J 1)) ((J 2)) ((J 3)) ((J 4)) ((J 5)) ((J 6)) ((J 7)) ((J 8)) ((J 9)) ((J 10)) (pb) (pe) (ob) (oe) (b1) (e1) (b2) (e2)) (fun o w1 => ∃ (V2 : Nat → Nat) (J2 : Nat → Nat → Nat) (pb2 pe2 ob2 oe2 : Int), o = some (.long (jv 9221120237041090560)) ∧ w1 = rC cI r (V2 0) (V2 1) (V2 2) (V2 3) (V2 4) (V2 5) (V2 6) (A1) (U1) (A2) (U2) (J2 0) (J2 1) (J2 2) (J2 3) (J2 4) (J2 5) (J2 6) (J2 7) (J2 8) (J2 9) (J2 10) (pb2) (pe2) (ob2) (oe2) (b1) (e1) (b2) (e2) ∧ rJ V2 J2 ∧ bk (A1) (J2 7) ∧ bk (U1) (J2 8) ∧ bk (A2) (J2 9) ∧ bk (U2) (J2 10)) := by
  refine ef_C.of (cc := rc_M_round) (maxL := 3) (ret := (some .long)) (by decide) rfl (Nat.le_of_ble_eq_true rfl) ?_
  intro p e s m below meth c ls hx hb hml hr hts hown hlocks hK hNX hP hD hS hl
  have hl : lv_has ls 3 [(0, .ref (r 0)), (1, .int (iv (z))), (2, .int (iv (up)))] := hl
  have hown : s.vm.findClass rR5 = some m.cls := hown
  generalize hH : s.heap = H at hP ⊢
  have hS : va_S (ef_A (rC cI r ((V 0)) ((V 1)) ((V 2)) ((V 3)) ((V 4)) ((V 5)) ((V 6)) (A1) (U1) (A2) (U2) ((J 0)) ((J 1)) ((J 2)) ((J 3)) ((J 4)) ((J 5)) ((J 6)) ((J 7)) ((J 8)) ((J 9)) ((J 10)) (pb) (pe) (ob) (oe) (b1) (e1) (b2) (e2))) s.heap H [] := by rw [← hH]; exact hS
  generalize ([] : List Loc) = locs at hS ⊢
  refine lv_iload_n hx hb rd_M_round_0 rfl (lv_at hl 1 rfl) ?_
  refine ef_callS (As := [.int (iv (z))]) (rest := []) ⟨hx, hb, hml, hown, hts⟩ (r_isNumberx l dC dI ht r z hz hz0 hz1) (cwS 1 hts (ef_goodS rm_336 rm_337 rm_24 rm_338) rfl rfl rfl (by decide +kernel) ⟨Nat.le_of_ble_eq_true rfl, Nat.le_of_ble_eq_true rfl⟩) hK hNX hP hD hS rfl hl.1 rfl (Nat.le_of_ble_eq_true rfl) rd_M_round_1 ⟨Nat.zero_le _, Nat.zero_le _⟩ (fun o w1 H locs hq hP hD hS => ?_)
  obtain ⟨rfl, e9⟩ := hq
  rw [e9] at hP hD
  refine W.eq (g2 := F0 m 4 ls [.int (iv (0))]) rfl ?_
  refine iw_if_ne (tgt := 11) hx hb rd_M_round_4 (by decide) ⟨by omega, by omega⟩ (fun k1 => ?_) (fun k1 => ?_)
  ·
    exact absurd rfl k1
  ·
    refine lv_ldc2 (v := jv (9221120237041090560)) hx hb hown (hts _ (List.mem_cons_of_mem _ rm_439)) rd_M_round_7 ?_
    exact ef_lret hx hb hr hlocks hP hD hS rd_M_round_10 (⟨fun i => [((V 0)), ((V 1)), ((V 2)), ((V 3)), ((V 4)), ((V 5)), ((V 6))].getD i 0, fun i => [((J 0)), ((J 1)), ((J 2)), ((J 3)), ((J 4)), ((J 5)), ((J 6)), ((J 7)), ((J 8)), ((J 9)), ((J 10))].getD i (fun _ => 0), _, _, _, _, rfl, rfl, rJ_of (hJ 0 (by decide)) (hJ 1 (by decide)) (hJ 2 (by decide)) (hJ 3 (by decide)) (hJ 4 (by decide)) (hJ 5 (by decide)) (hJ 6 (by decide)), kA1, kU1, kA2, kU2⟩)
