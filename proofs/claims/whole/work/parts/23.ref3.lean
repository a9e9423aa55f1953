set_option maxRecDepth 100000 in
set_option maxHeartbeats 4000000 in
/-- scale -/
theorem r_scale0 (l : Launch) (dC : Nat → ClassId) (dI : Nat → Nat → Nat) {cI : ClassId} {tys : List (ClassId × FieldType)} (ht : tys[0]? = some (cI, .int)) (r : Nat → Nat) {V : Nat → Nat} {J : Nat → Nat → Nat} {A1 U1 A2 U2 : Nat} {pb pe ob oe b1 e1 b2 e2 : Int} (hJ : rJ V J) (kA1 : bk A1 (J 7)) (kU1 : bk U1 (J 8)) (kA2 : bk A2 (J 9)) (kU2 : bk U2 (J 10)) (mA1 : dn A1 ≤ 300) (mU1 : dn U1 ≤ 300) (mA2 : dn A2 ≤ 300) (mU2 : dn U2 ≤ 300) (bb ee : Int) (hbb : bb = 0 ∨ bb = 1) (he1 : -12000 ≤ ee) (he2 : ee ≤ 12000) : ef_C l ry_M_scale rw_M_scale ({ frames := 1, cells := 0, slots := 0, locals := 21 } : Room) [.ref (r 0), .int (iv (0)), .int (iv (bb)), .int (iv (ee))] (dC, dI) vwCl tys (rC cI r ((V 0)) ((V 1)) ((V 2)) ((V 3)) ((V 4)) ((V 5)) ((V 6)) (A1) (U1) (A2) (U2) ((J 0)) ((J 1)) ((J 2)) ((J 3)) ((J 4)) ((J 5)) ((J 6)) ((J 7)) ((J 8)) ((J 9)) ((J 10)) (pb) (pe) (ob) (oe) (b1) (e1) (b2) (e2)) (fun o w1 => ∃ (V2 : Nat → Nat) (J2 : Nat → Nat → Nat) (pb2 pe2 ob2 oe2 : Int), o = some (.int (iv (0))) ∧ w1 = rC cI r (V2 0) (V2 1) (V2 2) (V2 3) (V2 4) (V2 5) (V2 6) (A1) (U1) (A2) (U2) (J2 0) (J2 1) (J2 2) (J2 3) (J2 4) (J2 5) (J2 6) (J2 7) (J2 8) (J2 9) (J2 10) (pb2) (pe2) (ob2) (oe2) (bb) (ee) (b2) (e2) ∧ rJ V2 J2 ∧ bk (A1) (J2 7) ∧ bk (U1) (J2 8) ∧ bk (A2) (J2 9) ∧ bk (U2) (J2 10)) := by
  refine ef_C.of (cc := rc_M_scale) (maxL := 5) (ret := (some .int)) (by decide) rfl (Nat.le_of_ble_eq_true rfl) ?_
  intro p e s m below meth c ls hx hb hml hr hts hown hlocks hK hNX hP hD hS hl
  have hl : lv_has ls 5 [(0, .ref (r 0)), (1, .int (iv (0))), (2, .int (iv (bb))), (3, .int (iv (ee)))] := hl
  have hown : s.vm.findClass rR5 = some m.cls := hown
  generalize hH : s.heap = H at hP ⊢
  have hS : va_S (ef_A (rC cI r ((V 0)) ((V 1)) ((V 2)) ((V 3)) ((V 4)) ((V 5)) ((V 6)) (A1) (U1) (A2) (U2) ((J 0)) ((J 1)) ((J 2)) ((J 3)) ((J 4)) ((J 5)) ((J 6)) ((J 7)) ((J 8)) ((J 9)) ((J 10)) (pb) (pe) (ob) (oe) (b1) (e1) (b2) (e2))) s.heap H [] := by rw [← hH]; exact hS
  generalize ([] : List Loc) = locs at hS ⊢
  refine lv_iload_n hx hb rd_M_scale_0 rfl (lv_at hl 1 rfl) ?_
  refine ef_callS (As := [.int (iv (0))]) (rest := []) ⟨hx, hb, hml, hown, hts⟩ (r_isNumber0 l dC dI ht r) (cwS 1 hts (ef_goodS rm_336 rm_337 rm_24 rm_338) rfl rfl rfl (by decide +kernel) ⟨Nat.le_of_ble_eq_true rfl, Nat.le_of_ble_eq_true rfl⟩) hK hNX hP hD hS rfl hl.1 rfl (Nat.le_of_ble_eq_true rfl) rd_M_scale_1 ⟨Nat.zero_le _, Nat.zero_le _⟩ (fun o w1 H locs hq hP hD hS => ?_)
  obtain ⟨rfl, e9⟩ := hq
  rw [e9] at hP hD
  refine W.eq (g2 := F0 m 4 ls [.int (iv (1))]) rfl ?_
  refine iw_if_eq (tgt := 21) hx hb rd_M_scale_4 (by decide) ⟨by omega, by omega⟩ (fun k1 => ?_) (fun k1 => ?_)
  ·
    exact absurd k1 (by decide)
  ·
    refine lv_iload_n hx hb rd_M_scale_7 rfl (lv_at hl 3 rfl) ?_
    refine lv_sipush (v := iv (-12000)) hx hb rd_M_scale_8 (by decide) ?_
    refine iw_icmp_lt (tgt := 21) hx hb rd_M_scale_11 (by decide) ⟨by omega, by omega⟩ ⟨by omega, by omega⟩ (fun c1 => ?_) (fun c1 => ?_)
    ·
      exact absurd c1 (by omega)
    ·
      refine lv_iload_n hx hb rd_M_scale_14 rfl (lv_at hl 3 rfl) ?_
      refine lv_sipush (v := iv (12000)) hx hb rd_M_scale_15 (by decide) ?_
      refine iw_icmp_le (tgt := 23) hx hb rd_M_scale_18 (by decide) ⟨by omega, by omega⟩ ⟨by omega, by omega⟩ (fun c2 => ?_) (fun c2 => ?_)
      ·
        refine lv_aload_n hx hb rd_M_scale_23 rfl (lv_at hl 0 rfl) ?_
        refine lv_iload_n hx hb rd_M_scale_24 rfl (lv_at hl 1 rfl) ?_
        refine ef_callV (As := [.int (iv (0))]) (rest := []) ⟨hx, hb, hml, hown, hts⟩ (r_numberOf0 l dC dI ht r) (cwV 1 hts (ef_goodV rm_339 rm_341 rm_12 rm_24 rm_342) rfl rfl rfl (by decide +kernel) ⟨Nat.le_of_ble_eq_true rfl, Nat.le_of_ble_eq_true rfl⟩) hK hNX hP hD hS 0 rfl rfl rfl rfl hl.1 rfl (Nat.le_of_ble_eq_true rfl) rd_M_scale_25 ⟨Nat.zero_le _, Nat.zero_le _⟩ (fun o w1 H locs hq hP hD hS => ?_)
        obtain ⟨rfl, e9⟩ := hq
        rw [e9] at hP hD
        refine W.eq (g2 := F0 m 28 ls [.ref (r 3)]) rfl ?_
        refine lv_astore (lv' := [(4, .ref (r 3)), (0, .ref (r 0)), (1, .int (iv (0))), (2, .int (iv (bb))), (3, .int (iv (ee)))]) hx hb rd_M_scale_28 hl (by decide) rfl (fun ls hl => ?_)
        refine lv_aload hx hb rd_M_scale_30 (lv_at hl 0 rfl) ?_
        refine lv_iload_n hx hb rd_M_scale_32 rfl (lv_at hl 3 rfl) ?_
        refine va_putN (D := (dC, dI)) (ci := 4) (v := .int (iv (bb))) (ty := .boolean) (C := rR4) (T := rT4) (N := 4) hx hb hts (fun w h => List.mem_cons_of_mem _ (rin4 w h)) rty4 rtyok4 rnm4 hown hK hP hD hS 3 rfl rfl 0 (by decide) (hNX.use rm_285 rfl) (fun _ h9 => h9) rfl (by decide +kernel) (by rcases hbb with h9 | h9 <;> rw [h9] <;> rfl) (by rcases hbb with h9 | h9 <;> rw [h9] <;> rfl) (Nat.le_of_ble_eq_true rfl) rd_M_scale_33 (fun H locs hP hD hS => ?_)
        have hP : va_P (dC, dI) vwCl (rC cI r ((V 0)) ((V 1)) ((V 2)) ((V 3)) ((V 4)) ((V 5)) ((V 6)) (A1) (U1) (A2) (U2) ((J 0)) ((J 1)) ((J 2)) ((J 3)) ((J 4)) ((J 5)) ((J 6)) ((J 7)) ((J 8)) ((J 9)) ((J 10)) (pb) (pe) (ob) (oe) (bb) (e1) (b2) (e2)) H := hP
        have hD : va_D (ef_A (rC cI r ((V 0)) ((V 1)) ((V 2)) ((V 3)) ((V 4)) ((V 5)) ((V 6)) (A1) (U1) (A2) (U2) ((J 0)) ((J 1)) ((J 2)) ((J 3)) ((J 4)) ((J 5)) ((J 6)) ((J 7)) ((J 8)) ((J 9)) ((J 10)) (pb) (pe) (ob) (oe) (b1) (e1) (b2) (e2))) (rC cI r ((V 0)) ((V 1)) ((V 2)) ((V 3)) ((V 4)) ((V 5)) ((V 6)) (A1) (U1) (A2) (U2) ((J 0)) ((J 1)) ((J 2)) ((J 3)) ((J 4)) ((J 5)) ((J 6)) ((J 7)) ((J 8)) ((J 9)) ((J 10)) (pb) (pe) (ob) (oe) (bb) (e1) (b2) (e2)) := hD
        refine lv_aload hx hb rd_M_scale_36 (lv_at hl 0 rfl) ?_
        refine lv_iload_n hx hb rd_M_scale_38 rfl (lv_at hl 4 rfl) ?_
        refine va_putN (D := (dC, dI)) (ci := 4) (v := .int (iv (ee))) (ty := .int) (C := rR4) (T := rT4) (N := 4) hx hb hts (fun w h => List.mem_cons_of_mem _ (rin4 w h)) rty4 rtyok4 rnm4 hown hK hP hD hS 3 rfl rfl 3 (by decide) (hNX.use rm_290 rfl) (fun _ h9 => h9) rfl (by decide +kernel) rfl rfl (Nat.le_of_ble_eq_true rfl) rd_M_scale_39 (fun H locs hP hD hS => ?_)
        have hP : va_P (dC, dI) vwCl (rC cI r ((V 0)) ((V 1)) ((V 2)) ((V 3)) ((V 4)) ((V 5)) ((V 6)) (A1) (U1) (A2) (U2) ((J 0)) ((J 1)) ((J 2)) ((J 3)) ((J 4)) ((J 5)) ((J 6)) ((J 7)) ((J 8)) ((J 9)) ((J 10)) (pb) (pe) (ob) (oe) (bb) (ee) (b2) (e2)) H := hP
        have hD : va_D (ef_A (rC cI r ((V 0)) ((V 1)) ((V 2)) ((V 3)) ((V 4)) ((V 5)) ((V 6)) (A1) (U1) (A2) (U2) ((J 0)) ((J 1)) ((J 2)) ((J 3)) ((J 4)) ((J 5)) ((J 6)) ((J 7)) ((J 8)) ((J 9)) ((J 10)) (pb) (pe) (ob) (oe) (b1) (e1) (b2) (e2))) (rC cI r ((V 0)) ((V 1)) ((V 2)) ((V 3)) ((V 4)) ((V 5)) ((V 6)) (A1) (U1) (A2) (U2) ((J 0)) ((J 1)) ((J 2)) ((J 3)) ((J 4)) ((J 5)) ((J 6)) ((J 7)) ((J 8)) ((J 9)) ((J 10)) (pb) (pe) (ob) (oe) (bb) (ee) (b2) (e2)) := hD
        refine lv_iconst (v := iv (0)) hx hb rd_M_scale_42 (by decide) ?_
        exact ef_iret hx hb hr hlocks hP hD hS rd_M_scale_43 (⟨fun i => [((V 0)), ((V 1)), ((V 2)), ((V 3)), ((V 4)), ((V 5)), ((V 6))].getD i 0, fun i => [((J 0)), ((J 1)), ((J 2)), ((J 3)), ((J 4)), ((J 5)), ((J 6)), ((J 7)), ((J 8)), ((J 9)), ((J 10))].getD i (fun _ => 0), _, _, _, _, rfl, rfl, rJ_of (hJ 0 (by decide)) (hJ 1 (by decide)) (hJ 2 (by decide)) (hJ 3 (by decide)) (hJ 4 (by decide)) (hJ 5 (by decide)) (hJ 6 (by decide)), kA1, kU1, kA2, kU2⟩)
      ·
        exact absurd c2 (by omega)

set_option maxRecDepth 100000 in
set_option maxHeartbeats 4000000 in
/-- scale refused -/
theorem r_scale0B (l : Launch) (dC : Nat → ClassId) (dI : Nat → Nat → Nat) {cI : ClassId} {tys : List (ClassId × FieldType)} (ht : tys[0]? = some (cI, .int)) (r : Nat → Nat) {V : Nat → Nat} {J : Nat → Nat → Nat} {A1 U1 A2 U2 : Nat} {pb pe ob oe b1 e1 b2 e2 : Int} (hJ : rJ V J) (kA1 : bk A1 (J 7)) (kU1 : bk U1 (J 8)) (kA2 : bk A2 (J 9)) (kU2 : bk U2 (J 10)) (mA1 : dn A1 ≤ 300) (mU1 : dn U1 ≤ 300) (mA2 : dn A2 ≤ 300) (mU2 : dn U2 ≤ 300) (bb ee : Int) (he : ir ee) (hbad : ee < -12000 ∨ 12000 < ee) : ef_C l ry_M_scale rw_M_scale ({ frames := 1, cells := 0, slots := 0, locals := 21 } : Room) [.ref (r 0), .int (iv (0)), .int (iv (bb)), .int (iv (ee))] (dC, dI) vwCl tys (rC cI r ((V 0)) ((V 1)) ((V 2)) ((V 3)) ((V 4)) ((V 5)) ((V 6)) (A1) (U1) (A2) (U2) ((J 0)) ((J 1)) ((J 2)) ((J 3)) ((J 4)) ((J 5)) ((J 6)) ((J 7)) ((J 8)) ((J 9)) ((J 10)) (pb) (pe) (ob) (oe) (b1) (e1) (b2) (e2)) (fun o w1 => ∃ (V2 : Nat → Nat) (J2 : Nat → Nat → Nat) (pb2 pe2 ob2 oe2 : Int), o = some (.int (iv (-1))) ∧ w1 = rC cI r (V2 0) (V2 1) (V2 2) (V2 3) (V2 4) (V2 5) (V2 6) (A1) (U1) (A2) (U2) (J2 0) (J2 1) (J2 2) (J2 3) (J2 4) (J2 5) (J2 6) (J2 7) (J2 8) (J2 9) (J2 10) (pb2) (pe2) (ob2) (oe2) (b1) (e1) (b2) (e2) ∧ rJ V2 J2 ∧ bk (A1) (J2 7) ∧ bk (U1) (J2 8) ∧ bk (A2) (J2 9) ∧ bk (U2) (J2 10)) := by
  refine ef_C.of (cc := rc_M_scale) (maxL := 5) (ret := (some .int)) (by decide) rfl (Nat.le_of_ble_eq_true rfl) ?_
  intro p e s m below meth c ls hx hb hml hr hts hown hlocks hK hNX hP hD hS hl
  have hl : lv_has ls 5 [(0, .ref (r 0)), (1, .int (iv (0))), (2, .int (iv (bb))), (3, .int (iv (ee)))] := hl
  have hown : s.vm.findClass rR5 = some m.cls := hown
  generalize hH : s.heap = H at hP ⊢
  have hS : va_S (ef_A (rC cI r ((V 0)) ((V 1)) ((V 2)) ((V 3)) ((V 4)) ((V 5)) ((V 6)) (A1) (U1) (A2) (U2) ((J 0)) ((J 1)) ((J 2)) ((J 3)) ((J 4)) ((J 5)) ((J 6)) ((J 7)) ((J 8)) ((J 9)) ((J 10)) (pb) (pe) (ob) (oe) (b1) (e1) (b2) (e2))) s.heap H [] := by rw [← hH]; exact hS
  generalize ([] : List Loc) = locs at hS ⊢
  refine lv_iload_n hx hb rd_M_scale_0 rfl (lv_at hl 1 rfl) ?_
  refine ef_callS (As := [.int (iv (0))]) (rest := []) ⟨hx, hb, hml, hown, hts⟩ (r_isNumber0 l dC dI ht r) (cwS 1 hts (ef_goodS rm_336 rm_337 rm_24 rm_338) rfl rfl rfl (by decide +kernel) ⟨Nat.le_of_ble_eq_true rfl, Nat.le_of_ble_eq_true rfl⟩) hK hNX hP hD hS rfl hl.1 rfl (Nat.le_of_ble_eq_true rfl) rd_M_scale_1 ⟨Nat.zero_le _, Nat.zero_le _⟩ (fun o w1 H locs hq hP hD hS => ?_)
  obtain ⟨rfl, e9⟩ := hq
  rw [e9] at hP hD
  refine W.eq (g2 := F0 m 4 ls [.int (iv (1))]) rfl ?_
  refine iw_if_eq (tgt := 21) hx hb rd_M_scale_4 (by decide) ⟨by omega, by omega⟩ (fun k1 => ?_) (fun k1 => ?_)
  ·
    exact absurd k1 (by decide)
  ·
    refine lv_iload_n hx hb rd_M_scale_7 rfl (lv_at hl 3 rfl) ?_
    refine lv_sipush (v := iv (-12000)) hx hb rd_M_scale_8 (by decide) ?_
    refine iw_icmp_lt (tgt := 21) hx hb rd_M_scale_11 (by decide) (he) ⟨by omega, by omega⟩ (fun c1 => ?_) (fun c1 => ?_)
    ·
      refine lv_iconst (v := iv (-1)) hx hb rd_M_scale_21 (by decide) ?_
      exact ef_iret hx hb hr hlocks hP hD hS rd_M_scale_22 (⟨fun i => [((V 0)), ((V 1)), ((V 2)), ((V 3)), ((V 4)), ((V 5)), ((V 6))].getD i 0, fun i => [((J 0)), ((J 1)), ((J 2)), ((J 3)), ((J 4)), ((J 5)), ((J 6)), ((J 7)), ((J 8)), ((J 9)), ((J 10))].getD i (fun _ => 0), _, _, _, _, rfl, rfl, rJ_of (hJ 0 (by decide)) (hJ 1 (by decide)) (hJ 2 (by decide)) (hJ 3 (by decide)) (hJ 4 (by decide)) (hJ 5 (by decide)) (hJ 6 (by decide)), kA1, kU1, kA2, kU2⟩)
    ·
      refine lv_iload_n hx hb rd_M_scale_14 rfl (lv_at hl 3 rfl) ?_
      refine lv_sipush (v := iv (12000)) hx hb rd_M_scale_15 (by decide) ?_
      refine iw_icmp_le (tgt := 23) hx hb rd_M_scale_18 (by decide) (he) ⟨by omega, by omega⟩ (fun c2 => ?_) (fun c2 => ?_)
      ·
        exact absurd hbad (by omega)
      ·
        refine lv_iconst (v := iv (-1)) hx hb rd_M_scale_21 (by decide) ?_
        exact ef_iret hx hb hr hlocks hP hD hS rd_M_scale_22 (⟨fun i => [((V 0)), ((V 1)), ((V 2)), ((V 3)), ((V 4)), ((V 5)), ((V 6))].getD i 0, fun i => [((J 0)), ((J 1)), ((J 2)), ((J 3)), ((J 4)), ((J 5)), ((J 6)), ((J 7)), ((J 8)), ((J 9)), ((J 10))].getD i (fun _ => 0), _, _, _, _, rfl, rfl, rJ_of (hJ 0 (by decide)) (hJ 1 (by decide)) (hJ 2 (by decide)) (hJ 3 (by decide)) (hJ 4 (by decide)) (hJ 5 (by decide)) (hJ 6 (by decide)), kA1, kU1, kA2, kU2⟩)

set_option maxRecDepth 100000 in
set_option maxHeartbeats 4000000 in
/-- scale -/
theorem r_scale1 (l : Launch) (dC : Nat → ClassId) (dI : Nat → Nat → Nat) {cI : ClassId} {tys : List (ClassId × FieldType)} (ht : tys[0]? = some (cI, .int)) (r : Nat → Nat) {V : Nat → Nat} {J : Nat → Nat → Nat} {A1 U1 A2 U2 : Nat} {pb pe ob oe b1 e1 b2 e2 : Int} (hJ : rJ V J) (kA1 : bk A1 (J 7)) (kU1 : bk U1 (J 8)) (kA2 : bk A2 (J 9)) (kU2 : bk U2 (J 10)) (mA1 : dn A1 ≤ 300) (mU1 : dn U1 ≤ 300) (mA2 : dn A2 ≤ 300) (mU2 : dn U2 ≤ 300) (bb ee : Int) (hbb : bb = 0 ∨ bb = 1) (he1 : -12000 ≤ ee) (he2 : ee ≤ 12000) : ef_C l ry_M_scale rw_M_scale ({ frames := 1, cells := 0, slots := 0, locals := 21 } : Room) [.ref (r 0), .int (iv (1)), .int (iv (bb)), .int (iv (ee))] (dC, dI) vwCl tys (rC cI r ((V 0)) ((V 1)) ((V 2)) ((V 3)) ((V 4)) ((V 5)) ((V 6)) (A1) (U1) (A2) (U2) ((J 0)) ((J 1)) ((J 2)) ((J 3)) ((J 4)) ((J 5)) ((J 6)) ((J 7)) ((J 8)) ((J 9)) ((J 10)) (pb) (pe) (ob) (oe) (b1) (e1) (b2) (e2)) (fun o w1 => ∃ (V2 : Nat → Nat) (J2 : Nat → Nat → Nat) (pb2 pe2 ob2 oe2 : Int), o = some (.int (iv (0))) ∧ w1 = rC cI r (V2 0) (V2 1) (V2 2) (V2 3) (V2 4) (V2 5) (V2 6) (A1) (U1) (A2) (U2) (J2 0) (J2 1) (J2 2) (J2 3) (J2 4) (J2 5) (J2 6) (J2 7) (J2 8) (J2 9) (J2 10) (pb2) (pe2) (ob2) (oe2) (b1) (e1) (bb) (ee) ∧ rJ V2 J2 ∧ bk (A1) (J2 7) ∧ bk (U1) (J2 8) ∧ bk (A2) (J2 9) ∧ bk (U2) (J2 10)) := by
  refine ef_C.of (cc := rc_M_scale) (maxL := 5) (ret := (some .int)) (by decide) rfl (Nat.le_of_ble_eq_true rfl) ?_
  intro p e s m below meth c ls hx hb hml hr hts hown hlocks hK hNX hP hD hS hl
  have hl : lv_has ls 5 [(0, .ref (r 0)), (1, .int (iv (1))), (2, .int (iv (bb))), (3, .int (iv (ee)))] := hl
  have hown : s.vm.findClass rR5 = some m.cls := hown
  generalize hH : s.heap = H at hP ⊢
  have hS : va_S (ef_A (rC cI r ((V 0)) ((V 1)) ((V 2)) ((V 3)) ((V 4)) ((V 5)) ((V 6)) (A1) (U1) (A2) (U2) ((J 0)) ((J 1)) ((J 2)) ((J 3)) ((J 4)) ((J 5)) ((J 6)) ((J 7)) ((J 8)) ((J 9)) ((J 10)) (pb) (pe) (ob) (oe) (b1) (e1) (b2) (e2))) s.heap H [] := by rw [← hH]; exact hS
  generalize ([] : List Loc) = locs at hS ⊢
  refine lv_iload_n hx hb rd_M_scale_0 rfl (lv_at hl 1 rfl) ?_
  refine ef_callS (As := [.int (iv (1))]) (rest := []) ⟨hx, hb, hml, hown, hts⟩ (r_isNumber1 l dC dI ht r) (cwS 1 hts (ef_goodS rm_336 rm_337 rm_24 rm_338) rfl rfl rfl (by decide +kernel) ⟨Nat.le_of_ble_eq_true rfl, Nat.le_of_ble_eq_true rfl⟩) hK hNX hP hD hS rfl hl.1 rfl (Nat.le_of_ble_eq_true rfl) rd_M_scale_1 ⟨Nat.zero_le _, Nat.zero_le _⟩ (fun o w1 H locs hq hP hD hS => ?_)
  obtain ⟨rfl, e9⟩ := hq
  rw [e9] at hP hD
  refine W.eq (g2 := F0 m 4 ls [.int (iv (1))]) rfl ?_
  refine iw_if_eq (tgt := 21) hx hb rd_M_scale_4 (by decide) ⟨by omega, by omega⟩ (fun k1 => ?_) (fun k1 => ?_)
  ·
    exact absurd k1 (by decide)
  ·
    refine lv_iload_n hx hb rd_M_scale_7 rfl (lv_at hl 3 rfl) ?_
    refine lv_sipush (v := iv (-12000)) hx hb rd_M_scale_8 (by decide) ?_
    refine iw_icmp_lt (tgt := 21) hx hb rd_M_scale_11 (by decide) ⟨by omega, by omega⟩ ⟨by omega, by omega⟩ (fun c1 => ?_) (fun c1 => ?_)
    ·
      exact absurd c1 (by omega)
    ·
      refine lv_iload_n hx hb rd_M_scale_14 rfl (lv_at hl 3 rfl) ?_
      refine lv_sipush (v := iv (12000)) hx hb rd_M_scale_15 (by decide) ?_
      refine iw_icmp_le (tgt := 23) hx hb rd_M_scale_18 (by decide) ⟨by omega, by omega⟩ ⟨by omega, by omega⟩ (fun c2 => ?_) (fun c2 => ?_)
      ·
        refine lv_aload_n hx hb rd_M_scale_23 rfl (lv_at hl 0 rfl) ?_
        refine lv_iload_n hx hb rd_M_scale_24 rfl (lv_at hl 1 rfl) ?_
        refine ef_callV (As := [.int (iv (1))]) (rest := []) ⟨hx, hb, hml, hown, hts⟩ (r_numberOf1 l dC dI ht r) (cwV 1 hts (ef_goodV rm_339 rm_341 rm_12 rm_24 rm_342) rfl rfl rfl (by decide +kernel) ⟨Nat.le_of_ble_eq_true rfl, Nat.le_of_ble_eq_true rfl⟩) hK hNX hP hD hS 0 rfl rfl rfl rfl hl.1 rfl (Nat.le_of_ble_eq_true rfl) rd_M_scale_25 ⟨Nat.zero_le _, Nat.zero_le _⟩ (fun o w1 H locs hq hP hD hS => ?_)
        obtain ⟨rfl, e9⟩ := hq
        rw [e9] at hP hD
        refine W.eq (g2 := F0 m 28 ls [.ref (r 4)]) rfl ?_
        refine lv_astore (lv' := [(4, .ref (r 4)), (0, .ref (r 0)), (1, .int (iv (1))), (2, .int (iv (bb))), (3, .int (iv (ee)))]) hx hb rd_M_scale_28 hl (by decide) rfl (fun ls hl => ?_)
        refine lv_aload hx hb rd_M_scale_30 (lv_at hl 0 rfl) ?_
        refine lv_iload_n hx hb rd_M_scale_32 rfl (lv_at hl 3 rfl) ?_
        refine va_putN (D := (dC, dI)) (ci := 4) (v := .int (iv (bb))) (ty := .boolean) (C := rR4) (T := rT4) (N := 4) hx hb hts (fun w h => List.mem_cons_of_mem _ (rin4 w h)) rty4 rtyok4 rnm4 hown hK hP hD hS 4 rfl rfl 0 (by decide) (hNX.use rm_285 rfl) (fun _ h9 => h9) rfl (by decide +kernel) (by rcases hbb with h9 | h9 <;> rw [h9] <;> rfl) (by rcases hbb with h9 | h9 <;> rw [h9] <;> rfl) (Nat.le_of_ble_eq_true rfl) rd_M_scale_33 (fun H locs hP hD hS => ?_)
        have hP : va_P (dC, dI) vwCl (rC cI r ((V 0)) ((V 1)) ((V 2)) ((V 3)) ((V 4)) ((V 5)) ((V 6)) (A1) (U1) (A2) (U2) ((J 0)) ((J 1)) ((J 2)) ((J 3)) ((J 4)) ((J 5)) ((J 6)) ((J 7)) ((J 8)) ((J 9)) ((J 10)) (pb) (pe) (ob) (oe) (b1) (e1) (bb) (e2)) H := hP
        have hD : va_D (ef_A (rC cI r ((V 0)) ((V 1)) ((V 2)) ((V 3)) ((V 4)) ((V 5)) ((V 6)) (A1) (U1) (A2) (U2) ((J 0)) ((J 1)) ((J 2)) ((J 3)) ((J 4)) ((J 5)) ((J 6)) ((J 7)) ((J 8)) ((J 9)) ((J 10)) (pb) (pe) (ob) (oe) (b1) (e1) (b2) (e2))) (rC cI r ((V 0)) ((V 1)) ((V 2)) ((V 3)) ((V 4)) ((V 5)) ((V 6)) (A1) (U1) (A2) (U2) ((J 0)) ((J 1)) ((J 2)) ((J 3)) ((J 4)) ((J 5)) ((J 6)) ((J 7)) ((J 8)) ((J 9)) ((J 10)) (pb) (pe) (ob) (oe) (b1) (e1) (bb) (e2)) := hD
        refine lv_aload hx hb rd_M_scale_36 (lv_at hl 0 rfl) ?_
        refine lv_iload_n hx hb rd_M_scale_38 rfl (lv_at hl 4 rfl) ?_
        refine va_putN (D := (dC, dI)) (ci := 4) (v := .int (iv (ee))) (ty := .int) (C := rR4) (T := rT4) (N := 4) hx hb hts (fun w h => List.mem_cons_of_mem _ (rin4 w h)) rty4 rtyok4 rnm4 hown hK hP hD hS 4 rfl rfl 3 (by decide) (hNX.use rm_290 rfl) (fun _ h9 => h9) rfl (by decide +kernel) rfl rfl (Nat.le_of_ble_eq_true rfl) rd_M_scale_39 (fun H locs hP hD hS => ?_)
        have hP : va_P (dC, dI) vwCl (rC cI r ((V 0)) ((V 1)) ((V 2)) ((V 3)) ((V 4)) ((V 5)) ((V 6)) (A1) (U1) (A2) (U2) ((J 0)) ((J 1)) ((J 2)) ((J 3)) ((J 4)) ((J 5)) ((J 6)) ((J 7)) ((J 8)) ((J 9)) ((J 10)) (pb) (pe) (ob) (oe) (b1) (e1) (bb) (ee)) H := hP
        have hD : va_D (ef_A (rC cI r ((V 0)) ((V 1)) ((V 2)) ((V 3)) ((V 4)) ((V 5)) ((V 6)) (A1) (U1) (A2) (U2) ((J 0)) ((J 1)) ((J 2)) ((J 3)) ((J 4)) ((J 5)) ((J 6)) ((J 7)) ((J 8)) ((J 9)) ((J 10)) (pb) (pe) (ob) (oe) (b1) (e1) (b2) (e2))) (rC cI r ((V 0)) ((V 1)) ((V 2)) ((V 3)) ((V 4)) ((V 5)) ((V 6)) (A1) (U1) (A2) (U2) ((J 0)) ((J 1)) ((J 2)) ((J 3)) ((J 4)) ((J 5)) ((J 6)) ((J 7)) ((J 8)) ((J 9)) ((J 10)) (pb) (pe) (ob) (oe) (b1) (e1) (bb) (ee)) := hD
        refine lv_iconst (v := iv (0)) hx hb rd_M_scale_42 (by decide) ?_
        exact ef_iret hx hb hr hlocks hP hD hS rd_M_scale_43 (⟨fun i => [((V 0)), ((V 1)), ((V 2)), ((V 3)), ((V 4)), ((V 5)), ((V 6))].getD i 0, fun i => [((J 0)), ((J 1)), ((J 2)), ((J 3)), ((J 4)), ((J 5)), ((J 6)), ((J 7)), ((J 8)), ((J 9)), ((J 10))].getD i (fun _ => 0), _, _, _, _, rfl, rfl, rJ_of (hJ 0 (by decide)) (hJ 1 (by decide)) (hJ 2 (by decide)) (hJ 3 (by decide)) (hJ 4 (by decide)) (hJ 5 (by decide)) (hJ 6 (by decide)), kA1, kU1, kA2, kU2⟩)
      ·
        exact absurd c2 (by omega)

set_option maxRecDepth 100000 in
set_option maxHeartbeats 4000000 in
/-- scale refused -/
theorem r_scale1B (l : Launch) (dC : Nat → ClassId) (dI : Nat → Nat → Nat) {cI : ClassId} {tys : List (ClassId × FieldType)} (ht : tys[0]? = some (cI, .int)) (r : Nat → Nat) {V : Nat → Nat} {J : Nat → Nat → Nat} {A1 U1 A2 U2 : Nat} {pb pe ob oe b1 e1 b2 e2 : Int} (hJ : rJ V J) (kA1 : bk A1 (J 7)) (kU1 : bk U1 (J 8)) (kA2 : bk A2 (J 9)) (kU2 : bk U2 (J 10)) (mA1 : dn A1 ≤ 300) (mU1 : dn U1 ≤ 300) (mA2 : dn A2 ≤ 300) (mU2 : dn U2 ≤ 300) (bb ee : Int) (he : ir ee) (hbad : ee < -12000 ∨ 12000 < ee) : ef_C l ry_M_scale rw_M_scale ({ frames := 1, cells := 0, slots := 0, locals := 21 } : Room) [.ref (r 0), .int (iv (1)), .int (iv (bb)), .int (iv (ee))] (dC, dI) vwCl tys (rC cI r ((V 0)) ((V 1)) ((V 2)) ((V 3)) ((V 4)) ((V 5)) ((V 6)) (A1) (U1) (A2) (U2) ((J 0)) ((J 1)) ((J 2)) ((J 3)) ((J 4)) ((J 5)) ((J 6)) ((J 7)) ((J 8)) ((J 9)) ((J 10)) (pb) (pe) (ob) (oe) (b1) (e1) (b2) (e2)) (fun o w1 => ∃ (V2 : Nat → Nat) (J2 : Nat → Nat → Nat) (pb2 pe2 ob2 oe2 : Int), o = some (.int (iv (-1))) ∧ w1 = rC cI r (V2 0) (V2 1) (V2 2) (V2 3) (V2 4) (V2 5) (V2 6) (A1) (U1) (A2) (U2) (J2 0) (J2 1) (J2 2) (J2 3) (J2 4) (J2 5) (J2 6) (J2 7) (J2 8) (J2 9) (J2 10) (pb2) (pe2) (ob2) (oe2) (b1) (e1) (b2) (e2) ∧ rJ V2 J2 ∧ bk (A1) (J2 7) ∧ bk (U1) (J2 8) ∧ bk (A2) (J2 9) ∧ bk (U2) (J2 10)) := by
  refine ef_C.of (cc := rc_M_scale) (maxL := 5) (ret := (some .int)) (by decide) rfl (Nat.le_of_ble_eq_true rfl) ?_
  intro p e s m below meth c ls hx hb hml hr hts hown hlocks hK hNX hP hD hS hl
  have hl : lv_has ls 5 [(0, .ref (r 0)), (1, .int (iv (1))), (2, .int (iv (bb))), (3, .int (iv (ee)))] := hl
  have hown : s.vm.findClass rR5 = some m.cls := hown
  generalize hH : s.heap = H at hP ⊢
  have hS : va_S (ef_A (rC cI r ((V 0)) ((V 1)) ((V 2)) ((V 3)) ((V 4)) ((V 5)) ((V 6)) (A1) (U1) (A2) (U2) ((J 0)) ((J 1)) ((J 2)) ((J 3)) ((J 4)) ((J 5)) ((J 6)) ((J 7)) ((J 8)) ((J 9)) ((J 10)) (pb) (pe) (ob) (oe) (b1) (e1) (b2) (e2))) s.heap H [] := by rw [← hH]; exact hS
  generalize ([] : List Loc) = locs at hS ⊢
  refine lv_iload_n hx hb rd_M_scale_0 rfl (lv_at hl 1 rfl) ?_
  refine ef_callS (As := [.int (iv (1))]) (rest := []) ⟨hx, hb, hml, hown, hts⟩ (r_isNumber1 l dC dI ht r) (cwS 1 hts (ef_goodS rm_336 rm_337 rm_24 rm_338) rfl rfl rfl (by decide +kernel) ⟨Nat.le_of_ble_eq_true rfl, Nat.le_of_ble_eq_true rfl⟩) hK hNX hP hD hS rfl hl.1 rfl (Nat.le_of_ble_eq_true rfl) rd_M_scale_1 ⟨Nat.zero_le _, Nat.zero_le _⟩ (fun o w1 H locs hq hP hD hS => ?_)
  obtain ⟨rfl, e9⟩ := hq
  rw [e9] at hP hD
  refine W.eq (g2 := F0 m 4 ls [.int (iv (1))]) rfl ?_
  refine iw_if_eq (tgt := 21) hx hb rd_M_scale_4 (by decide) ⟨by omega, by omega⟩ (fun k1 => ?_) (fun k1 => ?_)
  ·
    exact absurd k1 (by decide)
  ·
    refine lv_iload_n hx hb rd_M_scale_7 rfl (lv_at hl 3 rfl) ?_
    refine lv_sipush (v := iv (-12000)) hx hb rd_M_scale_8 (by decide) ?_
    refine iw_icmp_lt (tgt := 21) hx hb rd_M_scale_11 (by decide) (he) ⟨by omega, by omega⟩ (fun c1 => ?_) (fun c1 => ?_)
    ·
      refine lv_iconst (v := iv (-1)) hx hb rd_M_scale_21 (by decide) ?_
      exact ef_iret hx hb hr hlocks hP hD hS rd_M_scale_22 (⟨fun i => [((V 0)), ((V 1)), ((V 2)), ((V 3)), ((V 4)), ((V 5)), ((V 6))].getD i 0, fun i => [((J 0)), ((J 1)), ((J 2)), ((J 3)), ((J 4)), ((J 5)), ((J 6)), ((J 7)), ((J 8)), ((J 9)), ((J 10))].getD i (fun _ => 0), _, _, _, _, rfl, rfl, rJ_of (hJ 0 (by decide)) (hJ 1 (by decide)) (hJ 2 (by decide)) (hJ 3 (by decide)) (hJ 4 (by decide)) (hJ 5 (by decide)) (hJ 6 (by decide)), kA1, kU1, kA2, kU2⟩)
    ·
      refine lv_iload_n hx hb rd_M_scale_14 rfl (lv_at hl 3 rfl) ?_
      refine lv_sipush (v := iv (12000)) hx hb rd_M_scale_15 (by decide) ?_
      refine iw_icmp_le (tgt := 23) hx hb rd_M_scale_18 (by decide) (he) ⟨by omega, by omega⟩ (fun c2 => ?_) (fun c2 => ?_)
      ·
        exact absurd hbad (by omega)
      ·
        refine lv_iconst (v := iv (-1)) hx hb rd_M_scale_21 (by decide) ?_
        exact ef_iret hx hb hr hlocks hP hD hS rd_M_scale_22 (⟨fun i => [((V 0)), ((V 1)), ((V 2)), ((V 3)), ((V 4)), ((V 5)), ((V 6))].getD i 0, fun i => [((J 0)), ((J 1)), ((J 2)), ((J 3)), ((J 4)), ((J 5)), ((J 6)), ((J 7)), ((J 8)), ((J 9)), ((J 10))].getD i (fun _ => 0), _, _, _, _, rfl, rfl, rJ_of (hJ 0 (by decide)) (hJ 1 (by decide)) (hJ 2 (by decide)) (hJ 3 (by decide)) (hJ 4 (by decide)) (hJ 5 (by decide)) (hJ 6 (by decide)), kA1, kU1, kA2, kU2⟩)

set_option maxRecDepth 100000 in
set_option maxHeartbeats 4000000 in
/-- scale of no number -/
theorem r_scalex (l : Launch) (dC : Nat → ClassId) (dI : Nat → Nat → Nat) {cI : ClassId} {tys : List (ClassId × FieldType)} (ht : tys[0]? = some (cI, .int)) (r : Nat → Nat) {V : Nat → Nat} {J : Nat → Nat → Nat} {A1 U1 A2 U2 : Nat} {pb pe ob oe b1 e1 b2 e2 : Int} (hJ : rJ V J) (kA1 : bk A1 (J 7)) (kU1 : bk U1 (J 8)) (kA2 : bk A2 (J 9)) (kU2 : bk U2 (J 10)) (mA1 : dn A1 ≤ 300) (mU1 : dn U1 ≤ 300) (mA2 : dn A2 ≤ 300) (mU2 : dn U2 ≤ 300) (z : Int) (hz : ir z) (hz0 : z ≠ 0) (hz1 : z ≠ 1) (bb ee : Int) : ef_C l ry_M_scale rw_M_scale ({ frames := 1, cells := 0, slots := 0, locals := 21 } : Room) [.ref (r 0), .int (iv (z)), .int (iv (bb)), .int (iv (ee))] (dC, dI) vwCl tys (rC cI r ((V 0)) ((V 1)) ((V 2)) ((V 3)) ((V 4)) ((V 5)) ((V 6)) (A1) (U1) (A2) (U2) ((J 0)) ((J 1)) ((J 2)) ((J 3)) ((J 4)) ((J 5)) ((J 6)) ((J 7)) ((J 8)) ((J 9)) ((J 10)) (pb) (pe) (ob) (oe) (b1) (e1) (b2) (e2)) (fun o w1 => ∃ (V2 : Nat → Nat) (J2 : Nat → Nat → Nat) (pb2 pe2 ob2 oe2 : Int), o = some (.int (iv (-1))) ∧ w1 = rC cI r (V2 0) (V2 1) (V2 2) (V2 3) (V2 4) (V2 5) (V2 6) (A1) (U1) (A2) (U2) (J2 0) (J2 1) (J2 2) (J2 3) (J2 4) (J2 5) (J2 6) (J2 7) (J2 8) (J2 9) (J2 10) (pb2) (pe2) (ob2) (oe2) (b1) (e1) (b2) (e2) ∧ rJ V2 J2 ∧ bk (A1) (J2 7) ∧ bk (U1) (J2 8) ∧ bk (A2) (J2 9) ∧ bk (U2) (J2 10)) := by
  refine ef_C.of (cc := rc_M_scale) (maxL := 5) (ret := (some .int)) (by decide) rfl (Nat.le_of_ble_eq_true rfl) ?_
  intro p e s m below meth c ls hx hb hml hr hts hown hlocks hK hNX hP hD hS hl
  have hl : lv_has ls 5 [(0, .ref (r 0)), (1, .int (iv (z))), (2, .int (iv (bb))), (3, .int (iv (ee)))] := hl
  have hown : s.vm.findClass rR5 = some m.cls := hown
  generalize hH : s.heap = H at hP ⊢
  have hS : va_S (ef_A (rC cI r ((V 0)) ((V 1)) ((V 2)) ((V 3)) ((V 4)) ((V 5)) ((V 6)) (A1) (U1) (A2) (U2) ((J 0)) ((J 1)) ((J 2)) ((J 3)) ((J 4)) ((J 5)) ((J 6)) ((J 7)) ((J 8)) ((J 9)) ((J 10)) (pb) (pe) (ob) (oe) (b1) (e1) (b2) (e2))) s.heap H [] := by rw [← hH]; exact hS
  generalize ([] : List Loc) = locs at hS ⊢
  refine lv_iload_n hx hb rd_M_scale_0 rfl (lv_at hl 1 rfl) ?_
  refine ef_callS (As := [.int (iv (z))]) (rest := []) ⟨hx, hb, hml, hown, hts⟩ (r_isNumberx l dC dI ht r z hz hz0 hz1) (cwS 1 hts (ef_goodS rm_336 rm_337 rm_24 rm_338) rfl rfl rfl (by decide +kernel) ⟨Nat.le_of_ble_eq_true rfl, Nat.le_of_ble_eq_true rfl⟩) hK hNX hP hD hS rfl hl.1 rfl (Nat.le_of_ble_eq_true rfl) rd_M_scale_1 ⟨Nat.zero_le _, Nat.zero_le _⟩ (fun o w1 H locs hq hP hD hS => ?_)
  obtain ⟨rfl, e9⟩ := hq
  rw [e9] at hP hD
  refine W.eq (g2 := F0 m 4 ls [.int (iv (0))]) rfl ?_
  refine iw_if_eq (tgt := 21) hx hb rd_M_scale_4 (by decide) ⟨by omega, by omega⟩ (fun k1 => ?_) (fun k1 => ?_)
  ·
    refine lv_iconst (v := iv (-1)) hx hb rd_M_scale_21 (by decide) ?_
    exact ef_iret hx hb hr hlocks hP hD hS rd_M_scale_22 (⟨fun i => [((V 0)), ((V 1)), ((V 2)), ((V 3)), ((V 4)), ((V 5)), ((V 6))].getD i 0, fun i => [((J 0)), ((J 1)), ((J 2)), ((J 3)), ((J 4)), ((J 5)), ((J 6)), ((J 7)), ((J 8)), ((J 9)), ((J 10))].getD i (fun _ => 0), _, _, _, _, rfl, rfl, rJ_of (hJ 0 (by decide)) (hJ 1 (by decide)) (hJ 2 (by decide)) (hJ 3 (by decide)) (hJ 4 (by decide)) (hJ 5 (by decide)) (hJ 6 (by decide)), kA1, kU1, kA2, kU2⟩)
  ·
    exact absurd rfl k1

set_option maxRecDepth 100000 in
set_option maxHeartbeats 4000000 in
/-- turn -/
theorem r_turn0Z (l : Launch) (dC : Nat → ClassId) (dI : Nat → Nat → Nat) {cI : ClassId} {tys : List (ClassId × FieldType)} (ht : tys[0]? = some (cI, .int)) (r : Nat → Nat) {V : Nat → Nat} {J : Nat → Nat → Nat} {A1 U1 A2 U2 : Nat} {pb pe ob oe b1 e1 b2 e2 : Int} (hJ : rJ V J) (kA1 : bk A1 (J 7)) (kU1 : bk U1 (J 8)) (kA2 : bk A2 (J 9)) (kU2 : bk U2 (J 10)) (mA1 : dn A1 ≤ 300) (mU1 : dn U1 ≤ 300) (mA2 : dn A2 ≤ 300) (mU2 : dn U2 ≤ 300) (hA0 : A1 = 0) : ef_C l ry_M_turn rw_M_turn ({ frames := 1, cells := 0, slots := 0, locals := 22 } : Room) [.ref (r 0), .int (iv (0))] (dC, dI) vwCl tys (rC cI r ((V 0)) ((V 1)) ((V 2)) ((V 3)) ((V 4)) ((V 5)) ((V 6)) (A1) (U1) (A2) (U2) ((J 0)) ((J 1)) ((J 2)) ((J 3)) ((J 4)) ((J 5)) ((J 6)) ((J 7)) ((J 8)) ((J 9)) ((J 10)) (pb) (pe) (ob) (oe) (b1) (e1) (b2) (e2)) (fun o w1 => ∃ (V2 : Nat → Nat) (J2 : Nat → Nat → Nat) (pb2 pe2 ob2 oe2 : Int), o = some (.int (iv (-3))) ∧ w1 = rC cI r (V2 0) (V2 1) (V2 2) (V2 3) (V2 4) (V2 5) (V2 6) (A1) (U1) (A2) (U2) (J2 0) (J2 1) (J2 2) (J2 3) (J2 4) (J2 5) (J2 6) (J2 7) (J2 8) (J2 9) (J2 10) (pb2) (pe2) (ob2) (oe2) (b1) (e1) (b2) (e2) ∧ rJ V2 J2 ∧ bk (A1) (J2 7) ∧ bk (U1) (J2 8) ∧ bk (A2) (J2 9) ∧ bk (U2) (J2 10)) := by
  refine ef_C.of (cc := rc_M_turn) (maxL := 3) (ret := (some .int)) (by decide) rfl (Nat.le_of_ble_eq_true rfl) ?_
  intro p e s m below meth c ls hx hb hml hr hts hown hlocks hK hNX hP hD hS hl
  have hl : lv_has ls 3 [(0, .ref (r 0)), (1, .int (iv (0)))] := hl
  have hown : s.vm.findClass rR5 = some m.cls := hown
  generalize hH : s.heap = H at hP ⊢
  have hS : va_S (ef_A (rC cI r ((V 0)) ((V 1)) ((V 2)) ((V 3)) ((V 4)) ((V 5)) ((V 6)) (A1) (U1) (A2) (U2) ((J 0)) ((J 1)) ((J 2)) ((J 3)) ((J 4)) ((J 5)) ((J 6)) ((J 7)) ((J 8)) ((J 9)) ((J 10)) (pb) (pe) (ob) (oe) (b1) (e1) (b2) (e2))) s.heap H [] := by rw [← hH]; exact hS
  generalize ([] : List Loc) = locs at hS ⊢
  refine lv_iload_n hx hb rd_M_turn_0 rfl (lv_at hl 1 rfl) ?_
  refine ef_callS (As := [.int (iv (0))]) (rest := []) ⟨hx, hb, hml, hown, hts⟩ (r_isNumber0 l dC dI ht r) (cwS 1 hts (ef_goodS rm_336 rm_337 rm_24 rm_338) rfl rfl rfl (by decide +kernel) ⟨Nat.le_of_ble_eq_true rfl, Nat.le_of_ble_eq_true rfl⟩) hK hNX hP hD hS rfl hl.1 rfl (Nat.le_of_ble_eq_true rfl) rd_M_turn_1 ⟨Nat.zero_le _, Nat.zero_le _⟩ (fun o w1 H locs hq hP hD hS => ?_)
  obtain ⟨rfl, e9⟩ := hq
  rw [e9] at hP hD
  refine W.eq (g2 := F0 m 4 ls [.int (iv (1))]) rfl ?_
  refine iw_if_ne (tgt := 9) hx hb rd_M_turn_4 (by decide) ⟨by omega, by omega⟩ (fun k1 => ?_) (fun k1 => ?_)
  ·
    refine lv_aload_n hx hb rd_M_turn_9 rfl (lv_at hl 0 rfl) ?_
    refine lv_iload_n hx hb rd_M_turn_10 rfl (lv_at hl 1 rfl) ?_
    refine ef_callV (As := [.int (iv (0))]) (rest := []) ⟨hx, hb, hml, hown, hts⟩ (r_numberOf0 l dC dI ht r) (cwV 1 hts (ef_goodV rm_339 rm_341 rm_12 rm_24 rm_342) rfl rfl rfl (by decide +kernel) ⟨Nat.le_of_ble_eq_true rfl, Nat.le_of_ble_eq_true rfl⟩) hK hNX hP hD hS 0 rfl rfl rfl rfl hl.1 rfl (Nat.le_of_ble_eq_true rfl) rd_M_turn_11 ⟨Nat.zero_le _, Nat.zero_le _⟩ (fun o w1 H locs hq hP hD hS => ?_)
    obtain ⟨rfl, e9⟩ := hq
    rw [e9] at hP hD
    refine W.eq (g2 := F0 m 14 ls [.ref (r 3)]) rfl ?_
    refine lv_astore_n (lv' := [(2, .ref (r 3)), (0, .ref (r 0)), (1, .int (iv (0)))]) hx hb rd_M_turn_14 rfl hl (by decide) rfl (fun ls hl => ?_)
    refine lv_aload_n hx hb rd_M_turn_15 rfl (lv_at hl 0 rfl) ?_
    refine va_getN (D := (dC, dI)) (ci := 4) (v := .ref (r 19)) (C := rR4) (T := rT4) (N := 4) hx hb hts (fun w h => List.mem_cons_of_mem _ (rin4 w h)) hown hK hP 3 rfl rfl 1 (by decide) (hNX.use rm_287 rfl) (fun _ h9 => h9) rfl rd_M_turn_16 ?_
    refine va_getN (D := (dC, dI)) (ci := 3) (v := .int (iv ((dn (A1) : Int)))) (C := rR3) (T := rT3) (N := 2) hx hb hts (fun w h => List.mem_cons_of_mem _ (rin3 w h)) hown hK hP 19 rfl rfl 1 (by decide) (hNX.use rm_270 rfl) (fun _ h9 => h9) rfl rd_M_turn_19 ?_
    refine iw_if_ne (tgt := 28) hx hb rd_M_turn_22 (by decide) ⟨by omega, by omega⟩ (fun c1 => ?_) (fun c1 => ?_)
    ·
      exact absurd (by rw [dn_0.2 hA0]; rfl) c1
    ·
      refine lv_bipush (v := iv (-3)) hx hb rd_M_turn_25 (by decide) ?_
      exact ef_iret hx hb hr hlocks hP hD hS rd_M_turn_27 (⟨fun i => [((V 0)), ((V 1)), ((V 2)), ((V 3)), ((V 4)), ((V 5)), ((V 6))].getD i 0, fun i => [((J 0)), ((J 1)), ((J 2)), ((J 3)), ((J 4)), ((J 5)), ((J 6)), ((J 7)), ((J 8)), ((J 9)), ((J 10))].getD i (fun _ => 0), _, _, _, _, rfl, rfl, rJ_of (hJ 0 (by decide)) (hJ 1 (by decide)) (hJ 2 (by decide)) (hJ 3 (by decide)) (hJ 4 (by decide)) (hJ 5 (by decide)) (hJ 6 (by decide)), kA1, kU1, kA2, kU2⟩)
  ·
    exact absurd k1 (by decide)

set_option maxRecDepth 100000 in
set_option maxHeartbeats 4000000 in
/-- turn -/
theorem r_turn0K (l : Launch) (dC : Nat → ClassId) (dI : Nat → Nat → Nat) {cI : ClassId} {tys : List (ClassId × FieldType)} (ht : tys[0]? = some (cI, .int)) (r : Nat → Nat) {V : Nat → Nat} {J : Nat → Nat → Nat} {A1 U1 A2 U2 : Nat} {pb pe ob oe b1 e1 b2 e2 : Int} (hJ : rJ V J) (kA1 : bk A1 (J 7)) (kU1 : bk U1 (J 8)) (kA2 : bk A2 (J 9)) (kU2 : bk U2 (J 10)) (mA1 : dn A1 ≤ 300) (mU1 : dn U1 ≤ 300) (mA2 : dn A2 ≤ 300) (mU2 : dn U2 ≤ 300) (hA0 : A1 ≠ 0) : ef_C l ry_M_turn rw_M_turn ({ frames := 1, cells := 0, slots := 0, locals := 22 } : Room) [.ref (r 0), .int (iv (0))] (dC, dI) vwCl tys (rC cI r ((V 0)) ((V 1)) ((V 2)) ((V 3)) ((V 4)) ((V 5)) ((V 6)) (A1) (U1) (A2) (U2) ((J 0)) ((J 1)) ((J 2)) ((J 3)) ((J 4)) ((J 5)) ((J 6)) ((J 7)) ((J 8)) ((J 9)) ((J 10)) (pb) (pe) (ob) (oe) (b1) (e1) (b2) (e2)) (fun o w1 => ∃ (V2 : Nat → Nat) (J2 : Nat → Nat → Nat) (pb2 pe2 ob2 oe2 : Int), o = some (.int (iv (0))) ∧ w1 = rC cI r (V2 0) (V2 1) (V2 2) (V2 3) (V2 4) (V2 5) (V2 6) (U1) (A1) (A2) (U2) (J2 0) (J2 1) (J2 2) (J2 3) (J2 4) (J2 5) (J2 6) (J2 7) (J2 8) (J2 9) (J2 10) (pb2) (pe2) (ob2) (oe2) (b1) (-e1) (b2) (e2) ∧ rJ V2 J2 ∧ bk (U1) (J2 7) ∧ bk (A1) (J2 8) ∧ bk (A2) (J2 9) ∧ bk (U2) (J2 10)) := by
  refine ef_C.of (cc := rc_M_turn) (maxL := 3) (ret := (some .int)) (by decide) rfl (Nat.le_of_ble_eq_true rfl) ?_
  intro p e s m below meth c ls hx hb hml hr hts hown hlocks hK hNX hP hD hS hl
  have hl : lv_has ls 3 [(0, .ref (r 0)), (1, .int (iv (0)))] := hl
  have hown : s.vm.findClass rR5 = some m.cls := hown
  generalize hH : s.heap = H at hP ⊢
  have hS : va_S (ef_A (rC cI r ((V 0)) ((V 1)) ((V 2)) ((V 3)) ((V 4)) ((V 5)) ((V 6)) (A1) (U1) (A2) (U2) ((J 0)) ((J 1)) ((J 2)) ((J 3)) ((J 4)) ((J 5)) ((J 6)) ((J 7)) ((J 8)) ((J 9)) ((J 10)) (pb) (pe) (ob) (oe) (b1) (e1) (b2) (e2))) s.heap H [] := by rw [← hH]; exact hS
  generalize ([] : List Loc) = locs at hS ⊢
  refine lv_iload_n hx hb rd_M_turn_0 rfl (lv_at hl 1 rfl) ?_
  refine ef_callS (As := [.int (iv (0))]) (rest := []) ⟨hx, hb, hml, hown, hts⟩ (r_isNumber0 l dC dI ht r) (cwS 1 hts (ef_goodS rm_336 rm_337 rm_24 rm_338) rfl rfl rfl (by decide +kernel) ⟨Nat.le_of_ble_eq_true rfl, Nat.le_of_ble_eq_true rfl⟩) hK hNX hP hD hS rfl hl.1 rfl (Nat.le_of_ble_eq_true rfl) rd_M_turn_1 ⟨Nat.zero_le _, Nat.zero_le _⟩ (fun o w1 H locs hq hP hD hS => ?_)
  obtain ⟨rfl, e9⟩ := hq
  rw [e9] at hP hD
  refine W.eq (g2 := F0 m 4 ls [.int (iv (1))]) rfl ?_
  refine iw_if_ne (tgt := 9) hx hb rd_M_turn_4 (by decide) ⟨by omega, by omega⟩ (fun k1 => ?_) (fun k1 => ?_)
  ·
    refine lv_aload_n hx hb rd_M_turn_9 rfl (lv_at hl 0 rfl) ?_
    refine lv_iload_n hx hb rd_M_turn_10 rfl (lv_at hl 1 rfl) ?_
    refine ef_callV (As := [.int (iv (0))]) (rest := []) ⟨hx, hb, hml, hown, hts⟩ (r_numberOf0 l dC dI ht r) (cwV 1 hts (ef_goodV rm_339 rm_341 rm_12 rm_24 rm_342) rfl rfl rfl (by decide +kernel) ⟨Nat.le_of_ble_eq_true rfl, Nat.le_of_ble_eq_true rfl⟩) hK hNX hP hD hS 0 rfl rfl rfl rfl hl.1 rfl (Nat.le_of_ble_eq_true rfl) rd_M_turn_11 ⟨Nat.zero_le _, Nat.zero_le _⟩ (fun o w1 H locs hq hP hD hS => ?_)
    obtain ⟨rfl, e9⟩ := hq
    rw [e9] at hP hD
    refine W.eq (g2 := F0 m 14 ls [.ref (r 3)]) rfl ?_
    refine lv_astore_n (lv' := [(2, .ref (r 3)), (0, .ref (r 0)), (1, .int (iv (0)))]) hx hb rd_M_turn_14 rfl hl (by decide) rfl (fun ls hl => ?_)
    refine lv_aload_n hx hb rd_M_turn_15 rfl (lv_at hl 0 rfl) ?_
    refine va_getN (D := (dC, dI)) (ci := 4) (v := .ref (r 19)) (C := rR4) (T := rT4) (N := 4) hx hb hts (fun w h => List.mem_cons_of_mem _ (rin4 w h)) hown hK hP 3 rfl rfl 1 (by decide) (hNX.use rm_287 rfl) (fun _ h9 => h9) rfl rd_M_turn_16 ?_
    refine va_getN (D := (dC, dI)) (ci := 3) (v := .int (iv ((dn (A1) : Int)))) (C := rR3) (T := rT3) (N := 2) hx hb hts (fun w h => List.mem_cons_of_mem _ (rin3 w h)) hown hK hP 19 rfl rfl 1 (by decide) (hNX.use rm_270 rfl) (fun _ h9 => h9) rfl rd_M_turn_19 ?_
    refine iw_if_ne (tgt := 28) hx hb rd_M_turn_22 (by decide) ⟨by omega, by omega⟩ (fun c1 => ?_) (fun c1 => ?_)
    ·
      refine lv_aload_n hx hb rd_M_turn_28 rfl (lv_at hl 1 rfl) ?_
      refine va_get (D := (dC, dI)) (ci := 5) (v := .ref (r 9)) (C := rR5) (T := rT5) (N := 7) hx hb hts (fun w h => List.mem_cons_of_mem _ (rin5 w h)) hown hK hP 0 rfl rfl 6 (by decide) (hts _ (List.mem_cons_of_mem _ rm_316)) (fun _ h9 => h9) rfl rd_M_turn_29 ?_
      refine lv_aload_n hx hb rd_M_turn_32 rfl (lv_at hl 0 rfl) ?_
      refine va_getN (D := (dC, dI)) (ci := 4) (v := .ref (r 19)) (C := rR4) (T := rT4) (N := 4) hx hb hts (fun w h => List.mem_cons_of_mem _ (rin4 w h)) hown hK hP 3 rfl rfl 1 (by decide) (hNX.use rm_287 rfl) (fun _ h9 => h9) rfl rd_M_turn_33 ?_
      refine ef_callV (As := [.ref (r 19)]) (rest := []) ⟨hx, hb, hml, hown, hts⟩ (b_copy l dC dI ht (isB_c (X := (V 2)) (F := (J 2)) (ws := rC cI r ((V 0)) ((V 1)) ((V 2)) ((V 3)) ((V 4)) ((V 5)) ((V 6)) (A1) (U1) (A2) (U2) ((J 0)) ((J 1)) ((J 2)) ((J 3)) ((J 4)) ((J 5)) ((J 6)) ((J 7)) ((J 8)) ((J 9)) ((J 10)) (pb) (pe) (ob) (oe) (b1) (e1) (b2) (e2)) (k0 := 9) (k1 := 10) (by decide) rfl rfl) (isB_c (X := A1) (F := (J 7)) (ws := rC cI r ((V 0)) ((V 1)) ((V 2)) ((V 3)) ((V 4)) ((V 5)) ((V 6)) (A1) (U1) (A2) (U2) ((J 0)) ((J 1)) ((J 2)) ((J 3)) ((J 4)) ((J 5)) ((J 6)) ((J 7)) ((J 8)) ((J 9)) ((J 10)) (pb) (pe) (ob) (oe) (b1) (e1) (b2) (e2)) (k0 := 19) (k1 := 20) (by decide) rfl rfl) kA1.1 kA1.2 (apt_c (k0 := 9) (k1 := 10) (j0 := 19) (j1 := 20) rfl)) (cwV 1 hts (ef_goodV rm_352 rm_353 rm_354 rm_25 rm_355) rfl rfl rfl (by decide +kernel) ⟨Nat.le_of_ble_eq_true rfl, Nat.le_of_ble_eq_true rfl⟩) hK hNX hP hD hS 9 rfl rfl rfl rfl hl.1 rfl (Nat.le_of_ble_eq_true rfl) rd_M_turn_36 ⟨Nat.zero_le _, Nat.zero_le _⟩ (fun o w1 H locs hq hP hD hS => ?_)
      obtain ⟨rfl, g_1, rfl, hg_2⟩ := hq
      have hP : va_P (dC, dI) vwCl (rC cI r ((V 0)) ((V 1)) (A1) ((V 3)) ((V 4)) ((V 5)) ((V 6)) (A1) (U1) (A2) (U2) ((J 0)) ((J 1)) (g_1) ((J 3)) ((J 4)) ((J 5)) ((J 6)) ((J 7)) ((J 8)) ((J 9)) ((J 10)) (pb) (pe) (ob) (oe) (b1) (e1) (b2) (e2)) H := hP
      have hD : va_D (ef_A (rC cI r ((V 0)) ((V 1)) ((V 2)) ((V 3)) ((V 4)) ((V 5)) ((V 6)) (A1) (U1) (A2) (U2) ((J 0)) ((J 1)) ((J 2)) ((J 3)) ((J 4)) ((J 5)) ((J 6)) ((J 7)) ((J 8)) ((J 9)) ((J 10)) (pb) (pe) (ob) (oe) (b1) (e1) (b2) (e2))) (rC cI r ((V 0)) ((V 1)) (A1) ((V 3)) ((V 4)) ((V 5)) ((V 6)) (A1) (U1) (A2) (U2) ((J 0)) ((J 1)) (g_1) ((J 3)) ((J 4)) ((J 5)) ((J 6)) ((J 7)) ((J 8)) ((J 9)) ((J 10)) (pb) (pe) (ob) (oe) (b1) (e1) (b2) (e2)) := hD
      have hg_2 : bk (A1) g_1 := ⟨hg_2, kA1.2⟩
      refine W.eq (g2 := F0 m 39 ls []) rfl ?_
      refine lv_aload_n hx hb rd_M_turn_39 rfl (lv_at hl 0 rfl) ?_
      refine va_getN (D := (dC, dI)) (ci := 4) (v := .ref (r 19)) (C := rR4) (T := rT4) (N := 4) hx hb hts (fun w h => List.mem_cons_of_mem _ (rin4 w h)) hown hK hP 3 rfl rfl 1 (by decide) (hNX.use rm_287 rfl) (fun _ h9 => h9) rfl rd_M_turn_40 ?_
      refine lv_aload_n hx hb rd_M_turn_43 rfl (lv_at hl 0 rfl) ?_
      refine va_getN (D := (dC, dI)) (ci := 4) (v := .ref (r 21)) (C := rR4) (T := rT4) (N := 4) hx hb hts (fun w h => List.mem_cons_of_mem _ (rin4 w h)) hown hK hP 3 rfl rfl 2 (by decide) (hNX.use rm_288 rfl) (fun _ h9 => h9) rfl rd_M_turn_44 ?_
      refine ef_callV (As := [.ref (r 21)]) (rest := []) ⟨hx, hb, hml, hown, hts⟩ (b_copy l dC dI ht (isB_c (X := A1) (F := (J 7)) (ws := rC cI r ((V 0)) ((V 1)) (A1) ((V 3)) ((V 4)) ((V 5)) ((V 6)) (A1) (U1) (A2) (U2) ((J 0)) ((J 1)) (g_1) ((J 3)) ((J 4)) ((J 5)) ((J 6)) ((J 7)) ((J 8)) ((J 9)) ((J 10)) (pb) (pe) (ob) (oe) (b1) (e1) (b2) (e2)) (k0 := 19) (k1 := 20) (by decide) rfl rfl) (isB_c (X := U1) (F := (J 8)) (ws := rC cI r ((V 0)) ((V 1)) (A1) ((V 3)) ((V 4)) ((V 5)) ((V 6)) (A1) (U1) (A2) (U2) ((J 0)) ((J 1)) (g_1) ((J 3)) ((J 4)) ((J 5)) ((J 6)) ((J 7)) ((J 8)) ((J 9)) ((J 10)) (pb) (pe) (ob) (oe) (b1) (e1) (b2) (e2)) (k0 := 21) (k1 := 22) (by decide) rfl rfl) kU1.1 kU1.2 (apt_c (k0 := 19) (k1 := 20) (j0 := 21) (j1 := 22) rfl)) (cwV 1 hts (ef_goodV rm_352 rm_353 rm_354 rm_25 rm_355) rfl rfl rfl (by decide +kernel) ⟨Nat.le_of_ble_eq_true rfl, Nat.le_of_ble_eq_true rfl⟩) hK hNX hP hD hS 19 rfl rfl rfl rfl hl.1 rfl (Nat.le_of_ble_eq_true rfl) rd_M_turn_47 ⟨Nat.zero_le _, Nat.zero_le _⟩ (fun o w1 H locs hq hP hD hS => ?_)
      obtain ⟨rfl, g_3, rfl, hg_4⟩ := hq
      have hP : va_P (dC, dI) vwCl (rC cI r ((V 0)) ((V 1)) (A1) ((V 3)) ((V 4)) ((V 5)) ((V 6)) (U1) (U1) (A2) (U2) ((J 0)) ((J 1)) (g_1) ((J 3)) ((J 4)) ((J 5)) ((J 6)) (g_3) ((J 8)) ((J 9)) ((J 10)) (pb) (pe) (ob) (oe) (b1) (e1) (b2) (e2)) H := hP
      have hD : va_D (ef_A (rC cI r ((V 0)) ((V 1)) ((V 2)) ((V 3)) ((V 4)) ((V 5)) ((V 6)) (A1) (U1) (A2) (U2) ((J 0)) ((J 1)) ((J 2)) ((J 3)) ((J 4)) ((J 5)) ((J 6)) ((J 7)) ((J 8)) ((J 9)) ((J 10)) (pb) (pe) (ob) (oe) (b1) (e1) (b2) (e2))) (rC cI r ((V 0)) ((V 1)) (A1) ((V 3)) ((V 4)) ((V 5)) ((V 6)) (U1) (U1) (A2) (U2) ((J 0)) ((J 1)) (g_1) ((J 3)) ((J 4)) ((J 5)) ((J 6)) (g_3) ((J 8)) ((J 9)) ((J 10)) (pb) (pe) (ob) (oe) (b1) (e1) (b2) (e2)) := hD
      have hg_4 : bk (U1) g_3 := ⟨hg_4, kU1.2⟩
      refine W.eq (g2 := F0 m 50 ls []) rfl ?_
      refine lv_aload_n hx hb rd_M_turn_50 rfl (lv_at hl 0 rfl) ?_
      refine va_getN (D := (dC, dI)) (ci := 4) (v := .ref (r 21)) (C := rR4) (T := rT4) (N := 4) hx hb hts (fun w h => List.mem_cons_of_mem _ (rin4 w h)) hown hK hP 3 rfl rfl 2 (by decide) (hNX.use rm_288 rfl) (fun _ h9 => h9) rfl rd_M_turn_51 ?_
      refine lv_aload_n hx hb rd_M_turn_54 rfl (lv_at hl 1 rfl) ?_
      refine va_get (D := (dC, dI)) (ci := 5) (v := .ref (r 9)) (C := rR5) (T := rT5) (N := 7) hx hb hts (fun w h => List.mem_cons_of_mem _ (rin5 w h)) hown hK hP 0 rfl rfl 6 (by decide) (hts _ (List.mem_cons_of_mem _ rm_316)) (fun _ h9 => h9) rfl rd_M_turn_55 ?_
      refine ef_callV (As := [.ref (r 9)]) (rest := []) ⟨hx, hb, hml, hown, hts⟩ (b_copy l dC dI ht (isB_c (X := U1) (F := (J 8)) (ws := rC cI r ((V 0)) ((V 1)) (A1) ((V 3)) ((V 4)) ((V 5)) ((V 6)) (U1) (U1) (A2) (U2) ((J 0)) ((J 1)) (g_1) ((J 3)) ((J 4)) ((J 5)) ((J 6)) (g_3) ((J 8)) ((J 9)) ((J 10)) (pb) (pe) (ob) (oe) (b1) (e1) (b2) (e2)) (k0 := 21) (k1 := 22) (by decide) rfl rfl) (isB_c (X := A1) (F := g_1) (ws := rC cI r ((V 0)) ((V 1)) (A1) ((V 3)) ((V 4)) ((V 5)) ((V 6)) (U1) (U1) (A2) (U2) ((J 0)) ((J 1)) (g_1) ((J 3)) ((J 4)) ((J 5)) ((J 6)) (g_3) ((J 8)) ((J 9)) ((J 10)) (pb) (pe) (ob) (oe) (b1) (e1) (b2) (e2)) (k0 := 9) (k1 := 10) (by decide) rfl rfl) hg_2.1 hg_2.2 (apt_c (k0 := 21) (k1 := 22) (j0 := 9) (j1 := 10) rfl)) (cwV 1 hts (ef_goodV rm_352 rm_353 rm_354 rm_25 rm_355) rfl rfl rfl (by decide +kernel) ⟨Nat.le_of_ble_eq_true rfl, Nat.le_of_ble_eq_true rfl⟩) hK hNX hP hD hS 21 rfl rfl rfl rfl hl.1 rfl (Nat.le_of_ble_eq_true rfl) rd_M_turn_58 ⟨Nat.zero_le _, Nat.zero_le _⟩ (fun o w1 H locs hq hP hD hS => ?_)
      obtain ⟨rfl, g_5, rfl, hg_6⟩ := hq
      have hP : va_P (dC, dI) vwCl (rC cI r ((V 0)) ((V 1)) (A1) ((V 3)) ((V 4)) ((V 5)) ((V 6)) (U1) (A1) (A2) (U2) ((J 0)) ((J 1)) (g_1) ((J 3)) ((J 4)) ((J 5)) ((J 6)) (g_3) (g_5) ((J 9)) ((J 10)) (pb) (pe) (ob) (oe) (b1) (e1) (b2) (e2)) H := hP
      have hD : va_D (ef_A (rC cI r ((V 0)) ((V 1)) ((V 2)) ((V 3)) ((V 4)) ((V 5)) ((V 6)) (A1) (U1) (A2) (U2) ((J 0)) ((J 1)) ((J 2)) ((J 3)) ((J 4)) ((J 5)) ((J 6)) ((J 7)) ((J 8)) ((J 9)) ((J 10)) (pb) (pe) (ob) (oe) (b1) (e1) (b2) (e2))) (rC cI r ((V 0)) ((V 1)) (A1) ((V 3)) ((V 4)) ((V 5)) ((V 6)) (U1) (A1) (A2) (U2) ((J 0)) ((J 1)) (g_1) ((J 3)) ((J 4)) ((J 5)) ((J 6)) (g_3) (g_5) ((J 9)) ((J 10)) (pb) (pe) (ob) (oe) (b1) (e1) (b2) (e2)) := hD
      have hg_6 : bk (A1) g_5 := ⟨hg_6, hg_2.2⟩
      refine W.eq (g2 := F0 m 61 ls []) rfl ?_
      refine lv_aload_n hx hb rd_M_turn_61 rfl (lv_at hl 0 rfl) ?_
      refine lv_aload_n hx hb rd_M_turn_62 rfl (lv_at hl 0 rfl) ?_
      refine va_getN (D := (dC, dI)) (ci := 4) (v := .int (iv (e1))) (C := rR4) (T := rT4) (N := 4) hx hb hts (fun w h => List.mem_cons_of_mem _ (rin4 w h)) hown hK hP 3 rfl rfl 3 (by decide) (hNX.use rm_290 rfl) (fun _ h9 => h9) rfl rd_M_turn_63 ?_
      refine iw_ineg hx hb rd_M_turn_66 ?_
      refine va_putN (D := (dC, dI)) (ci := 4) (v := .int (iv (-(e1)))) (ty := .int) (C := rR4) (T := rT4) (N := 4) hx hb hts (fun w h => List.mem_cons_of_mem _ (rin4 w h)) rty4 rtyok4 rnm4 hown hK hP hD hS 3 rfl rfl 3 (by decide) (hNX.use rm_290 rfl) (fun _ h9 => h9) rfl (by decide +kernel) rfl rfl (Nat.le_of_ble_eq_true rfl) rd_M_turn_67 (fun H locs hP hD hS => ?_)
      have hP : va_P (dC, dI) vwCl (rC cI r ((V 0)) ((V 1)) (A1) ((V 3)) ((V 4)) ((V 5)) ((V 6)) (U1) (A1) (A2) (U2) ((J 0)) ((J 1)) (g_1) ((J 3)) ((J 4)) ((J 5)) ((J 6)) (g_3) (g_5) ((J 9)) ((J 10)) (pb) (pe) (ob) (oe) (b1) (-(e1)) (b2) (e2)) H := hP
      have hD : va_D (ef_A (rC cI r ((V 0)) ((V 1)) ((V 2)) ((V 3)) ((V 4)) ((V 5)) ((V 6)) (A1) (U1) (A2) (U2) ((J 0)) ((J 1)) ((J 2)) ((J 3)) ((J 4)) ((J 5)) ((J 6)) ((J 7)) ((J 8)) ((J 9)) ((J 10)) (pb) (pe) (ob) (oe) (b1) (e1) (b2) (e2))) (rC cI r ((V 0)) ((V 1)) (A1) ((V 3)) ((V 4)) ((V 5)) ((V 6)) (U1) (A1) (A2) (U2) ((J 0)) ((J 1)) (g_1) ((J 3)) ((J 4)) ((J 5)) ((J 6)) (g_3) (g_5) ((J 9)) ((J 10)) (pb) (pe) (ob) (oe) (b1) (-(e1)) (b2) (e2)) := hD
      refine lv_iconst (v := iv (0)) hx hb rd_M_turn_70 (by decide) ?_
      exact ef_iret hx hb hr hlocks hP hD hS rd_M_turn_71 (⟨fun i => [((V 0)), ((V 1)), (A1), ((V 3)), ((V 4)), ((V 5)), ((V 6))].getD i 0, fun i => [((J 0)), ((J 1)), (g_1), ((J 3)), ((J 4)), ((J 5)), ((J 6)), (g_3), (g_5), ((J 9)), ((J 10))].getD i (fun _ => 0), _, _, _, _, rfl, rfl, rJ_of (hJ 0 (by decide)) (hJ 1 (by decide)) hg_2 (hJ 3 (by decide)) (hJ 4 (by decide)) (hJ 5 (by decide)) (hJ 6 (by decide)), hg_4, hg_6, kA2, kU2⟩)
    ·
      exact absurd (dn_0.1 (by omega)) hA0
  ·
    exact absurd k1 (by decide)

set_option maxRecDepth 100000 in
set_option maxHeartbeats 4000000 in
/-- turn -/
theorem r_turn1Z (l : Launch) (dC : Nat → ClassId) (dI : Nat → Nat → Nat) {cI : ClassId} {tys : List (ClassId × FieldType)} (ht : tys[0]? = some (cI, .int)) (r : Nat → Nat) {V : Nat → Nat} {J : Nat → Nat → Nat} {A1 U1 A2 U2 : Nat} {pb pe ob oe b1 e1 b2 e2 : Int} (hJ : rJ V J) (kA1 : bk A1 (J 7)) (kU1 : bk U1 (J 8)) (kA2 : bk A2 (J 9)) (kU2 : bk U2 (J 10)) (mA1 : dn A1 ≤ 300) (mU1 : dn U1 ≤ 300) (mA2 : dn A2 ≤ 300) (mU2 : dn U2 ≤ 300) (hA0 : A2 = 0) : ef_C l ry_M_turn rw_M_turn ({ frames := 1, cells := 0, slots := 0, locals := 22 } : Room) [.ref (r 0), .int (iv (1))] (dC, dI) vwCl tys (rC cI r ((V 0)) ((V 1)) ((V 2)) ((V 3)) ((V 4)) ((V 5)) ((V 6)) (A1) (U1) (A2) (U2) ((J 0)) ((J 1)) ((J 2)) ((J 3)) ((J 4)) ((J 5)) ((J 6)) ((J 7)) ((J 8)) ((J 9)) ((J 10)) (pb) (pe) (ob) (oe) (b1) (e1) (b2) (e2)) (fun o w1 => ∃ (V2 : Nat → Nat) (J2 : Nat → Nat → Nat) (pb2 pe2 ob2 oe2 : Int), o = some (.int (iv (-3))) ∧ w1 = rC cI r (V2 0) (V2 1) (V2 2) (V2 3) (V2 4) (V2 5) (V2 6) (A1) (U1) (A2) (U2) (J2 0) (J2 1) (J2 2) (J2 3) (J2 4) (J2 5) (J2 6) (J2 7) (J2 8) (J2 9) (J2 10) (pb2) (pe2) (ob2) (oe2) (b1) (e1) (b2) (e2) ∧ rJ V2 J2 ∧ bk (A1) (J2 7) ∧ bk (U1) (J2 8) ∧ bk (A2) (J2 9) ∧ bk (U2) (J2 10)) := by
  refine ef_C.of (cc := rc_M_turn) (maxL := 3) (ret := (some .int)) (by decide) rfl (Nat.le_of_ble_eq_true rfl) ?_
  intro p e s m below meth c ls hx hb hml hr hts hown hlocks hK hNX hP hD hS hl
  have hl : lv_has ls 3 [(0, .ref (r 0)), (1, .int (iv (1)))] := hl
  have hown : s.vm.findClass rR5 = some m.cls := hown
  generalize hH : s.heap = H at hP ⊢
  have hS : va_S (ef_A (rC cI r ((V 0)) ((V 1)) ((V 2)) ((V 3)) ((V 4)) ((V 5)) ((V 6)) (A1) (U1) (A2) (U2) ((J 0)) ((J 1)) ((J 2)) ((J 3)) ((J 4)) ((J 5)) ((J 6)) ((J 7)) ((J 8)) ((J 9)) ((J 10)) (pb) (pe) (ob) (oe) (b1) (e1) (b2) (e2))) s.heap H [] := by rw [← hH]; exact hS
  generalize ([] : List Loc) = locs at hS ⊢
  refine lv_iload_n hx hb rd_M_turn_0 rfl (lv_at hl 1 rfl) ?_
  refine ef_callS (As := [.int (iv (1))]) (rest := []) ⟨hx, hb, hml, hown, hts⟩ (r_isNumber1 l dC dI ht r) (cwS 1 hts (ef_goodS rm_336 rm_337 rm_24 rm_338) rfl rfl rfl (by decide +kernel) ⟨Nat.le_of_ble_eq_true rfl, Nat.le_of_ble_eq_true rfl⟩) hK hNX hP hD hS rfl hl.1 rfl (Nat.le_of_ble_eq_true rfl) rd_M_turn_1 ⟨Nat.zero_le _, Nat.zero_le _⟩ (fun o w1 H locs hq hP hD hS => ?_)
  obtain ⟨rfl, e9⟩ := hq
  rw [e9] at hP hD
  refine W.eq (g2 := F0 m 4 ls [.int (iv (1))]) rfl ?_
  refine iw_if_ne (tgt := 9) hx hb rd_M_turn_4 (by decide) ⟨by omega, by omega⟩ (fun k1 => ?_) (fun k1 => ?_)
  ·
    refine lv_aload_n hx hb rd_M_turn_9 rfl (lv_at hl 0 rfl) ?_
    refine lv_iload_n hx hb rd_M_turn_10 rfl (lv_at hl 1 rfl) ?_
    refine ef_callV (As := [.int (iv (1))]) (rest := []) ⟨hx, hb, hml, hown, hts⟩ (r_numberOf1 l dC dI ht r) (cwV 1 hts (ef_goodV rm_339 rm_341 rm_12 rm_24 rm_342) rfl rfl rfl (by decide +kernel) ⟨Nat.le_of_ble_eq_true rfl, Nat.le_of_ble_eq_true rfl⟩) hK hNX hP hD hS 0 rfl rfl rfl rfl hl.1 rfl (Nat.le_of_ble_eq_true rfl) rd_M_turn_11 ⟨Nat.zero_le _, Nat.zero_le _⟩ (fun o w1 H locs hq hP hD hS => ?_)
    obtain ⟨rfl, e9⟩ := hq
    rw [e9] at hP hD
    refine W.eq (g2 := F0 m 14 ls [.ref (r 4)]) rfl ?_
    refine lv_astore_n (lv' := [(2, .ref (r 4)), (0, .ref (r 0)), (1, .int (iv (1)))]) hx hb rd_M_turn_14 rfl hl (by decide) rfl (fun ls hl => ?_)
    refine lv_aload_n hx hb rd_M_turn_15 rfl (lv_at hl 0 rfl) ?_
    refine va_getN (D := (dC, dI)) (ci := 4) (v := .ref (r 23)) (C := rR4) (T := rT4) (N := 4) hx hb hts (fun w h => List.mem_cons_of_mem _ (rin4 w h)) hown hK hP 4 rfl rfl 1 (by decide) (hNX.use rm_287 rfl) (fun _ h9 => h9) rfl rd_M_turn_16 ?_
    refine va_getN (D := (dC, dI)) (ci := 3) (v := .int (iv ((dn (A2) : Int)))) (C := rR3) (T := rT3) (N := 2) hx hb hts (fun w h => List.mem_cons_of_mem _ (rin3 w h)) hown hK hP 23 rfl rfl 1 (by decide) (hNX.use rm_270 rfl) (fun _ h9 => h9) rfl rd_M_turn_19 ?_
    refine iw_if_ne (tgt := 28) hx hb rd_M_turn_22 (by decide) ⟨by omega, by omega⟩ (fun c1 => ?_) (fun c1 => ?_)
    ·
      exact absurd (by rw [dn_0.2 hA0]; rfl) c1
    ·
      refine lv_bipush (v := iv (-3)) hx hb rd_M_turn_25 (by decide) ?_
      exact ef_iret hx hb hr hlocks hP hD hS rd_M_turn_27 (⟨fun i => [((V 0)), ((V 1)), ((V 2)), ((V 3)), ((V 4)), ((V 5)), ((V 6))].getD i 0, fun i => [((J 0)), ((J 1)), ((J 2)), ((J 3)), ((J 4)), ((J 5)), ((J 6)), ((J 7)), ((J 8)), ((J 9)), ((J 10))].getD i (fun _ => 0), _, _, _, _, rfl, rfl, rJ_of (hJ 0 (by decide)) (hJ 1 (by decide)) (hJ 2 (by decide)) (hJ 3 (by decide)) (hJ 4 (by decide)) (hJ 5 (by decide)) (hJ 6 (by decide)), kA1, kU1, kA2, kU2⟩)
  ·
    exact absurd k1 (by decide)

set_option maxRecDepth 100000 in
set_option maxHeartbeats 4000000 in
/-- turn -/
theorem r_turn1K (l : Launch) (dC : Nat → ClassId) (dI : Nat → Nat → Nat) {cI : ClassId} {tys : List (ClassId × FieldType)} (ht : tys[0]? = some (cI, .int)) (r : Nat → Nat) {V : Nat → Nat} {J : Nat → Nat → Nat} {A1 U1 A2 U2 : Nat} {pb pe ob oe b1 e1 b2 e2 : Int} (hJ : rJ V J) (kA1 : bk A1 (J 7)) (kU1 : bk U1 (J 8)) (kA2 : bk A2 (J 9)) (kU2 : bk U2 (J 10)) (mA1 : dn A1 ≤ 300) (mU1 : dn U1 ≤ 300) (mA2 : dn A2 ≤ 300) (mU2 : dn U2 ≤ 300) (hA0 : A2 ≠ 0) : ef_C l ry_M_turn rw_M_turn ({ frames := 1, cells := 0, slots := 0, locals := 22 } : Room) [.ref (r 0), .int (iv (1))] (dC, dI) vwCl tys (rC cI r ((V 0)) ((V 1)) ((V 2)) ((V 3)) ((V 4)) ((V 5)) ((V 6)) (A1) (U1) (A2) (U2) ((J 0)) ((J 1)) ((J 2)) ((J 3)) ((J 4)) ((J 5)) ((J 6)) ((J 7)) ((J 8)) ((J 9)) ((J 10)) (pb) (pe) (ob) (oe) (b1) (e1) (b2) (e2)) (fun o w1 => ∃ (V2 : Nat → Nat) (J2 : Nat → Nat → Nat) (pb2 pe2 ob2 oe2 : Int), o = some (.int (iv (0))) ∧ w1 = rC cI r (V2 0) (V2 1) (V2 2) (V2 3) (V2 4) (V2 5) (V2 6) (A1) (U1) (U2) (A2) (J2 0) (J2 1) (J2 2) (J2 3) (J2 4) (J2 5) (J2 6) (J2 7) (J2 8) (J2 9) (J2 10) (pb2) (pe2) (ob2) (oe2) (b1) (e1) (b2) (-e2) ∧ rJ V2 J2 ∧ bk (A1) (J2 7) ∧ bk (U1) (J2 8) ∧ bk (U2) (J2 9) ∧ bk (A2) (J2 10)) := by
  refine ef_C.of (cc := rc_M_turn) (maxL := 3) (ret := (some .int)) (by decide) rfl (Nat.le_of_ble_eq_true rfl) ?_
  intro p e s m below meth c ls hx hb hml hr hts hown hlocks hK hNX hP hD hS hl
  have hl : lv_has ls 3 [(0, .ref (r 0)), (1, .int (iv (1)))] := hl
  have hown : s.vm.findClass rR5 = some m.cls := hown
  generalize hH : s.heap = H at hP ⊢
  have hS : va_S (ef_A (rC cI r ((V 0)) ((V 1)) ((V 2)) ((V 3)) ((V 4)) ((V 5)) ((V 6)) (A1) (U1) (A2) (U2) ((J 0)) ((J 1)) ((J 2)) ((J 3)) ((J 4)) ((J 5)) ((J 6)) ((J 7)) ((J 8)) ((J 9)) ((J 10)) (pb) (pe) (ob) (oe) (b1) (e1) (b2) (e2))) s.heap H [] := by rw [← hH]; exact hS
  generalize ([] : List Loc) = locs at hS ⊢
  refine lv_iload_n hx hb rd_M_turn_0 rfl (lv_at hl 1 rfl) ?_
  refine ef_callS (As := [.int (iv (1))]) (rest := []) ⟨hx, hb, hml, hown, hts⟩ (r_isNumber1 l dC dI ht r) (cwS 1 hts (ef_goodS rm_336 rm_337 rm_24 rm_338) rfl rfl rfl (by decide +kernel) ⟨Nat.le_of_ble_eq_true rfl, Nat.le_of_ble_eq_true rfl⟩) hK hNX hP hD hS rfl hl.1 rfl (Nat.le_of_ble_eq_true rfl) rd_M_turn_1 ⟨Nat.zero_le _, Nat.zero_le _⟩ (fun o w1 H locs hq hP hD hS => ?_)
  obtain ⟨rfl, e9⟩ := hq
  rw [e9] at hP hD
  refine W.eq (g2 := F0 m 4 ls [.int (iv (1))]) rfl ?_
  refine iw_if_ne (tgt := 9) hx hb rd_M_turn_4 (by decide) ⟨by omega, by omega⟩ (fun k1 => ?_) (fun k1 => ?_)
  ·
    refine lv_aload_n hx hb rd_M_turn_9 rfl (lv_at hl 0 rfl) ?_
    refine lv_iload_n hx hb rd_M_turn_10 rfl (lv_at hl 1 rfl) ?_
    refine ef_callV (As := [.int (iv (1))]) (rest := []) ⟨hx, hb, hml, hown, hts⟩ (r_numberOf1 l dC dI ht r) (cwV 1 hts (ef_goodV rm_339 rm_341 rm_12 rm_24 rm_342) rfl rfl rfl (by decide +kernel) ⟨Nat.le_of_ble_eq_true rfl, Nat.le_of_ble_eq_true rfl⟩) hK hNX hP hD hS 0 rfl rfl rfl rfl hl.1 rfl (Nat.le_of_ble_eq_true rfl) rd_M_turn_11 ⟨Nat.zero_le _, Nat.zero_le _⟩ (fun o w1 H locs hq hP hD hS => ?_)
    obtain ⟨rfl, e9⟩ := hq
    rw [e9] at hP hD
    refine W.eq (g2 := F0 m 14 ls [.ref (r 4)]) rfl ?_
    refine lv_astore_n (lv' := [(2, .ref (r 4)), (0, .ref (r 0)), (1, .int (iv (1)))]) hx hb rd_M_turn_14 rfl hl (by decide) rfl (fun ls hl => ?_)
    refine lv_aload_n hx hb rd_M_turn_15 rfl (lv_at hl 0 rfl) ?_
    refine va_getN (D := (dC, dI)) (ci := 4) (v := .ref (r 23)) (C := rR4) (T := rT4) (N := 4) hx hb hts (fun w h => List.mem_cons_of_mem _ (rin4 w h)) hown hK hP 4 rfl rfl 1 (by decide) (hNX.use rm_287 rfl) (fun _ h9 => h9) rfl rd_M_turn_16 ?_
    refine va_getN (D := (dC, dI)) (ci := 3) (v := .int (iv ((dn (A2) : Int)))) (C := rR3) (T := rT3) (N := 2) hx hb hts (fun w h => List.mem_cons_of_mem _ (rin3 w h)) hown hK hP 23 rfl rfl 1 (by decide) (hNX.use rm_270 rfl) (fun _ h9 => h9) rfl rd_M_turn_19 ?_
    refine iw_if_ne (tgt := 28) hx hb rd_M_turn_22 (by decide) ⟨by omega, by omega⟩ (fun c1 => ?_) (fun c1 => ?_)
    ·
      refine lv_aload_n hx hb rd_M_turn_28 rfl (lv_at hl 1 rfl) ?_
      refine va_get (D := (dC, dI)) (ci := 5) (v := .ref (r 9)) (C := rR5) (T := rT5) (N := 7) hx hb hts (fun w h => List.mem_cons_of_mem _ (rin5 w h)) hown hK hP 0 rfl rfl 6 (by decide) (hts _ (List.mem_cons_of_mem _ rm_316)) (fun _ h9 => h9) rfl rd_M_turn_29 ?_
      refine lv_aload_n hx hb rd_M_turn_32 rfl (lv_at hl 0 rfl) ?_
      refine va_getN (D := (dC, dI)) (ci := 4) (v := .ref (r 23)) (C := rR4) (T := rT4) (N := 4) hx hb hts (fun w h => List.mem_cons_of_mem _ (rin4 w h)) hown hK hP 4 rfl rfl 1 (by decide) (hNX.use rm_287 rfl) (fun _ h9 => h9) rfl rd_M_turn_33 ?_
      refine ef_callV (As := [.ref (r 23)]) (rest := []) ⟨hx, hb, hml, hown, hts⟩ (b_copy l dC dI ht (isB_c (X := (V 2)) (F := (J 2)) (ws := rC cI r ((V 0)) ((V 1)) ((V 2)) ((V 3)) ((V 4)) ((V 5)) ((V 6)) (A1) (U1) (A2) (U2) ((J 0)) ((J 1)) ((J 2)) ((J 3)) ((J 4)) ((J 5)) ((J 6)) ((J 7)) ((J 8)) ((J 9)) ((J 10)) (pb) (pe) (ob) (oe) (b1) (e1) (b2) (e2)) (k0 := 9) (k1 := 10) (by decide) rfl rfl) (isB_c (X := A2) (F := (J 9)) (ws := rC cI r ((V 0)) ((V 1)) ((V 2)) ((V 3)) ((V 4)) ((V 5)) ((V 6)) (A1) (U1) (A2) (U2) ((J 0)) ((J 1)) ((J 2)) ((J 3)) ((J 4)) ((J 5)) ((J 6)) ((J 7)) ((J 8)) ((J 9)) ((J 10)) (pb) (pe) (ob) (oe) (b1) (e1) (b2) (e2)) (k0 := 23) (k1 := 24) (by decide) rfl rfl) kA2.1 kA2.2 (apt_c (k0 := 9) (k1 := 10) (j0 := 23) (j1 := 24) rfl)) (cwV 1 hts (ef_goodV rm_352 rm_353 rm_354 rm_25 rm_355) rfl rfl rfl (by decide +kernel) ⟨Nat.le_of_ble_eq_true rfl, Nat.le_of_ble_eq_true rfl⟩) hK hNX hP hD hS 9 rfl rfl rfl rfl hl.1 rfl (Nat.le_of_ble_eq_true rfl) rd_M_turn_36 ⟨Nat.zero_le _, Nat.zero_le _⟩ (fun o w1 H locs hq hP hD hS => ?_)
      obtain ⟨rfl, g_1, rfl, hg_2⟩ := hq
      have hP : va_P (dC, dI) vwCl (rC cI r ((V 0)) ((V 1)) (A2) ((V 3)) ((V 4)) ((V 5)) ((V 6)) (A1) (U1) (A2) (U2) ((J 0)) ((J 1)) (g_1) ((J 3)) ((J 4)) ((J 5)) ((J 6)) ((J 7)) ((J 8)) ((J 9)) ((J 10)) (pb) (pe) (ob) (oe) (b1) (e1) (b2) (e2)) H := hP
      have hD : va_D (ef_A (rC cI r ((V 0)) ((V 1)) ((V 2)) ((V 3)) ((V 4)) ((V 5)) ((V 6)) (A1) (U1) (A2) (U2) ((J 0)) ((J 1)) ((J 2)) ((J 3)) ((J 4)) ((J 5)) ((J 6)) ((J 7)) ((J 8)) ((J 9)) ((J 10)) (pb) (pe) (ob) (oe) (b1) (e1) (b2) (e2))) (rC cI r ((V 0)) ((V 1)) (A2) ((V 3)) ((V 4)) ((V 5)) ((V 6)) (A1) (U1) (A2) (U2) ((J 0)) ((J 1)) (g_1) ((J 3)) ((J 4)) ((J 5)) ((J 6)) ((J 7)) ((J 8)) ((J 9)) ((J 10)) (pb) (pe) (ob) (oe) (b1) (e1) (b2) (e2)) := hD
      have hg_2 : bk (A2) g_1 := ⟨hg_2, kA2.2⟩
      refine W.eq (g2 := F0 m 39 ls []) rfl ?_
      refine lv_aload_n hx hb rd_M_turn_39 rfl (lv_at hl 0 rfl) ?_
      refine va_getN (D := (dC, dI)) (ci := 4) (v := .ref (r 23)) (C := rR4) (T := rT4) (N := 4) hx hb hts (fun w h => List.mem_cons_of_mem _ (rin4 w h)) hown hK hP 4 rfl rfl 1 (by decide) (hNX.use rm_287 rfl) (fun _ h9 => h9) rfl rd_M_turn_40 ?_
      refine lv_aload_n hx hb rd_M_turn_43 rfl (lv_at hl 0 rfl) ?_
      refine va_getN (D := (dC, dI)) (ci := 4) (v := .ref (r 25)) (C := rR4) (T := rT4) (N := 4) hx hb hts (fun w h => List.mem_cons_of_mem _ (rin4 w h)) hown hK hP 4 rfl rfl 2 (by decide) (hNX.use rm_288 rfl) (fun _ h9 => h9) rfl rd_M_turn_44 ?_
      refine ef_callV (As := [.ref (r 25)]) (rest := []) ⟨hx, hb, hml, hown, hts⟩ (b_copy l dC dI ht (isB_c (X := A2) (F := (J 9)) (ws := rC cI r ((V 0)) ((V 1)) (A2) ((V 3)) ((V 4)) ((V 5)) ((V 6)) (A1) (U1) (A2) (U2) ((J 0)) ((J 1)) (g_1) ((J 3)) ((J 4)) ((J 5)) ((J 6)) ((J 7)) ((J 8)) ((J 9)) ((J 10)) (pb) (pe) (ob) (oe) (b1) (e1) (b2) (e2)) (k0 := 23) (k1 := 24) (by decide) rfl rfl) (isB_c (X := U2) (F := (J 10)) (ws := rC cI r ((V 0)) ((V 1)) (A2) ((V 3)) ((V 4)) ((V 5)) ((V 6)) (A1) (U1) (A2) (U2) ((J 0)) ((J 1)) (g_1) ((J 3)) ((J 4)) ((J 5)) ((J 6)) ((J 7)) ((J 8)) ((J 9)) ((J 10)) (pb) (pe) (ob) (oe) (b1) (e1) (b2) (e2)) (k0 := 25) (k1 := 26) (by decide) rfl rfl) kU2.1 kU2.2 (apt_c (k0 := 23) (k1 := 24) (j0 := 25) (j1 := 26) rfl)) (cwV 1 hts (ef_goodV rm_352 rm_353 rm_354 rm_25 rm_355) rfl rfl rfl (by decide +kernel) ⟨Nat.le_of_ble_eq_true rfl, Nat.le_of_ble_eq_true rfl⟩) hK hNX hP hD hS 23 rfl rfl rfl rfl hl.1 rfl (Nat.le_of_ble_eq_true rfl) rd_M_turn_47 ⟨Nat.zero_le _, Nat.zero_le _⟩ (fun o w1 H locs hq hP hD hS => ?_)
      obtain ⟨rfl, g_3, rfl, hg_4⟩ := hq
      have hP : va_P (dC, dI) vwCl (rC cI r ((V 0)) ((V 1)) (A2) ((V 3)) ((V 4)) ((V 5)) ((V 6)) (A1) (U1) (U2) (U2) ((J 0)) ((J 1)) (g_1) ((J 3)) ((J 4)) ((J 5)) ((J 6)) ((J 7)) ((J 8)) (g_3) ((J 10)) (pb) (pe) (ob) (oe) (b1) (e1) (b2) (e2)) H := hP
      have hD : va_D (ef_A (rC cI r ((V 0)) ((V 1)) ((V 2)) ((V 3)) ((V 4)) ((V 5)) ((V 6)) (A1) (U1) (A2) (U2) ((J 0)) ((J 1)) ((J 2)) ((J 3)) ((J 4)) ((J 5)) ((J 6)) ((J 7)) ((J 8)) ((J 9)) ((J 10)) (pb) (pe) (ob) (oe) (b1) (e1) (b2) (e2))) (rC cI r ((V 0)) ((V 1)) (A2) ((V 3)) ((V 4)) ((V 5)) ((V 6)) (A1) (U1) (U2) (U2) ((J 0)) ((J 1)) (g_1) ((J 3)) ((J 4)) ((J 5)) ((J 6)) ((J 7)) ((J 8)) (g_3) ((J 10)) (pb) (pe) (ob) (oe) (b1) (e1) (b2) (e2)) := hD
      have hg_4 : bk (U2) g_3 := ⟨hg_4, kU2.2⟩
      refine W.eq (g2 := F0 m 50 ls []) rfl ?_
      refine lv_aload_n hx hb rd_M_turn_50 rfl (lv_at hl 0 rfl) ?_
      refine va_getN (D := (dC, dI)) (ci := 4) (v := .ref (r 25)) (C := rR4) (T := rT4) (N := 4) hx hb hts (fun w h => List.mem_cons_of_mem _ (rin4 w h)) hown hK hP 4 rfl rfl 2 (by decide) (hNX.use rm_288 rfl) (fun _ h9 => h9) rfl rd_M_turn_51 ?_
      refine lv_aload_n hx hb rd_M_turn_54 rfl (lv_at hl 1 rfl) ?_
      refine va_get (D := (dC, dI)) (ci := 5) (v := .ref (r 9)) (C := rR5) (T := rT5) (N := 7) hx hb hts (fun w h => List.mem_cons_of_mem _ (rin5 w h)) hown hK hP 0 rfl rfl 6 (by decide) (hts _ (List.mem_cons_of_mem _ rm_316)) (fun _ h9 => h9) rfl rd_M_turn_55 ?_
      refine ef_callV (As := [.ref (r 9)]) (rest := []) ⟨hx, hb, hml, hown, hts⟩ (b_copy l dC dI ht (isB_c (X := U2) (F := (J 10)) (ws := rC cI r ((V 0)) ((V 1)) (A2) ((V 3)) ((V 4)) ((V 5)) ((V 6)) (A1) (U1) (U2) (U2) ((J 0)) ((J 1)) (g_1) ((J 3)) ((J 4)) ((J 5)) ((J 6)) ((J 7)) ((J 8)) (g_3) ((J 10)) (pb) (pe) (ob) (oe) (b1) (e1) (b2) (e2)) (k0 := 25) (k1 := 26) (by decide) rfl rfl) (isB_c (X := A2) (F := g_1) (ws := rC cI r ((V 0)) ((V 1)) (A2) ((V 3)) ((V 4)) ((V 5)) ((V 6)) (A1) (U1) (U2) (U2) ((J 0)) ((J 1)) (g_1) ((J 3)) ((J 4)) ((J 5)) ((J 6)) ((J 7)) ((J 8)) (g_3) ((J 10)) (pb) (pe) (ob) (oe) (b1) (e1) (b2) (e2)) (k0 := 9) (k1 := 10) (by decide) rfl rfl) hg_2.1 hg_2.2 (apt_c (k0 := 25) (k1 := 26) (j0 := 9) (j1 := 10) rfl)) (cwV 1 hts (ef_goodV rm_352 rm_353 rm_354 rm_25 rm_355) rfl rfl rfl (by decide +kernel) ⟨Nat.le_of_ble_eq_true rfl, Nat.le_of_ble_eq_true rfl⟩) hK hNX hP hD hS 25 rfl rfl rfl rfl hl.1 rfl (Nat.le_of_ble_eq_true rfl) rd_M_turn_58 ⟨Nat.zero_le _, Nat.zero_le _⟩ (fun o w1 H locs hq hP hD hS => ?_)
      obtain ⟨rfl, g_5, rfl, hg_6⟩ := hq
      have hP : va_P (dC, dI) vwCl (rC cI r ((V 0)) ((V 1)) (A2) ((V 3)) ((V 4)) ((V 5)) ((V 6)) (A1) (U1) (U2) (A2) ((J 0)) ((J 1)) (g_1) ((J 3)) ((J 4)) ((J 5)) ((J 6)) ((J 7)) ((J 8)) (g_3) (g_5) (pb) (pe) (ob) (oe) (b1) (e1) (b2) (e2)) H := hP
      have hD : va_D (ef_A (rC cI r ((V 0)) ((V 1)) ((V 2)) ((V 3)) ((V 4)) ((V 5)) ((V 6)) (A1) (U1) (A2) (U2) ((J 0)) ((J 1)) ((J 2)) ((J 3)) ((J 4)) ((J 5)) ((J 6)) ((J 7)) ((J 8)) ((J 9)) ((J 10)) (pb) (pe) (ob) (oe) (b1) (e1) (b2) (e2))) (rC cI r ((V 0)) ((V 1)) (A2) ((V 3)) ((V 4)) ((V 5)) ((V 6)) (A1) (U1) (U2) (A2) ((J 0)) ((J 1)) (g_1) ((J 3)) ((J 4)) ((J 5)) ((J 6)) ((J 7)) ((J 8)) (g_3) (g_5) (pb) (pe) (ob) (oe) (b1) (e1) (b2) (e2)) := hD
      have hg_6 : bk (A2) g_5 := ⟨hg_6, hg_2.2⟩
      refine W.eq (g2 := F0 m 61 ls []) rfl ?_
      refine lv_aload_n hx hb rd_M_turn_61 rfl (lv_at hl 0 rfl) ?_
      refine lv_aload_n hx hb rd_M_turn_62 rfl (lv_at hl 0 rfl) ?_
      refine va_getN (D := (dC, dI)) (ci := 4) (v := .int (iv (e2))) (C := rR4) (T := rT4) (N := 4) hx hb hts (fun w h => List.mem_cons_of_mem _ (rin4 w h)) hown hK hP 4 rfl rfl 3 (by decide) (hNX.use rm_290 rfl) (fun _ h9 => h9) rfl rd_M_turn_63 ?_
      refine iw_ineg hx hb rd_M_turn_66 ?_
      refine va_putN (D := (dC, dI)) (ci := 4) (v := .int (iv (-(e2)))) (ty := .int) (C := rR4) (T := rT4) (N := 4) hx hb hts (fun w h => List.mem_cons_of_mem _ (rin4 w h)) rty4 rtyok4 rnm4 hown hK hP hD hS 4 rfl rfl 3 (by decide) (hNX.use rm_290 rfl) (fun _ h9 => h9) rfl (by decide +kernel) rfl rfl (Nat.le_of_ble_eq_true rfl) rd_M_turn_67 (fun H locs hP hD hS => ?_)
      have hP : va_P (dC, dI) vwCl (rC cI r ((V 0)) ((V 1)) (A2) ((V 3)) ((V 4)) ((V 5)) ((V 6)) (A1) (U1) (U2) (A2) ((J 0)) ((J 1)) (g_1) ((J 3)) ((J 4)) ((J 5)) ((J 6)) ((J 7)) ((J 8)) (g_3) (g_5) (pb) (pe) (ob) (oe) (b1) (e1) (b2) (-(e2))) H := hP
      have hD : va_D (ef_A (rC cI r ((V 0)) ((V 1)) ((V 2)) ((V 3)) ((V 4)) ((V 5)) ((V 6)) (A1) (U1) (A2) (U2) ((J 0)) ((J 1)) ((J 2)) ((J 3)) ((J 4)) ((J 5)) ((J 6)) ((J 7)) ((J 8)) ((J 9)) ((J 10)) (pb) (pe) (ob) (oe) (b1) (e1) (b2) (e2))) (rC cI r ((V 0)) ((V 1)) (A2) ((V 3)) ((V 4)) ((V 5)) ((V 6)) (A1) (U1) (U2) (A2) ((J 0)) ((J 1)) (g_1) ((J 3)) ((J 4)) ((J 5)) ((J 6)) ((J 7)) ((J 8)) (g_3) (g_5) (pb) (pe) (ob) (oe) (b1) (e1) (b2) (-(e2))) := hD
      refine lv_iconst (v := iv (0)) hx hb rd_M_turn_70 (by decide) ?_
      exact ef_iret hx hb hr hlocks hP hD hS rd_M_turn_71 (⟨fun i => [((V 0)), ((V 1)), (A2), ((V 3)), ((V 4)), ((V 5)), ((V 6))].getD i 0, fun i => [((J 0)), ((J 1)), (g_1), ((J 3)), ((J 4)), ((J 5)), ((J 6)), ((J 7)), ((J 8)), (g_3), (g_5)].getD i (fun _ => 0), _, _, _, _, rfl, rfl, rJ_of (hJ 0 (by decide)) (hJ 1 (by decide)) hg_2 (hJ 3 (by decide)) (hJ 4 (by decide)) (hJ 5 (by decide)) (hJ 6 (by decide)), kA1, kU1, hg_4, hg_6⟩)
    ·
      exact absurd (dn_0.1 (by omega)) hA0
  ·
    exact absurd k1 (by decide)

set_option maxRecDepth 100000 in
set_option maxHeartbeats 4000000 in
/-- turn of no number -/
theorem r_turnx (l : Launch) (dC : Nat → ClassId) (dI : Nat → Nat → Nat) {cI : ClassId} {tys : List (ClassId × FieldType)} (ht : tys[0]? = some (cI, .int)) (r : Nat → Nat) {V : Nat → Nat} {J : Nat → Nat → Nat} {A1 U1 A2 U2 : Nat} {pb pe ob oe b1 e1 b2 e2 : Int} (hJ : rJ V J) (kA1 : bk A1 (J 7)) (kU1 : bk U1 (J 8)) (kA2 : bk A2 (J 9)) (kU2 : bk U2 (J 10)) (mA1 : dn A1 ≤ 300) (mU1 : dn U1 ≤ 300) (mA2 : dn A2 ≤ 300) (mU2 : dn U2 ≤ 300) (z : Int) (hz : ir z) (hz0 : z ≠ 0) (hz1 : z ≠ 1) : ef_C l ry_M_turn rw_M_turn ({ frames := 1, cells := 0, slots := 0, locals := 22 } : Room) [.ref (r 0), .int (iv (z))] (dC, dI) vwCl tys (rC cI r ((V 0)) ((V 1)) ((V 2)) ((V 3)) ((V 4)) ((V 5)) ((V 6)) (A1) (U1) (A2) (U2) ((J 0)) ((J 1)) ((J 2)) ((J 3)) ((J 4)) ((J 5)) ((J 6)) ((J 7)) ((J 8)) ((J 9)) ((J 10)) (pb) (pe) (ob) (oe) (b1) (e1) (b2) (e2)) (fun o w1 => ∃ (V2 : Nat → Nat) (J2 : Nat → Nat → Nat) (pb2 pe2 ob2 oe2 : Int), o = some (.int (iv (-1))) ∧ w1 = rC cI r (V2 0) (V2 1) (V2 2) (V2 3) (V2 4) (V2 5) (V2 6) (A1) (U1) (A2) (U2) (J2 0) (J2 1) (J2 2) (J2 3) (J2 4) (J2 5) (J2 6) (J2 7) (J2 8) (J2 9) (J2 10) (pb2) (pe2) (ob2) (oe2) (b1) (e1) (b2) (e2) ∧ rJ V2 J2 ∧ bk (A1) (J2 7) ∧ bk (U1) (J2 8) ∧ bk (A2) (J2 9) ∧ bk (U2) (J2 10)) := by
  refine ef_C.of (cc := rc_M_turn) (maxL := 3) (ret := (some .int)) (by decide) rfl (Nat.le_of_ble_eq_true rfl) ?_
  intro p e s m below meth c ls hx hb hml hr hts hown hlocks hK hNX hP hD hS hl
  have hl : lv_has ls 3 [(0, .ref (r 0)), (1, .int (iv (z)))] := hl
  have hown : s.vm.findClass rR5 = some m.cls := hown
  generalize hH : s.heap = H at hP ⊢
  have hS : va_S (ef_A (rC cI r ((V 0)) ((V 1)) ((V 2)) ((V 3)) ((V 4)) ((V 5)) ((V 6)) (A1) (U1) (A2) (U2) ((J 0)) ((J 1)) ((J 2)) ((J 3)) ((J 4)) ((J 5)) ((J 6)) ((J 7)) ((J 8)) ((J 9)) ((J 10)) (pb) (pe) (ob) (oe) (b1) (e1) (b2) (e2))) s.heap H [] := by rw [← hH]; exact hS
  generalize ([] : List Loc) = locs at hS ⊢
  refine lv_iload_n hx hb rd_M_turn_0 rfl (lv_at hl 1 rfl) ?_
  refine ef_callS (As := [.int (iv (z))]) (rest := []) ⟨hx, hb, hml, hown, hts⟩ (r_isNumberx l dC dI ht r z hz hz0 hz1) (cwS 1 hts (ef_goodS rm_336 rm_337 rm_24 rm_338) rfl rfl rfl (by decide +kernel) ⟨Nat.le_of_ble_eq_true rfl, Nat.le_of_ble_eq_true rfl⟩) hK hNX hP hD hS rfl hl.1 rfl (Nat.le_of_ble_eq_true rfl) rd_M_turn_1 ⟨Nat.zero_le _, Nat.zero_le _⟩ (fun o w1 H locs hq hP hD hS => ?_)
  obtain ⟨rfl, e9⟩ := hq
  rw [e9] at hP hD
  refine W.eq (g2 := F0 m 4 ls [.int (iv (0))]) rfl ?_
  refine iw_if_ne (tgt := 9) hx hb rd_M_turn_4 (by decide) ⟨by omega, by omega⟩ (fun k1 => ?_) (fun k1 => ?_)
  ·
    exact absurd rfl k1
  ·
    refine lv_iconst (v := iv (-1)) hx hb rd_M_turn_7 (by decide) ?_
    exact ef_iret hx hb hr hlocks hP hD hS rd_M_turn_8 (⟨fun i => [((V 0)), ((V 1)), ((V 2)), ((V 3)), ((V 4)), ((V 5)), ((V 6))].getD i 0, fun i => [((J 0)), ((J 1)), ((J 2)), ((J 3)), ((J 4)), ((J 5)), ((J 6)), ((J 7)), ((J 8)), ((J 9)), ((J 10))].getD i (fun _ => 0), _, _, _, _, rfl, rfl, rJ_of (hJ 0 (by decide)) (hJ 1 (by decide)) (hJ 2 (by decide)) (hJ 3 (by decide)) (hJ 4 (by decide)) (hJ 5 (by decide)) (hJ 6 (by decide)), kA1, kU1, kA2, kU2⟩)

set_option maxRecDepth 100000 in
set_option maxHeartbeats 4000000 in
/-- move -/
theorem r_move0sumF (l : Launch) (dC : Nat → ClassId) (dI : Nat → Nat → Nat) {cI : ClassId} {tys : List (ClassId × FieldType)} (ht : tys[0]? = some (cI, .int)) (r : Nat → Nat) {V : Nat → Nat} {J : Nat → Nat → Nat} {A1 U1 A2 U2 : Nat} {pb pe ob oe b1 e1 b2 e2 : Int} (hJ : rJ V J) (kA1 : bk A1 (J 7)) (kU1 : bk U1 (J 8)) (kA2 : bk A2 (J 9)) (kU2 : bk U2 (J 10)) (mA1 : dn A1 ≤ 300) (mU1 : dn U1 ≤ 300) (mA2 : dn A2 ≤ 300) (mU2 : dn U2 ≤ 300) (hba : bl A1 ≤ 4800) (hbb : bl A2 ≤ 4800) (dw : Int) (hdn : dw = 0 ∨ dw = 1) (hbo : b1 = 0 ∨ b1 = 1) (hd : b1 = dw) (hb4 : 4800 < bl (A1 + A2)) : ef_C l ry_M_move rw_M_move ({ frames := 2, cells := 0, slots := 0, locals := 44 } : Room) [.ref (r 0), .int (iv (0)), .int (iv (dw))] (dC, dI) vwCl tys (rC cI r ((V 0)) ((V 1)) ((V 2)) ((V 3)) ((V 4)) ((V 5)) ((V 6)) (A1) (U1) (A2) (U2) ((J 0)) ((J 1)) ((J 2)) ((J 3)) ((J 4)) ((J 5)) ((J 6)) ((J 7)) ((J 8)) ((J 9)) ((J 10)) (pb) (pe) (ob) (oe) (b1) (e1) (b2) (e2)) (fun o w1 => ∃ (V2 : Nat → Nat) (J2 : Nat → Nat → Nat) (pb2 pe2 ob2 oe2 : Int), o = some (.int (iv (-2))) ∧ w1 = rC cI r (V2 0) (V2 1) (V2 2) (V2 3) (V2 4) (V2 5) (V2 6) (A1) (U1) (A2) (U2) (J2 0) (J2 1) (J2 2) (J2 3) (J2 4) (J2 5) (J2 6) (J2 7) (J2 8) (J2 9) (J2 10) (pb2) (pe2) (ob2) (oe2) (b1) (e1) (b2) (e2) ∧ rJ V2 J2 ∧ bk (A1) (J2 7) ∧ bk (U1) (J2 8) ∧ bk (A2) (J2 9) ∧ bk (U2) (J2 10)) := by
  refine ef_C.of (cc := rc_M_move) (maxL := 6) (ret := (some .int)) (by decide) rfl (Nat.le_of_ble_eq_true rfl) ?_
  intro p e s m below meth c ls hx hb hml hr hts hown hlocks hK hNX hP hD hS hl
  have hl : lv_has ls 6 [(0, .ref (r 0)), (1, .int (iv (0))), (2, .int (iv (dw)))] := hl
  have hown : s.vm.findClass rR5 = some m.cls := hown
  generalize hH : s.heap = H at hP ⊢
  have hS : va_S (ef_A (rC cI r ((V 0)) ((V 1)) ((V 2)) ((V 3)) ((V 4)) ((V 5)) ((V 6)) (A1) (U1) (A2) (U2) ((J 0)) ((J 1)) ((J 2)) ((J 3)) ((J 4)) ((J 5)) ((J 6)) ((J 7)) ((J 8)) ((J 9)) ((J 10)) (pb) (pe) (ob) (oe) (b1) (e1) (b2) (e2))) s.heap H [] := by rw [← hH]; exact hS
  generalize ([] : List Loc) = locs at hS ⊢
  have hdr : ir dw := by rcases hdn with h | h <;> rw [h] <;> exact ⟨by decide, by decide⟩
  have hbr : ir b1 := by rcases hbo with h | h <;> rw [h] <;> exact ⟨by decide, by decide⟩
  have hdv : dn (A1 + A2) ≤ 301 := dn_add mA1 mA2
  have hbd : bl (A1 + A2) ≤ 16 * 301 := bl_le (Nat.lt_of_lt_of_le (dn_lt _) (Nat.pow_le_pow_right (by decide) (by omega)))
  refine lv_iload_n hx hb rd_M_move_0 rfl (lv_at hl 1 rfl) ?_
  refine ef_callS (As := [.int (iv (0))]) (rest := []) ⟨hx, hb, hml, hown, hts⟩ (r_isNumber0 l dC dI ht r) (cwS 1 hts (ef_goodS rm_336 rm_337 rm_24 rm_338) rfl rfl rfl (by decide +kernel) ⟨Nat.le_of_ble_eq_true rfl, Nat.le_of_ble_eq_true rfl⟩) hK hNX hP hD hS rfl hl.1 rfl (Nat.le_of_ble_eq_true rfl) rd_M_move_1 ⟨Nat.zero_le _, Nat.zero_le _⟩ (fun o w1 H locs hq hP hD hS => ?_)
  obtain ⟨rfl, e9⟩ := hq
  rw [e9] at hP hD
  refine W.eq (g2 := F0 m 4 ls [.int (iv (1))]) rfl ?_
  refine iw_if_ne (tgt := 9) hx hb rd_M_move_4 (by decide) ⟨by omega, by omega⟩ (fun k1 => ?_) (fun k1 => ?_)
  ·
    refine lv_aload_n hx hb rd_M_move_9 rfl (lv_at hl 0 rfl) ?_
    refine lv_iload_n hx hb rd_M_move_10 rfl (lv_at hl 1 rfl) ?_
    refine ef_callV (As := [.int (iv (0))]) (rest := []) ⟨hx, hb, hml, hown, hts⟩ (r_numberOf0 l dC dI ht r) (cwV 1 hts (ef_goodV rm_339 rm_341 rm_12 rm_24 rm_342) rfl rfl rfl (by decide +kernel) ⟨Nat.le_of_ble_eq_true rfl, Nat.le_of_ble_eq_true rfl⟩) hK hNX hP hD hS 0 rfl rfl rfl rfl hl.1 rfl (Nat.le_of_ble_eq_true rfl) rd_M_move_11 ⟨Nat.zero_le _, Nat.zero_le _⟩ (fun o w1 H locs hq hP hD hS => ?_)
    obtain ⟨rfl, e9⟩ := hq
    rw [e9] at hP hD
    refine W.eq (g2 := F0 m 14 ls [.ref (r 3)]) rfl ?_
    refine lv_astore_n (lv' := [(3, .ref (r 3)), (0, .ref (r 0)), (1, .int (iv (0))), (2, .int (iv (dw)))]) hx hb rd_M_move_14 rfl hl (by decide) rfl (fun ls hl => ?_)
    refine lv_aload_n hx hb rd_M_move_15 rfl (lv_at hl 1 rfl) ?_
    refine lv_iconst (v := iv (1)) hx hb rd_M_move_16 (by decide) ?_
    refine lv_iload_n hx hb rd_M_move_17 rfl (lv_at hl 2 rfl) ?_
    refine iw_isub hx hb rd_M_move_18 ?_
    refine iw_topi (y := iv (1)) (congrArg iv (by rfl : (((1) - (0)) : Int) = (1))) ?_
    refine lv_iconst (v := iv (0)) hx hb rd_M_move_19 (by decide) ?_
    refine ef_callV (As := [.int (iv (1)), .int (iv (0))]) (rest := []) ⟨hx, hb, hml, hown, hts⟩ (r_partOf10 l dC dI ht r) (cwV 2 hts (ef_goodV rm_348 rm_350 rm_13 rm_24 rm_351) rfl rfl rfl (by decide +kernel) ⟨Nat.le_of_ble_eq_true rfl, Nat.le_of_ble_eq_true rfl⟩) hK hNX hP hD hS 0 rfl rfl rfl rfl hl.1 rfl (Nat.le_of_ble_eq_true rfl) rd_M_move_20 ⟨Nat.zero_le _, Nat.zero_le _⟩ (fun o w1 H locs hq hP hD hS => ?_)
    obtain ⟨rfl, e9⟩ := hq
    rw [e9] at hP hD
    refine W.eq (g2 := F0 m 23 ls [.ref (r 23)]) rfl ?_
    refine lv_astore (lv' := [(4, .ref (r 23)), (3, .ref (r 3)), (0, .ref (r 0)), (1, .int (iv (0))), (2, .int (iv (dw)))]) hx hb rd_M_move_23 hl (by decide) rfl (fun ls hl => ?_)
    refine lv_aload_n hx hb rd_M_move_25 rfl (lv_at hl 2 rfl) ?_
    refine va_get (D := (dC, dI)) (ci := 5) (v := .ref (r 9)) (C := rR5) (T := rT5) (N := 7) hx hb hts (fun w h => List.mem_cons_of_mem _ (rin5 w h)) hown hK hP 0 rfl rfl 6 (by decide) (hts _ (List.mem_cons_of_mem _ rm_316)) (fun _ h9 => h9) rfl rd_M_move_26 ?_
    refine lv_aload_n hx hb rd_M_move_29 rfl (lv_at hl 1 rfl) ?_
    refine va_getN (D := (dC, dI)) (ci := 4) (v := .ref (r 19)) (C := rR4) (T := rT4) (N := 4) hx hb hts (fun w h => List.mem_cons_of_mem _ (rin4 w h)) hown hK hP 3 rfl rfl 1 (by decide) (hNX.use rm_287 rfl) (fun _ h9 => h9) rfl rd_M_move_30 ?_
    refine ef_callV (As := [.ref (r 19)]) (rest := []) ⟨hx, hb, hml, hown, hts⟩ (b_copy l dC dI ht (isB_c (X := (V 2)) (F := (J 2)) (ws := rC cI r ((V 0)) ((V 1)) ((V 2)) ((V 3)) ((V 4)) ((V 5)) ((V 6)) (A1) (U1) (A2) (U2) ((J 0)) ((J 1)) ((J 2)) ((J 3)) ((J 4)) ((J 5)) ((J 6)) ((J 7)) ((J 8)) ((J 9)) ((J 10)) (pb) (pe) (ob) (oe) (b1) (e1) (b2) (e2)) (k0 := 9) (k1 := 10) (by decide) rfl rfl) (isB_c (X := A1) (F := (J 7)) (ws := rC cI r ((V 0)) ((V 1)) ((V 2)) ((V 3)) ((V 4)) ((V 5)) ((V 6)) (A1) (U1) (A2) (U2) ((J 0)) ((J 1)) ((J 2)) ((J 3)) ((J 4)) ((J 5)) ((J 6)) ((J 7)) ((J 8)) ((J 9)) ((J 10)) (pb) (pe) (ob) (oe) (b1) (e1) (b2) (e2)) (k0 := 19) (k1 := 20) (by decide) rfl rfl) kA1.1 kA1.2 (apt_c (k0 := 9) (k1 := 10) (j0 := 19) (j1 := 20) rfl)) (cwV 1 hts (ef_goodV rm_352 rm_353 rm_354 rm_25 rm_355) rfl rfl rfl (by decide +kernel) ⟨Nat.le_of_ble_eq_true rfl, Nat.le_of_ble_eq_true rfl⟩) hK hNX hP hD hS 9 rfl rfl rfl rfl hl.1 rfl (Nat.le_of_ble_eq_true rfl) rd_M_move_33 ⟨Nat.zero_le _, Nat.zero_le _⟩ (fun o w1 H locs hq hP hD hS => ?_)
    obtain ⟨rfl, g_1, rfl, hg_2⟩ := hq
    have hP : va_P (dC, dI) vwCl (rC cI r ((V 0)) ((V 1)) (A1) ((V 3)) ((V 4)) ((V 5)) ((V 6)) (A1) (U1) (A2) (U2) ((J 0)) ((J 1)) (g_1) ((J 3)) ((J 4)) ((J 5)) ((J 6)) ((J 7)) ((J 8)) ((J 9)) ((J 10)) (pb) (pe) (ob) (oe) (b1) (e1) (b2) (e2)) H := hP
    have hD : va_D (ef_A (rC cI r ((V 0)) ((V 1)) ((V 2)) ((V 3)) ((V 4)) ((V 5)) ((V 6)) (A1) (U1) (A2) (U2) ((J 0)) ((J 1)) ((J 2)) ((J 3)) ((J 4)) ((J 5)) ((J 6)) ((J 7)) ((J 8)) ((J 9)) ((J 10)) (pb) (pe) (ob) (oe) (b1) (e1) (b2) (e2))) (rC cI r ((V 0)) ((V 1)) (A1) ((V 3)) ((V 4)) ((V 5)) ((V 6)) (A1) (U1) (A2) (U2) ((J 0)) ((J 1)) (g_1) ((J 3)) ((J 4)) ((J 5)) ((J 6)) ((J 7)) ((J 8)) ((J 9)) ((J 10)) (pb) (pe) (ob) (oe) (b1) (e1) (b2) (e2)) := hD
    have hg_2 : bk (A1) g_1 := ⟨hg_2, kA1.2⟩
    refine W.eq (g2 := F0 m 36 ls []) rfl ?_
    refine lv_aload_n hx hb rd_M_move_36 rfl (lv_at hl 1 rfl) ?_
    refine va_getN (D := (dC, dI)) (ci := 4) (v := .int (iv (b1))) (C := rR4) (T := rT4) (N := 4) hx hb hts (fun w h => List.mem_cons_of_mem _ (rin4 w h)) hown hK hP 3 rfl rfl 0 (by decide) (hNX.use rm_285 rfl) (fun _ h9 => h9) rfl rd_M_move_37 ?_
    refine lv_istore (lv' := [(5, .int (iv (b1))), (4, .ref (r 23)), (3, .ref (r 3)), (0, .ref (r 0)), (1, .int (iv (0))), (2, .int (iv (dw)))]) hx hb rd_M_move_40 hl (by decide) rfl (fun ls hl => ?_)
    refine lv_iload hx hb rd_M_move_42 (lv_at hl 0 rfl) ?_
    refine lv_iload_n hx hb rd_M_move_44 rfl (lv_at hl 5 rfl) ?_
    refine iw_icmp_ne (tgt := 60) hx hb rd_M_move_45 (by decide) (hbr) (hdr) (fun c2 => ?_) (fun c2 => ?_)
    ·
      exact absurd hd c2
    ·
      refine lv_aload_n hx hb rd_M_move_48 rfl (lv_at hl 3 rfl) ?_
      refine va_get (D := (dC, dI)) (ci := 5) (v := .ref (r 9)) (C := rR5) (T := rT5) (N := 7) hx hb hts (fun w h => List.mem_cons_of_mem _ (rin5 w h)) hown hK hP 0 rfl rfl 6 (by decide) (hts _ (List.mem_cons_of_mem _ rm_316)) (fun _ h9 => h9) rfl rd_M_move_49 ?_
      refine lv_aload hx hb rd_M_move_52 (lv_at hl 1 rfl) ?_
      refine ef_callV (As := [.ref (r 23)]) (rest := []) ⟨hx, hb, hml, hown, hts⟩ (b_add l dC dI ht (isB_c (X := A1) (F := g_1) (ws := rC cI r ((V 0)) ((V 1)) (A1) ((V 3)) ((V 4)) ((V 5)) ((V 6)) (A1) (U1) (A2) (U2) ((J 0)) ((J 1)) (g_1) ((J 3)) ((J 4)) ((J 5)) ((J 6)) ((J 7)) ((J 8)) ((J 9)) ((J 10)) (pb) (pe) (ob) (oe) (b1) (e1) (b2) (e2)) (k0 := 9) (k1 := 10) (by decide) rfl rfl) hg_2.1 hg_2.2 (isB_c (X := A2) (F := (J 9)) (ws := rC cI r ((V 0)) ((V 1)) (A1) ((V 3)) ((V 4)) ((V 5)) ((V 6)) (A1) (U1) (A2) (U2) ((J 0)) ((J 1)) (g_1) ((J 3)) ((J 4)) ((J 5)) ((J 6)) ((J 7)) ((J 8)) ((J 9)) ((J 10)) (pb) (pe) (ob) (oe) (b1) (e1) (b2) (e2)) (k0 := 23) (k1 := 24) (by decide) rfl rfl) kA2.1 kA2.2 (apt_c (k0 := 9) (k1 := 10) (j0 := 23) (j1 := 24) rfl) (by omega)) (cwV 1 hts (ef_goodV rm_381 rm_382 rm_383 rm_25 rm_384) rfl rfl rfl (by decide +kernel) ⟨Nat.le_of_ble_eq_true rfl, Nat.le_of_ble_eq_true rfl⟩) hK hNX hP hD hS 9 rfl rfl rfl rfl hl.1 rfl (Nat.le_of_ble_eq_true rfl) rd_M_move_54 ⟨Nat.zero_le _, Nat.zero_le _⟩ (fun o w1 H locs hq hP hD hS => ?_)
      obtain ⟨rfl, g_3, rfl, hg_4⟩ := hq
      have hP : va_P (dC, dI) vwCl (rC cI r ((V 0)) ((V 1)) (A1 + A2) ((V 3)) ((V 4)) ((V 5)) ((V 6)) (A1) (U1) (A2) (U2) ((J 0)) ((J 1)) (g_3) ((J 3)) ((J 4)) ((J 5)) ((J 6)) ((J 7)) ((J 8)) ((J 9)) ((J 10)) (pb) (pe) (ob) (oe) (b1) (e1) (b2) (e2)) H := hP
      have hD : va_D (ef_A (rC cI r ((V 0)) ((V 1)) ((V 2)) ((V 3)) ((V 4)) ((V 5)) ((V 6)) (A1) (U1) (A2) (U2) ((J 0)) ((J 1)) ((J 2)) ((J 3)) ((J 4)) ((J 5)) ((J 6)) ((J 7)) ((J 8)) ((J 9)) ((J 10)) (pb) (pe) (ob) (oe) (b1) (e1) (b2) (e2))) (rC cI r ((V 0)) ((V 1)) (A1 + A2) ((V 3)) ((V 4)) ((V 5)) ((V 6)) (A1) (U1) (A2) (U2) ((J 0)) ((J 1)) (g_3) ((J 3)) ((J 4)) ((J 5)) ((J 6)) ((J 7)) ((J 8)) ((J 9)) ((J 10)) (pb) (pe) (ob) (oe) (b1) (e1) (b2) (e2)) := hD
      have hg_4 : bk (A1 + A2) g_3 := ⟨hg_4, by omega⟩
      refine W.eq (g2 := F0 m 57 ls []) rfl ?_
      refine lv_goto (tgt := 116) hx hb rd_M_move_57 (by decide) ?_
      refine lv_aload_n hx hb rd_M_move_116 rfl (lv_at hl 3 rfl) ?_
      refine va_get (D := (dC, dI)) (ci := 5) (v := .ref (r 9)) (C := rR5) (T := rT5) (N := 7) hx hb hts (fun w h => List.mem_cons_of_mem _ (rin5 w h)) hown hK hP 0 rfl rfl 6 (by decide) (hts _ (List.mem_cons_of_mem _ rm_316)) (fun _ h9 => h9) rfl rd_M_move_117 ?_
      refine ef_callV (As := []) (rest := []) ⟨hx, hb, hml, hown, hts⟩ (b_bits l dC dI ht (isB_c (X := A1 + A2) (F := g_3) (ws := rC cI r ((V 0)) ((V 1)) (A1 + A2) ((V 3)) ((V 4)) ((V 5)) ((V 6)) (A1) (U1) (A2) (U2) ((J 0)) ((J 1)) (g_3) ((J 3)) ((J 4)) ((J 5)) ((J 6)) ((J 7)) ((J 8)) ((J 9)) ((J 10)) (pb) (pe) (ob) (oe) (b1) (e1) (b2) (e2)) (k0 := 9) (k1 := 10) (by decide) rfl rfl) hg_4.1 hg_4.2) (cwV 0 hts (ef_goodV rm_360 rm_361 rm_362 rm_25 rm_363) rfl rfl rfl (by decide +kernel) ⟨Nat.le_of_ble_eq_true rfl, Nat.le_of_ble_eq_true rfl⟩) hK hNX hP hD hS 9 rfl rfl rfl rfl hl.1 rfl (Nat.le_of_ble_eq_true rfl) rd_M_move_120 ⟨Nat.zero_le _, Nat.zero_le _⟩ (fun o w1 H locs hq hP hD hS => ?_)
      obtain ⟨rfl, e9⟩ := hq
      rw [e9] at hP hD
      refine W.eq (g2 := F0 m 123 ls [.int (iv ((bl (A1 + A2) : Int)))]) rfl ?_
      refine lv_sipush (v := iv (4800)) hx hb rd_M_move_123 (by decide) ?_
      refine iw_icmp_le (tgt := 132) hx hb rd_M_move_126 (by decide) ⟨by omega, by omega⟩ ⟨by omega, by omega⟩ (fun c5 => ?_) (fun c5 => ?_)
      ·
        exact absurd c5 (by omega)
      ·
        refine lv_bipush (v := iv (-2)) hx hb rd_M_move_129 (by decide) ?_
        exact ef_iret hx hb hr hlocks hP hD hS rd_M_move_131 (⟨fun i => [((V 0)), ((V 1)), (A1 + A2), ((V 3)), ((V 4)), ((V 5)), ((V 6))].getD i 0, fun i => [((J 0)), ((J 1)), (g_3), ((J 3)), ((J 4)), ((J 5)), ((J 6)), ((J 7)), ((J 8)), ((J 9)), ((J 10))].getD i (fun _ => 0), _, _, _, _, rfl, rfl, rJ_of (hJ 0 (by decide)) (hJ 1 (by decide)) hg_4 (hJ 3 (by decide)) (hJ 4 (by decide)) (hJ 5 (by decide)) (hJ 6 (by decide)), kA1, kU1, kA2, kU2⟩)
  ·
    exact absurd k1 (by decide)

set_option maxRecDepth 100000 in
set_option maxHeartbeats 4000000 in
/-- move -/
theorem r_move0sumK (l : Launch) (dC : Nat → ClassId) (dI : Nat → Nat → Nat) {cI : ClassId} {tys : List (ClassId × FieldType)} (ht : tys[0]? = some (cI, .int)) (r : Nat → Nat) {V : Nat → Nat} {J : Nat → Nat → Nat} {A1 U1 A2 U2 : Nat} {pb pe ob oe b1 e1 b2 e2 : Int} (hJ : rJ V J) (kA1 : bk A1 (J 7)) (kU1 : bk U1 (J 8)) (kA2 : bk A2 (J 9)) (kU2 : bk U2 (J 10)) (mA1 : dn A1 ≤ 300) (mU1 : dn U1 ≤ 300) (mA2 : dn A2 ≤ 300) (mU2 : dn U2 ≤ 300) (hba : bl A1 ≤ 4800) (hbb : bl A2 ≤ 4800) (dw : Int) (hdn : dw = 0 ∨ dw = 1) (hbo : b1 = 0 ∨ b1 = 1) (hd : b1 = dw) (hb4 : bl (A1 + A2) ≤ 4800) : ef_C l ry_M_move rw_M_move ({ frames := 2, cells := 0, slots := 0, locals := 44 } : Room) [.ref (r 0), .int (iv (0)), .int (iv (dw))] (dC, dI) vwCl tys (rC cI r ((V 0)) ((V 1)) ((V 2)) ((V 3)) ((V 4)) ((V 5)) ((V 6)) (A1) (U1) (A2) (U2) ((J 0)) ((J 1)) ((J 2)) ((J 3)) ((J 4)) ((J 5)) ((J 6)) ((J 7)) ((J 8)) ((J 9)) ((J 10)) (pb) (pe) (ob) (oe) (b1) (e1) (b2) (e2)) (fun o w1 => ∃ (V2 : Nat → Nat) (J2 : Nat → Nat → Nat) (pb2 pe2 ob2 oe2 : Int), o = some (.int (iv (bl (A1 + A2) : Int))) ∧ w1 = rC cI r (V2 0) (V2 1) (V2 2) (V2 3) (V2 4) (V2 5) (V2 6) (A1 + A2) (U1) (A2) (U2) (J2 0) (J2 1) (J2 2) (J2 3) (J2 4) (J2 5) (J2 6) (J2 7) (J2 8) (J2 9) (J2 10) (pb2) (pe2) (ob2) (oe2) (b1) (e1) (b2) (e2) ∧ rJ V2 J2 ∧ bk (A1 + A2) (J2 7) ∧ bk (U1) (J2 8) ∧ bk (A2) (J2 9) ∧ bk (U2) (J2 10)) := by
  refine ef_C.of (cc := rc_M_move) (maxL := 6) (ret := (some .int)) (by decide) rfl (Nat.le_of_ble_eq_true rfl) ?_
  intro p e s m below meth c ls hx hb hml hr hts hown hlocks hK hNX hP hD hS hl
  have hl : lv_has ls 6 [(0, .ref (r 0)), (1, .int (iv (0))), (2, .int (iv (dw)))] := hl
  have hown : s.vm.findClass rR5 = some m.cls := hown
  generalize hH : s.heap = H at hP ⊢
  have hS : va_S (ef_A (rC cI r ((V 0)) ((V 1)) ((V 2)) ((V 3)) ((V 4)) ((V 5)) ((V 6)) (A1) (U1) (A2) (U2) ((J 0)) ((J 1)) ((J 2)) ((J 3)) ((J 4)) ((J 5)) ((J 6)) ((J 7)) ((J 8)) ((J 9)) ((J 10)) (pb) (pe) (ob) (oe) (b1) (e1) (b2) (e2))) s.heap H [] := by rw [← hH]; exact hS
  generalize ([] : List Loc) = locs at hS ⊢
  have hdr : ir dw := by rcases hdn with h | h <;> rw [h] <;> exact ⟨by decide, by decide⟩
  have hbr : ir b1 := by rcases hbo with h | h <;> rw [h] <;> exact ⟨by decide, by decide⟩
  have hdv : dn (A1 + A2) ≤ 301 := dn_add mA1 mA2
  have hbd : bl (A1 + A2) ≤ 16 * 301 := bl_le (Nat.lt_of_lt_of_le (dn_lt _) (Nat.pow_le_pow_right (by decide) (by omega)))
  refine lv_iload_n hx hb rd_M_move_0 rfl (lv_at hl 1 rfl) ?_
  refine ef_callS (As := [.int (iv (0))]) (rest := []) ⟨hx, hb, hml, hown, hts⟩ (r_isNumber0 l dC dI ht r) (cwS 1 hts (ef_goodS rm_336 rm_337 rm_24 rm_338) rfl rfl rfl (by decide +kernel) ⟨Nat.le_of_ble_eq_true rfl, Nat.le_of_ble_eq_true rfl⟩) hK hNX hP hD hS rfl hl.1 rfl (Nat.le_of_ble_eq_true rfl) rd_M_move_1 ⟨Nat.zero_le _, Nat.zero_le _⟩ (fun o w1 H locs hq hP hD hS => ?_)
  obtain ⟨rfl, e9⟩ := hq
  rw [e9] at hP hD
  refine W.eq (g2 := F0 m 4 ls [.int (iv (1))]) rfl ?_
  refine iw_if_ne (tgt := 9) hx hb rd_M_move_4 (by decide) ⟨by omega, by omega⟩ (fun k1 => ?_) (fun k1 => ?_)
  ·
    refine lv_aload_n hx hb rd_M_move_9 rfl (lv_at hl 0 rfl) ?_
    refine lv_iload_n hx hb rd_M_move_10 rfl (lv_at hl 1 rfl) ?_
    refine ef_callV (As := [.int (iv (0))]) (rest := []) ⟨hx, hb, hml, hown, hts⟩ (r_numberOf0 l dC dI ht r) (cwV 1 hts (ef_goodV rm_339 rm_341 rm_12 rm_24 rm_342) rfl rfl rfl (by decide +kernel) ⟨Nat.le_of_ble_eq_true rfl, Nat.le_of_ble_eq_true rfl⟩) hK hNX hP hD hS 0 rfl rfl rfl rfl hl.1 rfl (Nat.le_of_ble_eq_true rfl) rd_M_move_11 ⟨Nat.zero_le _, Nat.zero_le _⟩ (fun o w1 H locs hq hP hD hS => ?_)
    obtain ⟨rfl, e9⟩ := hq
    rw [e9] at hP hD
    refine W.eq (g2 := F0 m 14 ls [.ref (r 3)]) rfl ?_
    refine lv_astore_n (lv' := [(3, .ref (r 3)), (0, .ref (r 0)), (1, .int (iv (0))), (2, .int (iv (dw)))]) hx hb rd_M_move_14 rfl hl (by decide) rfl (fun ls hl => ?_)
    refine lv_aload_n hx hb rd_M_move_15 rfl (lv_at hl 1 rfl) ?_
    refine lv_iconst (v := iv (1)) hx hb rd_M_move_16 (by decide) ?_
    refine lv_iload_n hx hb rd_M_move_17 rfl (lv_at hl 2 rfl) ?_
    refine iw_isub hx hb rd_M_move_18 ?_
    refine iw_topi (y := iv (1)) (congrArg iv (by rfl : (((1) - (0)) : Int) = (1))) ?_
    refine lv_iconst (v := iv (0)) hx hb rd_M_move_19 (by decide) ?_
    refine ef_callV (As := [.int (iv (1)), .int (iv (0))]) (rest := []) ⟨hx, hb, hml, hown, hts⟩ (r_partOf10 l dC dI ht r) (cwV 2 hts (ef_goodV rm_348 rm_350 rm_13 rm_24 rm_351) rfl rfl rfl (by decide +kernel) ⟨Nat.le_of_ble_eq_true rfl, Nat.le_of_ble_eq_true rfl⟩) hK hNX hP hD hS 0 rfl rfl rfl rfl hl.1 rfl (Nat.le_of_ble_eq_true rfl) rd_M_move_20 ⟨Nat.zero_le _, Nat.zero_le _⟩ (fun o w1 H locs hq hP hD hS => ?_)
    obtain ⟨rfl, e9⟩ := hq
    rw [e9] at hP hD
    refine W.eq (g2 := F0 m 23 ls [.ref (r 23)]) rfl ?_
    refine lv_astore (lv' := [(4, .ref (r 23)), (3, .ref (r 3)), (0, .ref (r 0)), (1, .int (iv (0))), (2, .int (iv (dw)))]) hx hb rd_M_move_23 hl (by decide) rfl (fun ls hl => ?_)
    refine lv_aload_n hx hb rd_M_move_25 rfl (lv_at hl 2 rfl) ?_
    refine va_get (D := (dC, dI)) (ci := 5) (v := .ref (r 9)) (C := rR5) (T := rT5) (N := 7) hx hb hts (fun w h => List.mem_cons_of_mem _ (rin5 w h)) hown hK hP 0 rfl rfl 6 (by decide) (hts _ (List.mem_cons_of_mem _ rm_316)) (fun _ h9 => h9) rfl rd_M_move_26 ?_
    refine lv_aload_n hx hb rd_M_move_29 rfl (lv_at hl 1 rfl) ?_
    refine va_getN (D := (dC, dI)) (ci := 4) (v := .ref (r 19)) (C := rR4) (T := rT4) (N := 4) hx hb hts (fun w h => List.mem_cons_of_mem _ (rin4 w h)) hown hK hP 3 rfl rfl 1 (by decide) (hNX.use rm_287 rfl) (fun _ h9 => h9) rfl rd_M_move_30 ?_
    refine ef_callV (As := [.ref (r 19)]) (rest := []) ⟨hx, hb, hml, hown, hts⟩ (b_copy l dC dI ht (isB_c (X := (V 2)) (F := (J 2)) (ws := rC cI r ((V 0)) ((V 1)) ((V 2)) ((V 3)) ((V 4)) ((V 5)) ((V 6)) (A1) (U1) (A2) (U2) ((J 0)) ((J 1)) ((J 2)) ((J 3)) ((J 4)) ((J 5)) ((J 6)) ((J 7)) ((J 8)) ((J 9)) ((J 10)) (pb) (pe) (ob) (oe) (b1) (e1) (b2) (e2)) (k0 := 9) (k1 := 10) (by decide) rfl rfl) (isB_c (X := A1) (F := (J 7)) (ws := rC cI r ((V 0)) ((V 1)) ((V 2)) ((V 3)) ((V 4)) ((V 5)) ((V 6)) (A1) (U1) (A2) (U2) ((J 0)) ((J 1)) ((J 2)) ((J 3)) ((J 4)) ((J 5)) ((J 6)) ((J 7)) ((J 8)) ((J 9)) ((J 10)) (pb) (pe) (ob) (oe) (b1) (e1) (b2) (e2)) (k0 := 19) (k1 := 20) (by decide) rfl rfl) kA1.1 kA1.2 (apt_c (k0 := 9) (k1 := 10) (j0 := 19) (j1 := 20) rfl)) (cwV 1 hts (ef_goodV rm_352 rm_353 rm_354 rm_25 rm_355) rfl rfl rfl (by decide +kernel) ⟨Nat.le_of_ble_eq_true rfl, Nat.le_of_ble_eq_true rfl⟩) hK hNX hP hD hS 9 rfl rfl rfl rfl hl.1 rfl (Nat.le_of_ble_eq_true rfl) rd_M_move_33 ⟨Nat.zero_le _, Nat.zero_le _⟩ (fun o w1 H locs hq hP hD hS => ?_)
    obtain ⟨rfl, g_1, rfl, hg_2⟩ := hq
    have hP : va_P (dC, dI) vwCl (rC cI r ((V 0)) ((V 1)) (A1) ((V 3)) ((V 4)) ((V 5)) ((V 6)) (A1) (U1) (A2) (U2) ((J 0)) ((J 1)) (g_1) ((J 3)) ((J 4)) ((J 5)) ((J 6)) ((J 7)) ((J 8)) ((J 9)) ((J 10)) (pb) (pe) (ob) (oe) (b1) (e1) (b2) (e2)) H := hP
    have hD : va_D (ef_A (rC cI r ((V 0)) ((V 1)) ((V 2)) ((V 3)) ((V 4)) ((V 5)) ((V 6)) (A1) (U1) (A2) (U2) ((J 0)) ((J 1)) ((J 2)) ((J 3)) ((J 4)) ((J 5)) ((J 6)) ((J 7)) ((J 8)) ((J 9)) ((J 10)) (pb) (pe) (ob) (oe) (b1) (e1) (b2) (e2))) (rC cI r ((V 0)) ((V 1)) (A1) ((V 3)) ((V 4)) ((V 5)) ((V 6)) (A1) (U1) (A2) (U2) ((J 0)) ((J 1)) (g_1) ((J 3)) ((J 4)) ((J 5)) ((J 6)) ((J 7)) ((J 8)) ((J 9)) ((J 10)) (pb) (pe) (ob) (oe) (b1) (e1) (b2) (e2)) := hD
    have hg_2 : bk (A1) g_1 := ⟨hg_2, kA1.2⟩
    refine W.eq (g2 := F0 m 36 ls []) rfl ?_
    refine lv_aload_n hx hb rd_M_move_36 rfl (lv_at hl 1 rfl) ?_
    refine va_getN (D := (dC, dI)) (ci := 4) (v := .int (iv (b1))) (C := rR4) (T := rT4) (N := 4) hx hb hts (fun w h => List.mem_cons_of_mem _ (rin4 w h)) hown hK hP 3 rfl rfl 0 (by decide) (hNX.use rm_285 rfl) (fun _ h9 => h9) rfl rd_M_move_37 ?_
    refine lv_istore (lv' := [(5, .int (iv (b1))), (4, .ref (r 23)), (3, .ref (r 3)), (0, .ref (r 0)), (1, .int (iv (0))), (2, .int (iv (dw)))]) hx hb rd_M_move_40 hl (by decide) rfl (fun ls hl => ?_)
    refine lv_iload hx hb rd_M_move_42 (lv_at hl 0 rfl) ?_
    refine lv_iload_n hx hb rd_M_move_44 rfl (lv_at hl 5 rfl) ?_
    refine iw_icmp_ne (tgt := 60) hx hb rd_M_move_45 (by decide) (hbr) (hdr) (fun c2 => ?_) (fun c2 => ?_)
    ·
      exact absurd hd c2
    ·
      refine lv_aload_n hx hb rd_M_move_48 rfl (lv_at hl 3 rfl) ?_
      refine va_get (D := (dC, dI)) (ci := 5) (v := .ref (r 9)) (C := rR5) (T := rT5) (N := 7) hx hb hts (fun w h => List.mem_cons_of_mem _ (rin5 w h)) hown hK hP 0 rfl rfl 6 (by decide) (hts _ (List.mem_cons_of_mem _ rm_316)) (fun _ h9 => h9) rfl rd_M_move_49 ?_
      refine lv_aload hx hb rd_M_move_52 (lv_at hl 1 rfl) ?_
      refine ef_callV (As := [.ref (r 23)]) (rest := []) ⟨hx, hb, hml, hown, hts⟩ (b_add l dC dI ht (isB_c (X := A1) (F := g_1) (ws := rC cI r ((V 0)) ((V 1)) (A1) ((V 3)) ((V 4)) ((V 5)) ((V 6)) (A1) (U1) (A2) (U2) ((J 0)) ((J 1)) (g_1) ((J 3)) ((J 4)) ((J 5)) ((J 6)) ((J 7)) ((J 8)) ((J 9)) ((J 10)) (pb) (pe) (ob) (oe) (b1) (e1) (b2) (e2)) (k0 := 9) (k1 := 10) (by decide) rfl rfl) hg_2.1 hg_2.2 (isB_c (X := A2) (F := (J 9)) (ws := rC cI r ((V 0)) ((V 1)) (A1) ((V 3)) ((V 4)) ((V 5)) ((V 6)) (A1) (U1) (A2) (U2) ((J 0)) ((J 1)) (g_1) ((J 3)) ((J 4)) ((J 5)) ((J 6)) ((J 7)) ((J 8)) ((J 9)) ((J 10)) (pb) (pe) (ob) (oe) (b1) (e1) (b2) (e2)) (k0 := 23) (k1 := 24) (by decide) rfl rfl) kA2.1 kA2.2 (apt_c (k0 := 9) (k1 := 10) (j0 := 23) (j1 := 24) rfl) (by omega)) (cwV 1 hts (ef_goodV rm_381 rm_382 rm_383 rm_25 rm_384) rfl rfl rfl (by decide +kernel) ⟨Nat.le_of_ble_eq_true rfl, Nat.le_of_ble_eq_true rfl⟩) hK hNX hP hD hS 9 rfl rfl rfl rfl hl.1 rfl (Nat.le_of_ble_eq_true rfl) rd_M_move_54 ⟨Nat.zero_le _, Nat.zero_le _⟩ (fun o w1 H locs hq hP hD hS => ?_)
      obtain ⟨rfl, g_3, rfl, hg_4⟩ := hq
      have hP : va_P (dC, dI) vwCl (rC cI r ((V 0)) ((V 1)) (A1 + A2) ((V 3)) ((V 4)) ((V 5)) ((V 6)) (A1) (U1) (A2) (U2) ((J 0)) ((J 1)) (g_3) ((J 3)) ((J 4)) ((J 5)) ((J 6)) ((J 7)) ((J 8)) ((J 9)) ((J 10)) (pb) (pe) (ob) (oe) (b1) (e1) (b2) (e2)) H := hP
      have hD : va_D (ef_A (rC cI r ((V 0)) ((V 1)) ((V 2)) ((V 3)) ((V 4)) ((V 5)) ((V 6)) (A1) (U1) (A2) (U2) ((J 0)) ((J 1)) ((J 2)) ((J 3)) ((J 4)) ((J 5)) ((J 6)) ((J 7)) ((J 8)) ((J 9)) ((J 10)) (pb) (pe) (ob) (oe) (b1) (e1) (b2) (e2))) (rC cI r ((V 0)) ((V 1)) (A1 + A2) ((V 3)) ((V 4)) ((V 5)) ((V 6)) (A1) (U1) (A2) (U2) ((J 0)) ((J 1)) (g_3) ((J 3)) ((J 4)) ((J 5)) ((J 6)) ((J 7)) ((J 8)) ((J 9)) ((J 10)) (pb) (pe) (ob) (oe) (b1) (e1) (b2) (e2)) := hD
      have hg_4 : bk (A1 + A2) g_3 := ⟨hg_4, by omega⟩
      refine W.eq (g2 := F0 m 57 ls []) rfl ?_
      refine lv_goto (tgt := 116) hx hb rd_M_move_57 (by decide) ?_
      refine lv_aload_n hx hb rd_M_move_116 rfl (lv_at hl 3 rfl) ?_
      refine va_get (D := (dC, dI)) (ci := 5) (v := .ref (r 9)) (C := rR5) (T := rT5) (N := 7) hx hb hts (fun w h => List.mem_cons_of_mem _ (rin5 w h)) hown hK hP 0 rfl rfl 6 (by decide) (hts _ (List.mem_cons_of_mem _ rm_316)) (fun _ h9 => h9) rfl rd_M_move_117 ?_
      refine ef_callV (As := []) (rest := []) ⟨hx, hb, hml, hown, hts⟩ (b_bits l dC dI ht (isB_c (X := A1 + A2) (F := g_3) (ws := rC cI r ((V 0)) ((V 1)) (A1 + A2) ((V 3)) ((V 4)) ((V 5)) ((V 6)) (A1) (U1) (A2) (U2) ((J 0)) ((J 1)) (g_3) ((J 3)) ((J 4)) ((J 5)) ((J 6)) ((J 7)) ((J 8)) ((J 9)) ((J 10)) (pb) (pe) (ob) (oe) (b1) (e1) (b2) (e2)) (k0 := 9) (k1 := 10) (by decide) rfl rfl) hg_4.1 hg_4.2) (cwV 0 hts (ef_goodV rm_360 rm_361 rm_362 rm_25 rm_363) rfl rfl rfl (by decide +kernel) ⟨Nat.le_of_ble_eq_true rfl, Nat.le_of_ble_eq_true rfl⟩) hK hNX hP hD hS 9 rfl rfl rfl rfl hl.1 rfl (Nat.le_of_ble_eq_true rfl) rd_M_move_120 ⟨Nat.zero_le _, Nat.zero_le _⟩ (fun o w1 H locs hq hP hD hS => ?_)
      obtain ⟨rfl, e9⟩ := hq
      rw [e9] at hP hD
      refine W.eq (g2 := F0 m 123 ls [.int (iv ((bl (A1 + A2) : Int)))]) rfl ?_
      refine lv_sipush (v := iv (4800)) hx hb rd_M_move_123 (by decide) ?_
      refine iw_icmp_le (tgt := 132) hx hb rd_M_move_126 (by decide) ⟨by omega, by omega⟩ ⟨by omega, by omega⟩ (fun c5 => ?_) (fun c5 => ?_)
      ·
        refine lv_aload_n hx hb rd_M_move_132 rfl (lv_at hl 2 rfl) ?_
        refine va_getN (D := (dC, dI)) (ci := 4) (v := .ref (r 19)) (C := rR4) (T := rT4) (N := 4) hx hb hts (fun w h => List.mem_cons_of_mem _ (rin4 w h)) hown hK hP 3 rfl rfl 1 (by decide) (hNX.use rm_287 rfl) (fun _ h9 => h9) rfl rd_M_move_133 ?_
        refine lv_aload_n hx hb rd_M_move_136 rfl (lv_at hl 3 rfl) ?_
        refine va_get (D := (dC, dI)) (ci := 5) (v := .ref (r 9)) (C := rR5) (T := rT5) (N := 7) hx hb hts (fun w h => List.mem_cons_of_mem _ (rin5 w h)) hown hK hP 0 rfl rfl 6 (by decide) (hts _ (List.mem_cons_of_mem _ rm_316)) (fun _ h9 => h9) rfl rd_M_move_137 ?_
        refine ef_callV (As := [.ref (r 9)]) (rest := []) ⟨hx, hb, hml, hown, hts⟩ (b_copy l dC dI ht (isB_c (X := A1) (F := (J 7)) (ws := rC cI r ((V 0)) ((V 1)) (A1 + A2) ((V 3)) ((V 4)) ((V 5)) ((V 6)) (A1) (U1) (A2) (U2) ((J 0)) ((J 1)) (g_3) ((J 3)) ((J 4)) ((J 5)) ((J 6)) ((J 7)) ((J 8)) ((J 9)) ((J 10)) (pb) (pe) (ob) (oe) (b1) (e1) (b2) (e2)) (k0 := 19) (k1 := 20) (by decide) rfl rfl) (isB_c (X := A1 + A2) (F := g_3) (ws := rC cI r ((V 0)) ((V 1)) (A1 + A2) ((V 3)) ((V 4)) ((V 5)) ((V 6)) (A1) (U1) (A2) (U2) ((J 0)) ((J 1)) (g_3) ((J 3)) ((J 4)) ((J 5)) ((J 6)) ((J 7)) ((J 8)) ((J 9)) ((J 10)) (pb) (pe) (ob) (oe) (b1) (e1) (b2) (e2)) (k0 := 9) (k1 := 10) (by decide) rfl rfl) hg_4.1 hg_4.2 (apt_c (k0 := 19) (k1 := 20) (j0 := 9) (j1 := 10) rfl)) (cwV 1 hts (ef_goodV rm_352 rm_353 rm_354 rm_25 rm_355) rfl rfl rfl (by decide +kernel) ⟨Nat.le_of_ble_eq_true rfl, Nat.le_of_ble_eq_true rfl⟩) hK hNX hP hD hS 19 rfl rfl rfl rfl hl.1 rfl (Nat.le_of_ble_eq_true rfl) rd_M_move_140 ⟨Nat.zero_le _, Nat.zero_le _⟩ (fun o w1 H locs hq hP hD hS => ?_)
        obtain ⟨rfl, g_5, rfl, hg_6⟩ := hq
        have hP : va_P (dC, dI) vwCl (rC cI r ((V 0)) ((V 1)) (A1 + A2) ((V 3)) ((V 4)) ((V 5)) ((V 6)) (A1 + A2) (U1) (A2) (U2) ((J 0)) ((J 1)) (g_3) ((J 3)) ((J 4)) ((J 5)) ((J 6)) (g_5) ((J 8)) ((J 9)) ((J 10)) (pb) (pe) (ob) (oe) (b1) (e1) (b2) (e2)) H := hP
        have hD : va_D (ef_A (rC cI r ((V 0)) ((V 1)) ((V 2)) ((V 3)) ((V 4)) ((V 5)) ((V 6)) (A1) (U1) (A2) (U2) ((J 0)) ((J 1)) ((J 2)) ((J 3)) ((J 4)) ((J 5)) ((J 6)) ((J 7)) ((J 8)) ((J 9)) ((J 10)) (pb) (pe) (ob) (oe) (b1) (e1) (b2) (e2))) (rC cI r ((V 0)) ((V 1)) (A1 + A2) ((V 3)) ((V 4)) ((V 5)) ((V 6)) (A1 + A2) (U1) (A2) (U2) ((J 0)) ((J 1)) (g_3) ((J 3)) ((J 4)) ((J 5)) ((J 6)) (g_5) ((J 8)) ((J 9)) ((J 10)) (pb) (pe) (ob) (oe) (b1) (e1) (b2) (e2)) := hD
        have hg_6 : bk (A1 + A2) g_5 := ⟨hg_6, hg_4.2⟩
        refine W.eq (g2 := F0 m 143 ls []) rfl ?_
        refine lv_aload_n hx hb rd_M_move_143 rfl (lv_at hl 2 rfl) ?_
        refine lv_iload hx hb rd_M_move_144 (lv_at hl 0 rfl) ?_
        refine va_putN (D := (dC, dI)) (ci := 4) (v := .int (iv (b1))) (ty := .boolean) (C := rR4) (T := rT4) (N := 4) hx hb hts (fun w h => List.mem_cons_of_mem _ (rin4 w h)) rty4 rtyok4 rnm4 hown hK hP hD hS 3 rfl rfl 0 (by decide) (hNX.use rm_285 rfl) (fun _ h9 => h9) rfl (by decide +kernel) (by rcases hbo with h9 | h9 <;> rw [h9] <;> rfl) (by rcases hbo with h9 | h9 <;> rw [h9] <;> rfl) (Nat.le_of_ble_eq_true rfl) rd_M_move_146 (fun H locs hP hD hS => ?_)
        have hP : va_P (dC, dI) vwCl (rC cI r ((V 0)) ((V 1)) (A1 + A2) ((V 3)) ((V 4)) ((V 5)) ((V 6)) (A1 + A2) (U1) (A2) (U2) ((J 0)) ((J 1)) (g_3) ((J 3)) ((J 4)) ((J 5)) ((J 6)) (g_5) ((J 8)) ((J 9)) ((J 10)) (pb) (pe) (ob) (oe) (b1) (e1) (b2) (e2)) H := hP
        have hD : va_D (ef_A (rC cI r ((V 0)) ((V 1)) ((V 2)) ((V 3)) ((V 4)) ((V 5)) ((V 6)) (A1) (U1) (A2) (U2) ((J 0)) ((J 1)) ((J 2)) ((J 3)) ((J 4)) ((J 5)) ((J 6)) ((J 7)) ((J 8)) ((J 9)) ((J 10)) (pb) (pe) (ob) (oe) (b1) (e1) (b2) (e2))) (rC cI r ((V 0)) ((V 1)) (A1 + A2) ((V 3)) ((V 4)) ((V 5)) ((V 6)) (A1 + A2) (U1) (A2) (U2) ((J 0)) ((J 1)) (g_3) ((J 3)) ((J 4)) ((J 5)) ((J 6)) (g_5) ((J 8)) ((J 9)) ((J 10)) (pb) (pe) (ob) (oe) (b1) (e1) (b2) (e2)) := hD
        refine lv_aload_n hx hb rd_M_move_149 rfl (lv_at hl 2 rfl) ?_
        refine va_getN (D := (dC, dI)) (ci := 4) (v := .ref (r 19)) (C := rR4) (T := rT4) (N := 4) hx hb hts (fun w h => List.mem_cons_of_mem _ (rin4 w h)) hown hK hP 3 rfl rfl 1 (by decide) (hNX.use rm_287 rfl) (fun _ h9 => h9) rfl rd_M_move_150 ?_
        refine ef_callV (As := []) (rest := []) ⟨hx, hb, hml, hown, hts⟩ (b_bits l dC dI ht (isB_c (X := A1 + A2) (F := g_5) (ws := rC cI r ((V 0)) ((V 1)) (A1 + A2) ((V 3)) ((V 4)) ((V 5)) ((V 6)) (A1 + A2) (U1) (A2) (U2) ((J 0)) ((J 1)) (g_3) ((J 3)) ((J 4)) ((J 5)) ((J 6)) (g_5) ((J 8)) ((J 9)) ((J 10)) (pb) (pe) (ob) (oe) (b1) (e1) (b2) (e2)) (k0 := 19) (k1 := 20) (by decide) rfl rfl) hg_6.1 hg_6.2) (cwV 0 hts (ef_goodV rm_360 rm_361 rm_362 rm_25 rm_363) rfl rfl rfl (by decide +kernel) ⟨Nat.le_of_ble_eq_true rfl, Nat.le_of_ble_eq_true rfl⟩) hK hNX hP hD hS 19 rfl rfl rfl rfl hl.1 rfl (Nat.le_of_ble_eq_true rfl) rd_M_move_153 ⟨Nat.zero_le _, Nat.zero_le _⟩ (fun o w1 H locs hq hP hD hS => ?_)
        obtain ⟨rfl, e9⟩ := hq
        rw [e9] at hP hD
        refine W.eq (g2 := F0 m 156 ls [.int (iv ((bl (A1 + A2) : Int)))]) rfl ?_
        exact ef_iret hx hb hr hlocks hP hD hS rd_M_move_156 (⟨fun i => [((V 0)), ((V 1)), (A1 + A2), ((V 3)), ((V 4)), ((V 5)), ((V 6))].getD i 0, fun i => [((J 0)), ((J 1)), (g_3), ((J 3)), ((J 4)), ((J 5)), ((J 6)), (g_5), ((J 8)), ((J 9)), ((J 10))].getD i (fun _ => 0), _, _, _, _, rfl, rfl, rJ_of (hJ 0 (by decide)) (hJ 1 (by decide)) hg_4 (hJ 3 (by decide)) (hJ 4 (by decide)) (hJ 5 (by decide)) (hJ 6 (by decide)), hg_6, kU1, kA2, kU2⟩)
      ·
        exact absurd c5 (by omega)
  ·
    exact absurd k1 (by decide)

set_option maxRecDepth 100000 in
set_option maxHeartbeats 4000000 in
/-- move -/
theorem r_move0ge (l : Launch) (dC : Nat → ClassId) (dI : Nat → Nat → Nat) {cI : ClassId} {tys : List (ClassId × FieldType)} (ht : tys[0]? = some (cI, .int)) (r : Nat → Nat) {V : Nat → Nat} {J : Nat → Nat → Nat} {A1 U1 A2 U2 : Nat} {pb pe ob oe b1 e1 b2 e2 : Int} (hJ : rJ V J) (kA1 : bk A1 (J 7)) (kU1 : bk U1 (J 8)) (kA2 : bk A2 (J 9)) (kU2 : bk U2 (J 10)) (mA1 : dn A1 ≤ 300) (mU1 : dn U1 ≤ 300) (mA2 : dn A2 ≤ 300) (mU2 : dn U2 ≤ 300) (hba : bl A1 ≤ 4800) (hbb : bl A2 ≤ 4800) (dw : Int) (hdn : dw = 0 ∨ dw = 1) (hbo : b1 = 0 ∨ b1 = 1) (hd : b1 ≠ dw) (hle : A2 ≤ A1) : ef_C l ry_M_move rw_M_move ({ frames := 2, cells := 0, slots := 0, locals := 44 } : Room) [.ref (r 0), .int (iv (0)), .int (iv (dw))] (dC, dI) vwCl tys (rC cI r ((V 0)) ((V 1)) ((V 2)) ((V 3)) ((V 4)) ((V 5)) ((V 6)) (A1) (U1) (A2) (U2) ((J 0)) ((J 1)) ((J 2)) ((J 3)) ((J 4)) ((J 5)) ((J 6)) ((J 7)) ((J 8)) ((J 9)) ((J 10)) (pb) (pe) (ob) (oe) (b1) (e1) (b2) (e2)) (fun o w1 => ∃ (V2 : Nat → Nat) (J2 : Nat → Nat → Nat) (pb2 pe2 ob2 oe2 : Int), o = some (.int (iv (bl (A1 - A2) : Int))) ∧ w1 = rC cI r (V2 0) (V2 1) (V2 2) (V2 3) (V2 4) (V2 5) (V2 6) (A1 - A2) (U1) (A2) (U2) (J2 0) (J2 1) (J2 2) (J2 3) (J2 4) (J2 5) (J2 6) (J2 7) (J2 8) (J2 9) (J2 10) (pb2) (pe2) (ob2) (oe2) (b1) (e1) (b2) (e2) ∧ rJ V2 J2 ∧ bk (A1 - A2) (J2 7) ∧ bk (U1) (J2 8) ∧ bk (A2) (J2 9) ∧ bk (U2) (J2 10)) := by
  refine ef_C.of (cc := rc_M_move) (maxL := 6) (ret := (some .int)) (by decide) rfl (Nat.le_of_ble_eq_true rfl) ?_
  intro p e s m below meth c ls hx hb hml hr hts hown hlocks hK hNX hP hD hS hl
  have hl : lv_has ls 6 [(0, .ref (r 0)), (1, .int (iv (0))), (2, .int (iv (dw)))] := hl
  have hown : s.vm.findClass rR5 = some m.cls := hown
  generalize hH : s.heap = H at hP ⊢
  have hS : va_S (ef_A (rC cI r ((V 0)) ((V 1)) ((V 2)) ((V 3)) ((V 4)) ((V 5)) ((V 6)) (A1) (U1) (A2) (U2) ((J 0)) ((J 1)) ((J 2)) ((J 3)) ((J 4)) ((J 5)) ((J 6)) ((J 7)) ((J 8)) ((J 9)) ((J 10)) (pb) (pe) (ob) (oe) (b1) (e1) (b2) (e2))) s.heap H [] := by rw [← hH]; exact hS
  generalize ([] : List Loc) = locs at hS ⊢
  have hdr : ir dw := by rcases hdn with h | h <;> rw [h] <;> exact ⟨by decide, by decide⟩
  have hbr : ir b1 := by rcases hbo with h | h <;> rw [h] <;> exact ⟨by decide, by decide⟩
  have hb4 : bl (A1 - A2) ≤ 4800 := Nat.le_trans (bl_mono (Nat.sub_le _ _)) hba
  have hdv : dn (A1 - A2) ≤ 301 := Nat.le_succ_of_le (dn_bl (k := 300) (by omega))
  have hbd : bl (A1 - A2) ≤ 16 * 301 := bl_le (Nat.lt_of_lt_of_le (dn_lt _) (Nat.pow_le_pow_right (by decide) (by omega)))
  refine lv_iload_n hx hb rd_M_move_0 rfl (lv_at hl 1 rfl) ?_
  refine ef_callS (As := [.int (iv (0))]) (rest := []) ⟨hx, hb, hml, hown, hts⟩ (r_isNumber0 l dC dI ht r) (cwS 1 hts (ef_goodS rm_336 rm_337 rm_24 rm_338) rfl rfl rfl (by decide +kernel) ⟨Nat.le_of_ble_eq_true rfl, Nat.le_of_ble_eq_true rfl⟩) hK hNX hP hD hS rfl hl.1 rfl (Nat.le_of_ble_eq_true rfl) rd_M_move_1 ⟨Nat.zero_le _, Nat.zero_le _⟩ (fun o w1 H locs hq hP hD hS => ?_)
  obtain ⟨rfl, e9⟩ := hq
  rw [e9] at hP hD
  refine W.eq (g2 := F0 m 4 ls [.int (iv (1))]) rfl ?_
  refine iw_if_ne (tgt := 9) hx hb rd_M_move_4 (by decide) ⟨by omega, by omega⟩ (fun k1 => ?_) (fun k1 => ?_)
  ·
    refine lv_aload_n hx hb rd_M_move_9 rfl (lv_at hl 0 rfl) ?_
    refine lv_iload_n hx hb rd_M_move_10 rfl (lv_at hl 1 rfl) ?_
    refine ef_callV (As := [.int (iv (0))]) (rest := []) ⟨hx, hb, hml, hown, hts⟩ (r_numberOf0 l dC dI ht r) (cwV 1 hts (ef_goodV rm_339 rm_341 rm_12 rm_24 rm_342) rfl rfl rfl (by decide +kernel) ⟨Nat.le_of_ble_eq_true rfl, Nat.le_of_ble_eq_true rfl⟩) hK hNX hP hD hS 0 rfl rfl rfl rfl hl.1 rfl (Nat.le_of_ble_eq_true rfl) rd_M_move_11 ⟨Nat.zero_le _, Nat.zero_le _⟩ (fun o w1 H locs hq hP hD hS => ?_)
    obtain ⟨rfl, e9⟩ := hq
    rw [e9] at hP hD
    refine W.eq (g2 := F0 m 14 ls [.ref (r 3)]) rfl ?_
    refine lv_astore_n (lv' := [(3, .ref (r 3)), (0, .ref (r 0)), (1, .int (iv (0))), (2, .int (iv (dw)))]) hx hb rd_M_move_14 rfl hl (by decide) rfl (fun ls hl => ?_)
    refine lv_aload_n hx hb rd_M_move_15 rfl (lv_at hl 1 rfl) ?_
    refine lv_iconst (v := iv (1)) hx hb rd_M_move_16 (by decide) ?_
    refine lv_iload_n hx hb rd_M_move_17 rfl (lv_at hl 2 rfl) ?_
    refine iw_isub hx hb rd_M_move_18 ?_
    refine iw_topi (y := iv (1)) (congrArg iv (by rfl : (((1) - (0)) : Int) = (1))) ?_
    refine lv_iconst (v := iv (0)) hx hb rd_M_move_19 (by decide) ?_
    refine ef_callV (As := [.int (iv (1)), .int (iv (0))]) (rest := []) ⟨hx, hb, hml, hown, hts⟩ (r_partOf10 l dC dI ht r) (cwV 2 hts (ef_goodV rm_348 rm_350 rm_13 rm_24 rm_351) rfl rfl rfl (by decide +kernel) ⟨Nat.le_of_ble_eq_true rfl, Nat.le_of_ble_eq_true rfl⟩) hK hNX hP hD hS 0 rfl rfl rfl rfl hl.1 rfl (Nat.le_of_ble_eq_true rfl) rd_M_move_20 ⟨Nat.zero_le _, Nat.zero_le _⟩ (fun o w1 H locs hq hP hD hS => ?_)
    obtain ⟨rfl, e9⟩ := hq
    rw [e9] at hP hD
    refine W.eq (g2 := F0 m 23 ls [.ref (r 23)]) rfl ?_
    refine lv_astore (lv' := [(4, .ref (r 23)), (3, .ref (r 3)), (0, .ref (r 0)), (1, .int (iv (0))), (2, .int (iv (dw)))]) hx hb rd_M_move_23 hl (by decide) rfl (fun ls hl => ?_)
    refine lv_aload_n hx hb rd_M_move_25 rfl (lv_at hl 2 rfl) ?_
    refine va_get (D := (dC, dI)) (ci := 5) (v := .ref (r 9)) (C := rR5) (T := rT5) (N := 7) hx hb hts (fun w h => List.mem_cons_of_mem _ (rin5 w h)) hown hK hP 0 rfl rfl 6 (by decide) (hts _ (List.mem_cons_of_mem _ rm_316)) (fun _ h9 => h9) rfl rd_M_move_26 ?_
    refine lv_aload_n hx hb rd_M_move_29 rfl (lv_at hl 1 rfl) ?_
    refine va_getN (D := (dC, dI)) (ci := 4) (v := .ref (r 19)) (C := rR4) (T := rT4) (N := 4) hx hb hts (fun w h => List.mem_cons_of_mem _ (rin4 w h)) hown hK hP 3 rfl rfl 1 (by decide) (hNX.use rm_287 rfl) (fun _ h9 => h9) rfl rd_M_move_30 ?_
    refine ef_callV (As := [.ref (r 19)]) (rest := []) ⟨hx, hb, hml, hown, hts⟩ (b_copy l dC dI ht (isB_c (X := (V 2)) (F := (J 2)) (ws := rC cI r ((V 0)) ((V 1)) ((V 2)) ((V 3)) ((V 4)) ((V 5)) ((V 6)) (A1) (U1) (A2) (U2) ((J 0)) ((J 1)) ((J 2)) ((J 3)) ((J 4)) ((J 5)) ((J 6)) ((J 7)) ((J 8)) ((J 9)) ((J 10)) (pb) (pe) (ob) (oe) (b1) (e1) (b2) (e2)) (k0 := 9) (k1 := 10) (by decide) rfl rfl) (isB_c (X := A1) (F := (J 7)) (ws := rC cI r ((V 0)) ((V 1)) ((V 2)) ((V 3)) ((V 4)) ((V 5)) ((V 6)) (A1) (U1) (A2) (U2) ((J 0)) ((J 1)) ((J 2)) ((J 3)) ((J 4)) ((J 5)) ((J 6)) ((J 7)) ((J 8)) ((J 9)) ((J 10)) (pb) (pe) (ob) (oe) (b1) (e1) (b2) (e2)) (k0 := 19) (k1 := 20) (by decide) rfl rfl) kA1.1 kA1.2 (apt_c (k0 := 9) (k1 := 10) (j0 := 19) (j1 := 20) rfl)) (cwV 1 hts (ef_goodV rm_352 rm_353 rm_354 rm_25 rm_355) rfl rfl rfl (by decide +kernel) ⟨Nat.le_of_ble_eq_true rfl, Nat.le_of_ble_eq_true rfl⟩) hK hNX hP hD hS 9 rfl rfl rfl rfl hl.1 rfl (Nat.le_of_ble_eq_true rfl) rd_M_move_33 ⟨Nat.zero_le _, Nat.zero_le _⟩ (fun o w1 H locs hq hP hD hS => ?_)
    obtain ⟨rfl, g_1, rfl, hg_2⟩ := hq
    have hP : va_P (dC, dI) vwCl (rC cI r ((V 0)) ((V 1)) (A1) ((V 3)) ((V 4)) ((V 5)) ((V 6)) (A1) (U1) (A2) (U2) ((J 0)) ((J 1)) (g_1) ((J 3)) ((J 4)) ((J 5)) ((J 6)) ((J 7)) ((J 8)) ((J 9)) ((J 10)) (pb) (pe) (ob) (oe) (b1) (e1) (b2) (e2)) H := hP
    have hD : va_D (ef_A (rC cI r ((V 0)) ((V 1)) ((V 2)) ((V 3)) ((V 4)) ((V 5)) ((V 6)) (A1) (U1) (A2) (U2) ((J 0)) ((J 1)) ((J 2)) ((J 3)) ((J 4)) ((J 5)) ((J 6)) ((J 7)) ((J 8)) ((J 9)) ((J 10)) (pb) (pe) (ob) (oe) (b1) (e1) (b2) (e2))) (rC cI r ((V 0)) ((V 1)) (A1) ((V 3)) ((V 4)) ((V 5)) ((V 6)) (A1) (U1) (A2) (U2) ((J 0)) ((J 1)) (g_1) ((J 3)) ((J 4)) ((J 5)) ((J 6)) ((J 7)) ((J 8)) ((J 9)) ((J 10)) (pb) (pe) (ob) (oe) (b1) (e1) (b2) (e2)) := hD
    have hg_2 : bk (A1) g_1 := ⟨hg_2, kA1.2⟩
    refine W.eq (g2 := F0 m 36 ls []) rfl ?_
    refine lv_aload_n hx hb rd_M_move_36 rfl (lv_at hl 1 rfl) ?_
    refine va_getN (D := (dC, dI)) (ci := 4) (v := .int (iv (b1))) (C := rR4) (T := rT4) (N := 4) hx hb hts (fun w h => List.mem_cons_of_mem _ (rin4 w h)) hown hK hP 3 rfl rfl 0 (by decide) (hNX.use rm_285 rfl) (fun _ h9 => h9) rfl rd_M_move_37 ?_
    refine lv_istore (lv' := [(5, .int (iv (b1))), (4, .ref (r 23)), (3, .ref (r 3)), (0, .ref (r 0)), (1, .int (iv (0))), (2, .int (iv (dw)))]) hx hb rd_M_move_40 hl (by decide) rfl (fun ls hl => ?_)
    refine lv_iload hx hb rd_M_move_42 (lv_at hl 0 rfl) ?_
    refine lv_iload_n hx hb rd_M_move_44 rfl (lv_at hl 5 rfl) ?_
    refine iw_icmp_ne (tgt := 60) hx hb rd_M_move_45 (by decide) (hbr) (hdr) (fun c2 => ?_) (fun c2 => ?_)
    ·
      refine lv_aload_n hx hb rd_M_move_60 rfl (lv_at hl 3 rfl) ?_
      refine va_get (D := (dC, dI)) (ci := 5) (v := .ref (r 9)) (C := rR5) (T := rT5) (N := 7) hx hb hts (fun w h => List.mem_cons_of_mem _ (rin5 w h)) hown hK hP 0 rfl rfl 6 (by decide) (hts _ (List.mem_cons_of_mem _ rm_316)) (fun _ h9 => h9) rfl rd_M_move_61 ?_
      refine lv_aload hx hb rd_M_move_64 (lv_at hl 1 rfl) ?_
      refine ef_callV (As := [.ref (r 23)]) (rest := []) ⟨hx, hb, hml, hown, hts⟩ (b_compare l dC dI ht (isB_c (X := A1) (F := g_1) (ws := rC cI r ((V 0)) ((V 1)) (A1) ((V 3)) ((V 4)) ((V 5)) ((V 6)) (A1) (U1) (A2) (U2) ((J 0)) ((J 1)) (g_1) ((J 3)) ((J 4)) ((J 5)) ((J 6)) ((J 7)) ((J 8)) ((J 9)) ((J 10)) (pb) (pe) (ob) (oe) (b1) (e1) (b2) (e2)) (k0 := 9) (k1 := 10) (by decide) rfl rfl) hg_2.1 hg_2.2 (isB_c (X := A2) (F := (J 9)) (ws := rC cI r ((V 0)) ((V 1)) (A1) ((V 3)) ((V 4)) ((V 5)) ((V 6)) (A1) (U1) (A2) (U2) ((J 0)) ((J 1)) (g_1) ((J 3)) ((J 4)) ((J 5)) ((J 6)) ((J 7)) ((J 8)) ((J 9)) ((J 10)) (pb) (pe) (ob) (oe) (b1) (e1) (b2) (e2)) (k0 := 23) (k1 := 24) (by decide) rfl rfl) kA2.1 kA2.2) (cwV 1 hts (ef_goodV rm_386 rm_387 rm_388 rm_25 rm_389) rfl rfl rfl (by decide +kernel) ⟨Nat.le_of_ble_eq_true rfl, Nat.le_of_ble_eq_true rfl⟩) hK hNX hP hD hS 9 rfl rfl rfl rfl hl.1 rfl (Nat.le_of_ble_eq_true rfl) rd_M_move_66 ⟨Nat.zero_le _, Nat.zero_le _⟩ (fun o w1 H locs hq hP hD hS => ?_)
      obtain ⟨rfl, e9⟩ := hq
      rw [e9] at hP hD
      refine W.eq (g2 := F0 m 69 ls [.int (iv (zc A1 A2))]) rfl ?_
      refine iw_if_lt (tgt := 84) hx hb rd_M_move_69 (by decide) (ir_zc _ _) (fun c3 => ?_) (fun c3 => ?_)
      ·
        exact absurd ((zc_ge _ _).2 (by omega : ((A2 : Nat) : Int) ≤ ((A1 : Nat) : Int))) (by omega)
      ·
        refine lv_aload_n hx hb rd_M_move_72 rfl (lv_at hl 3 rfl) ?_
        refine va_get (D := (dC, dI)) (ci := 5) (v := .ref (r 9)) (C := rR5) (T := rT5) (N := 7) hx hb hts (fun w h => List.mem_cons_of_mem _ (rin5 w h)) hown hK hP 0 rfl rfl 6 (by decide) (hts _ (List.mem_cons_of_mem _ rm_316)) (fun _ h9 => h9) rfl rd_M_move_73 ?_
        refine lv_aload hx hb rd_M_move_76 (lv_at hl 1 rfl) ?_
        refine ef_callV (As := [.ref (r 23)]) (rest := []) ⟨hx, hb, hml, hown, hts⟩ (b_subtract l dC dI ht (isB_c (X := A1) (F := g_1) (ws := rC cI r ((V 0)) ((V 1)) (A1) ((V 3)) ((V 4)) ((V 5)) ((V 6)) (A1) (U1) (A2) (U2) ((J 0)) ((J 1)) (g_1) ((J 3)) ((J 4)) ((J 5)) ((J 6)) ((J 7)) ((J 8)) ((J 9)) ((J 10)) (pb) (pe) (ob) (oe) (b1) (e1) (b2) (e2)) (k0 := 9) (k1 := 10) (by decide) rfl rfl) hg_2.1 hg_2.2 (isB_c (X := A2) (F := (J 9)) (ws := rC cI r ((V 0)) ((V 1)) (A1) ((V 3)) ((V 4)) ((V 5)) ((V 6)) (A1) (U1) (A2) (U2) ((J 0)) ((J 1)) (g_1) ((J 3)) ((J 4)) ((J 5)) ((J 6)) ((J 7)) ((J 8)) ((J 9)) ((J 10)) (pb) (pe) (ob) (oe) (b1) (e1) (b2) (e2)) (k0 := 23) (k1 := 24) (by decide) rfl rfl) kA2.1 kA2.2 (apt_c (k0 := 9) (k1 := 10) (j0 := 23) (j1 := 24) rfl) (by omega)) (cwV 1 hts (ef_goodV rm_390 rm_391 rm_392 rm_25 rm_393) rfl rfl rfl (by decide +kernel) ⟨Nat.le_of_ble_eq_true rfl, Nat.le_of_ble_eq_true rfl⟩) hK hNX hP hD hS 9 rfl rfl rfl rfl hl.1 rfl (Nat.le_of_ble_eq_true rfl) rd_M_move_78 ⟨Nat.zero_le _, Nat.zero_le _⟩ (fun o w1 H locs hq hP hD hS => ?_)
        obtain ⟨rfl, g_3, rfl, hg_4⟩ := hq
        have hP : va_P (dC, dI) vwCl (rC cI r ((V 0)) ((V 1)) (A1 - A2) ((V 3)) ((V 4)) ((V 5)) ((V 6)) (A1) (U1) (A2) (U2) ((J 0)) ((J 1)) (g_3) ((J 3)) ((J 4)) ((J 5)) ((J 6)) ((J 7)) ((J 8)) ((J 9)) ((J 10)) (pb) (pe) (ob) (oe) (b1) (e1) (b2) (e2)) H := hP
        have hD : va_D (ef_A (rC cI r ((V 0)) ((V 1)) ((V 2)) ((V 3)) ((V 4)) ((V 5)) ((V 6)) (A1) (U1) (A2) (U2) ((J 0)) ((J 1)) ((J 2)) ((J 3)) ((J 4)) ((J 5)) ((J 6)) ((J 7)) ((J 8)) ((J 9)) ((J 10)) (pb) (pe) (ob) (oe) (b1) (e1) (b2) (e2))) (rC cI r ((V 0)) ((V 1)) (A1 - A2) ((V 3)) ((V 4)) ((V 5)) ((V 6)) (A1) (U1) (A2) (U2) ((J 0)) ((J 1)) (g_3) ((J 3)) ((J 4)) ((J 5)) ((J 6)) ((J 7)) ((J 8)) ((J 9)) ((J 10)) (pb) (pe) (ob) (oe) (b1) (e1) (b2) (e2)) := hD
        have hg_4 : bk (A1 - A2) g_3 := ⟨hg_4, by omega⟩
        refine W.eq (g2 := F0 m 81 ls []) rfl ?_
        refine lv_goto (tgt := 116) hx hb rd_M_move_81 (by decide) ?_
        refine lv_aload_n hx hb rd_M_move_116 rfl (lv_at hl 3 rfl) ?_
        refine va_get (D := (dC, dI)) (ci := 5) (v := .ref (r 9)) (C := rR5) (T := rT5) (N := 7) hx hb hts (fun w h => List.mem_cons_of_mem _ (rin5 w h)) hown hK hP 0 rfl rfl 6 (by decide) (hts _ (List.mem_cons_of_mem _ rm_316)) (fun _ h9 => h9) rfl rd_M_move_117 ?_
        refine ef_callV (As := []) (rest := []) ⟨hx, hb, hml, hown, hts⟩ (b_bits l dC dI ht (isB_c (X := A1 - A2) (F := g_3) (ws := rC cI r ((V 0)) ((V 1)) (A1 - A2) ((V 3)) ((V 4)) ((V 5)) ((V 6)) (A1) (U1) (A2) (U2) ((J 0)) ((J 1)) (g_3) ((J 3)) ((J 4)) ((J 5)) ((J 6)) ((J 7)) ((J 8)) ((J 9)) ((J 10)) (pb) (pe) (ob) (oe) (b1) (e1) (b2) (e2)) (k0 := 9) (k1 := 10) (by decide) rfl rfl) hg_4.1 hg_4.2) (cwV 0 hts (ef_goodV rm_360 rm_361 rm_362 rm_25 rm_363) rfl rfl rfl (by decide +kernel) ⟨Nat.le_of_ble_eq_true rfl, Nat.le_of_ble_eq_true rfl⟩) hK hNX hP hD hS 9 rfl rfl rfl rfl hl.1 rfl (Nat.le_of_ble_eq_true rfl) rd_M_move_120 ⟨Nat.zero_le _, Nat.zero_le _⟩ (fun o w1 H locs hq hP hD hS => ?_)
        obtain ⟨rfl, e9⟩ := hq
        rw [e9] at hP hD
        refine W.eq (g2 := F0 m 123 ls [.int (iv ((bl (A1 - A2) : Int)))]) rfl ?_
        refine lv_sipush (v := iv (4800)) hx hb rd_M_move_123 (by decide) ?_
        refine iw_icmp_le (tgt := 132) hx hb rd_M_move_126 (by decide) ⟨by omega, by omega⟩ ⟨by omega, by omega⟩ (fun c5 => ?_) (fun c5 => ?_)
        ·
          refine lv_aload_n hx hb rd_M_move_132 rfl (lv_at hl 2 rfl) ?_
          refine va_getN (D := (dC, dI)) (ci := 4) (v := .ref (r 19)) (C := rR4) (T := rT4) (N := 4) hx hb hts (fun w h => List.mem_cons_of_mem _ (rin4 w h)) hown hK hP 3 rfl rfl 1 (by decide) (hNX.use rm_287 rfl) (fun _ h9 => h9) rfl rd_M_move_133 ?_
          refine lv_aload_n hx hb rd_M_move_136 rfl (lv_at hl 3 rfl) ?_
          refine va_get (D := (dC, dI)) (ci := 5) (v := .ref (r 9)) (C := rR5) (T := rT5) (N := 7) hx hb hts (fun w h => List.mem_cons_of_mem _ (rin5 w h)) hown hK hP 0 rfl rfl 6 (by decide) (hts _ (List.mem_cons_of_mem _ rm_316)) (fun _ h9 => h9) rfl rd_M_move_137 ?_
          refine ef_callV (As := [.ref (r 9)]) (rest := []) ⟨hx, hb, hml, hown, hts⟩ (b_copy l dC dI ht (isB_c (X := A1) (F := (J 7)) (ws := rC cI r ((V 0)) ((V 1)) (A1 - A2) ((V 3)) ((V 4)) ((V 5)) ((V 6)) (A1) (U1) (A2) (U2) ((J 0)) ((J 1)) (g_3) ((J 3)) ((J 4)) ((J 5)) ((J 6)) ((J 7)) ((J 8)) ((J 9)) ((J 10)) (pb) (pe) (ob) (oe) (b1) (e1) (b2) (e2)) (k0 := 19) (k1 := 20) (by decide) rfl rfl) (isB_c (X := A1 - A2) (F := g_3) (ws := rC cI r ((V 0)) ((V 1)) (A1 - A2) ((V 3)) ((V 4)) ((V 5)) ((V 6)) (A1) (U1) (A2) (U2) ((J 0)) ((J 1)) (g_3) ((J 3)) ((J 4)) ((J 5)) ((J 6)) ((J 7)) ((J 8)) ((J 9)) ((J 10)) (pb) (pe) (ob) (oe) (b1) (e1) (b2) (e2)) (k0 := 9) (k1 := 10) (by decide) rfl rfl) hg_4.1 hg_4.2 (apt_c (k0 := 19) (k1 := 20) (j0 := 9) (j1 := 10) rfl)) (cwV 1 hts (ef_goodV rm_352 rm_353 rm_354 rm_25 rm_355) rfl rfl rfl (by decide +kernel) ⟨Nat.le_of_ble_eq_true rfl, Nat.le_of_ble_eq_true rfl⟩) hK hNX hP hD hS 19 rfl rfl rfl rfl hl.1 rfl (Nat.le_of_ble_eq_true rfl) rd_M_move_140 ⟨Nat.zero_le _, Nat.zero_le _⟩ (fun o w1 H locs hq hP hD hS => ?_)
          obtain ⟨rfl, g_5, rfl, hg_6⟩ := hq
          have hP : va_P (dC, dI) vwCl (rC cI r ((V 0)) ((V 1)) (A1 - A2) ((V 3)) ((V 4)) ((V 5)) ((V 6)) (A1 - A2) (U1) (A2) (U2) ((J 0)) ((J 1)) (g_3) ((J 3)) ((J 4)) ((J 5)) ((J 6)) (g_5) ((J 8)) ((J 9)) ((J 10)) (pb) (pe) (ob) (oe) (b1) (e1) (b2) (e2)) H := hP
          have hD : va_D (ef_A (rC cI r ((V 0)) ((V 1)) ((V 2)) ((V 3)) ((V 4)) ((V 5)) ((V 6)) (A1) (U1) (A2) (U2) ((J 0)) ((J 1)) ((J 2)) ((J 3)) ((J 4)) ((J 5)) ((J 6)) ((J 7)) ((J 8)) ((J 9)) ((J 10)) (pb) (pe) (ob) (oe) (b1) (e1) (b2) (e2))) (rC cI r ((V 0)) ((V 1)) (A1 - A2) ((V 3)) ((V 4)) ((V 5)) ((V 6)) (A1 - A2) (U1) (A2) (U2) ((J 0)) ((J 1)) (g_3) ((J 3)) ((J 4)) ((J 5)) ((J 6)) (g_5) ((J 8)) ((J 9)) ((J 10)) (pb) (pe) (ob) (oe) (b1) (e1) (b2) (e2)) := hD
          have hg_6 : bk (A1 - A2) g_5 := ⟨hg_6, hg_4.2⟩
          refine W.eq (g2 := F0 m 143 ls []) rfl ?_
          refine lv_aload_n hx hb rd_M_move_143 rfl (lv_at hl 2 rfl) ?_
          refine lv_iload hx hb rd_M_move_144 (lv_at hl 0 rfl) ?_
          refine va_putN (D := (dC, dI)) (ci := 4) (v := .int (iv (b1))) (ty := .boolean) (C := rR4) (T := rT4) (N := 4) hx hb hts (fun w h => List.mem_cons_of_mem _ (rin4 w h)) rty4 rtyok4 rnm4 hown hK hP hD hS 3 rfl rfl 0 (by decide) (hNX.use rm_285 rfl) (fun _ h9 => h9) rfl (by decide +kernel) (by rcases hbo with h9 | h9 <;> rw [h9] <;> rfl) (by rcases hbo with h9 | h9 <;> rw [h9] <;> rfl) (Nat.le_of_ble_eq_true rfl) rd_M_move_146 (fun H locs hP hD hS => ?_)
          have hP : va_P (dC, dI) vwCl (rC cI r ((V 0)) ((V 1)) (A1 - A2) ((V 3)) ((V 4)) ((V 5)) ((V 6)) (A1 - A2) (U1) (A2) (U2) ((J 0)) ((J 1)) (g_3) ((J 3)) ((J 4)) ((J 5)) ((J 6)) (g_5) ((J 8)) ((J 9)) ((J 10)) (pb) (pe) (ob) (oe) (b1) (e1) (b2) (e2)) H := hP
          have hD : va_D (ef_A (rC cI r ((V 0)) ((V 1)) ((V 2)) ((V 3)) ((V 4)) ((V 5)) ((V 6)) (A1) (U1) (A2) (U2) ((J 0)) ((J 1)) ((J 2)) ((J 3)) ((J 4)) ((J 5)) ((J 6)) ((J 7)) ((J 8)) ((J 9)) ((J 10)) (pb) (pe) (ob) (oe) (b1) (e1) (b2) (e2))) (rC cI r ((V 0)) ((V 1)) (A1 - A2) ((V 3)) ((V 4)) ((V 5)) ((V 6)) (A1 - A2) (U1) (A2) (U2) ((J 0)) ((J 1)) (g_3) ((J 3)) ((J 4)) ((J 5)) ((J 6)) (g_5) ((J 8)) ((J 9)) ((J 10)) (pb) (pe) (ob) (oe) (b1) (e1) (b2) (e2)) := hD
          refine lv_aload_n hx hb rd_M_move_149 rfl (lv_at hl 2 rfl) ?_
          refine va_getN (D := (dC, dI)) (ci := 4) (v := .ref (r 19)) (C := rR4) (T := rT4) (N := 4) hx hb hts (fun w h => List.mem_cons_of_mem _ (rin4 w h)) hown hK hP 3 rfl rfl 1 (by decide) (hNX.use rm_287 rfl) (fun _ h9 => h9) rfl rd_M_move_150 ?_
          refine ef_callV (As := []) (rest := []) ⟨hx, hb, hml, hown, hts⟩ (b_bits l dC dI ht (isB_c (X := A1 - A2) (F := g_5) (ws := rC cI r ((V 0)) ((V 1)) (A1 - A2) ((V 3)) ((V 4)) ((V 5)) ((V 6)) (A1 - A2) (U1) (A2) (U2) ((J 0)) ((J 1)) (g_3) ((J 3)) ((J 4)) ((J 5)) ((J 6)) (g_5) ((J 8)) ((J 9)) ((J 10)) (pb) (pe) (ob) (oe) (b1) (e1) (b2) (e2)) (k0 := 19) (k1 := 20) (by decide) rfl rfl) hg_6.1 hg_6.2) (cwV 0 hts (ef_goodV rm_360 rm_361 rm_362 rm_25 rm_363) rfl rfl rfl (by decide +kernel) ⟨Nat.le_of_ble_eq_true rfl, Nat.le_of_ble_eq_true rfl⟩) hK hNX hP hD hS 19 rfl rfl rfl rfl hl.1 rfl (Nat.le_of_ble_eq_true rfl) rd_M_move_153 ⟨Nat.zero_le _, Nat.zero_le _⟩ (fun o w1 H locs hq hP hD hS => ?_)
          obtain ⟨rfl, e9⟩ := hq
          rw [e9] at hP hD
          refine W.eq (g2 := F0 m 156 ls [.int (iv ((bl (A1 - A2) : Int)))]) rfl ?_
          exact ef_iret hx hb hr hlocks hP hD hS rd_M_move_156 (⟨fun i => [((V 0)), ((V 1)), (A1 - A2), ((V 3)), ((V 4)), ((V 5)), ((V 6))].getD i 0, fun i => [((J 0)), ((J 1)), (g_3), ((J 3)), ((J 4)), ((J 5)), ((J 6)), (g_5), ((J 8)), ((J 9)), ((J 10))].getD i (fun _ => 0), _, _, _, _, rfl, rfl, rJ_of (hJ 0 (by decide)) (hJ 1 (by decide)) hg_4 (hJ 3 (by decide)) (hJ 4 (by decide)) (hJ 5 (by decide)) (hJ 6 (by decide)), hg_6, kU1, kA2, kU2⟩)
        ·
          exact absurd c5 (by omega)
    ·
      exact absurd c2 hd
  ·
    exact absurd k1 (by decide)

set_option maxRecDepth 100000 in
set_option maxHeartbeats 4000000 in
/-- move -/
theorem r_move0lt (l : Launch) (dC : Nat → ClassId) (dI : Nat → Nat → Nat) {cI : ClassId} {tys : List (ClassId × FieldType)} (ht : tys[0]? = some (cI, .int)) (r : Nat → Nat) {V : Nat → Nat} {J : Nat → Nat → Nat} {A1 U1 A2 U2 : Nat} {pb pe ob oe b1 e1 b2 e2 : Int} (hJ : rJ V J) (kA1 : bk A1 (J 7)) (kU1 : bk U1 (J 8)) (kA2 : bk A2 (J 9)) (kU2 : bk U2 (J 10)) (mA1 : dn A1 ≤ 300) (mU1 : dn U1 ≤ 300) (mA2 : dn A2 ≤ 300) (mU2 : dn U2 ≤ 300) (hba : bl A1 ≤ 4800) (hbb : bl A2 ≤ 4800) (dw : Int) (hdn : dw = 0 ∨ dw = 1) (hbo : b1 = 0 ∨ b1 = 1) (hd : b1 ≠ dw) (hle : A1 < A2) : ef_C l ry_M_move rw_M_move ({ frames := 2, cells := 0, slots := 0, locals := 44 } : Room) [.ref (r 0), .int (iv (0)), .int (iv (dw))] (dC, dI) vwCl tys (rC cI r ((V 0)) ((V 1)) ((V 2)) ((V 3)) ((V 4)) ((V 5)) ((V 6)) (A1) (U1) (A2) (U2) ((J 0)) ((J 1)) ((J 2)) ((J 3)) ((J 4)) ((J 5)) ((J 6)) ((J 7)) ((J 8)) ((J 9)) ((J 10)) (pb) (pe) (ob) (oe) (b1) (e1) (b2) (e2)) (fun o w1 => ∃ (V2 : Nat → Nat) (J2 : Nat → Nat → Nat) (pb2 pe2 ob2 oe2 : Int), o = some (.int (iv (bl (A2 - A1) : Int))) ∧ w1 = rC cI r (V2 0) (V2 1) (V2 2) (V2 3) (V2 4) (V2 5) (V2 6) (A2 - A1) (U1) (A2) (U2) (J2 0) (J2 1) (J2 2) (J2 3) (J2 4) (J2 5) (J2 6) (J2 7) (J2 8) (J2 9) (J2 10) (pb2) (pe2) (ob2) (oe2) (dw) (e1) (b2) (e2) ∧ rJ V2 J2 ∧ bk (A2 - A1) (J2 7) ∧ bk (U1) (J2 8) ∧ bk (A2) (J2 9) ∧ bk (U2) (J2 10)) := by
  refine ef_C.of (cc := rc_M_move) (maxL := 6) (ret := (some .int)) (by decide) rfl (Nat.le_of_ble_eq_true rfl) ?_
  intro p e s m below meth c ls hx hb hml hr hts hown hlocks hK hNX hP hD hS hl
  have hl : lv_has ls 6 [(0, .ref (r 0)), (1, .int (iv (0))), (2, .int (iv (dw)))] := hl
  have hown : s.vm.findClass rR5 = some m.cls := hown
  generalize hH : s.heap = H at hP ⊢
  have hS : va_S (ef_A (rC cI r ((V 0)) ((V 1)) ((V 2)) ((V 3)) ((V 4)) ((V 5)) ((V 6)) (A1) (U1) (A2) (U2) ((J 0)) ((J 1)) ((J 2)) ((J 3)) ((J 4)) ((J 5)) ((J 6)) ((J 7)) ((J 8)) ((J 9)) ((J 10)) (pb) (pe) (ob) (oe) (b1) (e1) (b2) (e2))) s.heap H [] := by rw [← hH]; exact hS
  generalize ([] : List Loc) = locs at hS ⊢
  have hdr : ir dw := by rcases hdn with h | h <;> rw [h] <;> exact ⟨by decide, by decide⟩
  have hbr : ir b1 := by rcases hbo with h | h <;> rw [h] <;> exact ⟨by decide, by decide⟩
  have hb4 : bl (A2 - A1) ≤ 4800 := Nat.le_trans (bl_mono (Nat.sub_le _ _)) hbb
  have hdv : dn (A2 - A1) ≤ 301 := Nat.le_succ_of_le (dn_bl (k := 300) (by omega))
  have hbd : bl (A2 - A1) ≤ 16 * 301 := bl_le (Nat.lt_of_lt_of_le (dn_lt _) (Nat.pow_le_pow_right (by decide) (by omega)))
  refine lv_iload_n hx hb rd_M_move_0 rfl (lv_at hl 1 rfl) ?_
  refine ef_callS (As := [.int (iv (0))]) (rest := []) ⟨hx, hb, hml, hown, hts⟩ (r_isNumber0 l dC dI ht r) (cwS 1 hts (ef_goodS rm_336 rm_337 rm_24 rm_338) rfl rfl rfl (by decide +kernel) ⟨Nat.le_of_ble_eq_true rfl, Nat.le_of_ble_eq_true rfl⟩) hK hNX hP hD hS rfl hl.1 rfl (Nat.le_of_ble_eq_true rfl) rd_M_move_1 ⟨Nat.zero_le _, Nat.zero_le _⟩ (fun o w1 H locs hq hP hD hS => ?_)
  obtain ⟨rfl, e9⟩ := hq
  rw [e9] at hP hD
  refine W.eq (g2 := F0 m 4 ls [.int (iv (1))]) rfl ?_
  refine iw_if_ne (tgt := 9) hx hb rd_M_move_4 (by decide) ⟨by omega, by omega⟩ (fun k1 => ?_) (fun k1 => ?_)
  ·
    refine lv_aload_n hx hb rd_M_move_9 rfl (lv_at hl 0 rfl) ?_
    refine lv_iload_n hx hb rd_M_move_10 rfl (lv_at hl 1 rfl) ?_
    refine ef_callV (As := [.int (iv (0))]) (rest := []) ⟨hx, hb, hml, hown, hts⟩ (r_numberOf0 l dC dI ht r) (cwV 1 hts (ef_goodV rm_339 rm_341 rm_12 rm_24 rm_342) rfl rfl rfl (by decide +kernel) ⟨Nat.le_of_ble_eq_true rfl, Nat.le_of_ble_eq_true rfl⟩) hK hNX hP hD hS 0 rfl rfl rfl rfl hl.1 rfl (Nat.le_of_ble_eq_true rfl) rd_M_move_11 ⟨Nat.zero_le _, Nat.zero_le _⟩ (fun o w1 H locs hq hP hD hS => ?_)
    obtain ⟨rfl, e9⟩ := hq
    rw [e9] at hP hD
    refine W.eq (g2 := F0 m 14 ls [.ref (r 3)]) rfl ?_
    refine lv_astore_n (lv' := [(3, .ref (r 3)), (0, .ref (r 0)), (1, .int (iv (0))), (2, .int (iv (dw)))]) hx hb rd_M_move_14 rfl hl (by decide) rfl (fun ls hl => ?_)
    refine lv_aload_n hx hb rd_M_move_15 rfl (lv_at hl 1 rfl) ?_
    refine lv_iconst (v := iv (1)) hx hb rd_M_move_16 (by decide) ?_
    refine lv_iload_n hx hb rd_M_move_17 rfl (lv_at hl 2 rfl) ?_
    refine iw_isub hx hb rd_M_move_18 ?_
    refine iw_topi (y := iv (1)) (congrArg iv (by rfl : (((1) - (0)) : Int) = (1))) ?_
    refine lv_iconst (v := iv (0)) hx hb rd_M_move_19 (by decide) ?_
    refine ef_callV (As := [.int (iv (1)), .int (iv (0))]) (rest := []) ⟨hx, hb, hml, hown, hts⟩ (r_partOf10 l dC dI ht r) (cwV 2 hts (ef_goodV rm_348 rm_350 rm_13 rm_24 rm_351) rfl rfl rfl (by decide +kernel) ⟨Nat.le_of_ble_eq_true rfl, Nat.le_of_ble_eq_true rfl⟩) hK hNX hP hD hS 0 rfl rfl rfl rfl hl.1 rfl (Nat.le_of_ble_eq_true rfl) rd_M_move_20 ⟨Nat.zero_le _, Nat.zero_le _⟩ (fun o w1 H locs hq hP hD hS => ?_)
    obtain ⟨rfl, e9⟩ := hq
    rw [e9] at hP hD
    refine W.eq (g2 := F0 m 23 ls [.ref (r 23)]) rfl ?_
    refine lv_astore (lv' := [(4, .ref (r 23)), (3, .ref (r 3)), (0, .ref (r 0)), (1, .int (iv (0))), (2, .int (iv (dw)))]) hx hb rd_M_move_23 hl (by decide) rfl (fun ls hl => ?_)
    refine lv_aload_n hx hb rd_M_move_25 rfl (lv_at hl 2 rfl) ?_
    refine va_get (D := (dC, dI)) (ci := 5) (v := .ref (r 9)) (C := rR5) (T := rT5) (N := 7) hx hb hts (fun w h => List.mem_cons_of_mem _ (rin5 w h)) hown hK hP 0 rfl rfl 6 (by decide) (hts _ (List.mem_cons_of_mem _ rm_316)) (fun _ h9 => h9) rfl rd_M_move_26 ?_
    refine lv_aload_n hx hb rd_M_move_29 rfl (lv_at hl 1 rfl) ?_
    refine va_getN (D := (dC, dI)) (ci := 4) (v := .ref (r 19)) (C := rR4) (T := rT4) (N := 4) hx hb hts (fun w h => List.mem_cons_of_mem _ (rin4 w h)) hown hK hP 3 rfl rfl 1 (by decide) (hNX.use rm_287 rfl) (fun _ h9 => h9) rfl rd_M_move_30 ?_
    refine ef_callV (As := [.ref (r 19)]) (rest := []) ⟨hx, hb, hml, hown, hts⟩ (b_copy l dC dI ht (isB_c (X := (V 2)) (F := (J 2)) (ws := rC cI r ((V 0)) ((V 1)) ((V 2)) ((V 3)) ((V 4)) ((V 5)) ((V 6)) (A1) (U1) (A2) (U2) ((J 0)) ((J 1)) ((J 2)) ((J 3)) ((J 4)) ((J 5)) ((J 6)) ((J 7)) ((J 8)) ((J 9)) ((J 10)) (pb) (pe) (ob) (oe) (b1) (e1) (b2) (e2)) (k0 := 9) (k1 := 10) (by decide) rfl rfl) (isB_c (X := A1) (F := (J 7)) (ws := rC cI r ((V 0)) ((V 1)) ((V 2)) ((V 3)) ((V 4)) ((V 5)) ((V 6)) (A1) (U1) (A2) (U2) ((J 0)) ((J 1)) ((J 2)) ((J 3)) ((J 4)) ((J 5)) ((J 6)) ((J 7)) ((J 8)) ((J 9)) ((J 10)) (pb) (pe) (ob) (oe) (b1) (e1) (b2) (e2)) (k0 := 19) (k1 := 20) (by decide) rfl rfl) kA1.1 kA1.2 (apt_c (k0 := 9) (k1 := 10) (j0 := 19) (j1 := 20) rfl)) (cwV 1 hts (ef_goodV rm_352 rm_353 rm_354 rm_25 rm_355) rfl rfl rfl (by decide +kernel) ⟨Nat.le_of_ble_eq_true rfl, Nat.le_of_ble_eq_true rfl⟩) hK hNX hP hD hS 9 rfl rfl rfl rfl hl.1 rfl (Nat.le_of_ble_eq_true rfl) rd_M_move_33 ⟨Nat.zero_le _, Nat.zero_le _⟩ (fun o w1 H locs hq hP hD hS => ?_)
    obtain ⟨rfl, g_1, rfl, hg_2⟩ := hq
    have hP : va_P (dC, dI) vwCl (rC cI r ((V 0)) ((V 1)) (A1) ((V 3)) ((V 4)) ((V 5)) ((V 6)) (A1) (U1) (A2) (U2) ((J 0)) ((J 1)) (g_1) ((J 3)) ((J 4)) ((J 5)) ((J 6)) ((J 7)) ((J 8)) ((J 9)) ((J 10)) (pb) (pe) (ob) (oe) (b1) (e1) (b2) (e2)) H := hP
    have hD : va_D (ef_A (rC cI r ((V 0)) ((V 1)) ((V 2)) ((V 3)) ((V 4)) ((V 5)) ((V 6)) (A1) (U1) (A2) (U2) ((J 0)) ((J 1)) ((J 2)) ((J 3)) ((J 4)) ((J 5)) ((J 6)) ((J 7)) ((J 8)) ((J 9)) ((J 10)) (pb) (pe) (ob) (oe) (b1) (e1) (b2) (e2))) (rC cI r ((V 0)) ((V 1)) (A1) ((V 3)) ((V 4)) ((V 5)) ((V 6)) (A1) (U1) (A2) (U2) ((J 0)) ((J 1)) (g_1) ((J 3)) ((J 4)) ((J 5)) ((J 6)) ((J 7)) ((J 8)) ((J 9)) ((J 10)) (pb) (pe) (ob) (oe) (b1) (e1) (b2) (e2)) := hD
    have hg_2 : bk (A1) g_1 := ⟨hg_2, kA1.2⟩
    refine W.eq (g2 := F0 m 36 ls []) rfl ?_
    refine lv_aload_n hx hb rd_M_move_36 rfl (lv_at hl 1 rfl) ?_
    refine va_getN (D := (dC, dI)) (ci := 4) (v := .int (iv (b1))) (C := rR4) (T := rT4) (N := 4) hx hb hts (fun w h => List.mem_cons_of_mem _ (rin4 w h)) hown hK hP 3 rfl rfl 0 (by decide) (hNX.use rm_285 rfl) (fun _ h9 => h9) rfl rd_M_move_37 ?_
    refine lv_istore (lv' := [(5, .int (iv (b1))), (4, .ref (r 23)), (3, .ref (r 3)), (0, .ref (r 0)), (1, .int (iv (0))), (2, .int (iv (dw)))]) hx hb rd_M_move_40 hl (by decide) rfl (fun ls hl => ?_)
    refine lv_iload hx hb rd_M_move_42 (lv_at hl 0 rfl) ?_
    refine lv_iload_n hx hb rd_M_move_44 rfl (lv_at hl 5 rfl) ?_
    refine iw_icmp_ne (tgt := 60) hx hb rd_M_move_45 (by decide) (hbr) (hdr) (fun c2 => ?_) (fun c2 => ?_)
    ·
      refine lv_aload_n hx hb rd_M_move_60 rfl (lv_at hl 3 rfl) ?_
      refine va_get (D := (dC, dI)) (ci := 5) (v := .ref (r 9)) (C := rR5) (T := rT5) (N := 7) hx hb hts (fun w h => List.mem_cons_of_mem _ (rin5 w h)) hown hK hP 0 rfl rfl 6 (by decide) (hts _ (List.mem_cons_of_mem _ rm_316)) (fun _ h9 => h9) rfl rd_M_move_61 ?_
      refine lv_aload hx hb rd_M_move_64 (lv_at hl 1 rfl) ?_
      refine ef_callV (As := [.ref (r 23)]) (rest := []) ⟨hx, hb, hml, hown, hts⟩ (b_compare l dC dI ht (isB_c (X := A1) (F := g_1) (ws := rC cI r ((V 0)) ((V 1)) (A1) ((V 3)) ((V 4)) ((V 5)) ((V 6)) (A1) (U1) (A2) (U2) ((J 0)) ((J 1)) (g_1) ((J 3)) ((J 4)) ((J 5)) ((J 6)) ((J 7)) ((J 8)) ((J 9)) ((J 10)) (pb) (pe) (ob) (oe) (b1) (e1) (b2) (e2)) (k0 := 9) (k1 := 10) (by decide) rfl rfl) hg_2.1 hg_2.2 (isB_c (X := A2) (F := (J 9)) (ws := rC cI r ((V 0)) ((V 1)) (A1) ((V 3)) ((V 4)) ((V 5)) ((V 6)) (A1) (U1) (A2) (U2) ((J 0)) ((J 1)) (g_1) ((J 3)) ((J 4)) ((J 5)) ((J 6)) ((J 7)) ((J 8)) ((J 9)) ((J 10)) (pb) (pe) (ob) (oe) (b1) (e1) (b2) (e2)) (k0 := 23) (k1 := 24) (by decide) rfl rfl) kA2.1 kA2.2) (cwV 1 hts (ef_goodV rm_386 rm_387 rm_388 rm_25 rm_389) rfl rfl rfl (by decide +kernel) ⟨Nat.le_of_ble_eq_true rfl, Nat.le_of_ble_eq_true rfl⟩) hK hNX hP hD hS 9 rfl rfl rfl rfl hl.1 rfl (Nat.le_of_ble_eq_true rfl) rd_M_move_66 ⟨Nat.zero_le _, Nat.zero_le _⟩ (fun o w1 H locs hq hP hD hS => ?_)
      obtain ⟨rfl, e9⟩ := hq
      rw [e9] at hP hD
      refine W.eq (g2 := F0 m 69 ls [.int (iv (zc A1 A2))]) rfl ?_
      refine iw_if_lt (tgt := 84) hx hb rd_M_move_69 (by decide) (ir_zc _ _) (fun c3 => ?_) (fun c3 => ?_)
      ·
        refine lv_aload_n hx hb rd_M_move_84 rfl (lv_at hl 3 rfl) ?_
        refine va_get (D := (dC, dI)) (ci := 5) (v := .ref (r 9)) (C := rR5) (T := rT5) (N := 7) hx hb hts (fun w h => List.mem_cons_of_mem _ (rin5 w h)) hown hK hP 0 rfl rfl 6 (by decide) (hts _ (List.mem_cons_of_mem _ rm_316)) (fun _ h9 => h9) rfl rd_M_move_85 ?_
        refine lv_aload hx hb rd_M_move_88 (lv_at hl 1 rfl) ?_
        refine ef_callV (As := [.ref (r 23)]) (rest := []) ⟨hx, hb, hml, hown, hts⟩ (b_copy l dC dI ht (isB_c (X := A1) (F := g_1) (ws := rC cI r ((V 0)) ((V 1)) (A1) ((V 3)) ((V 4)) ((V 5)) ((V 6)) (A1) (U1) (A2) (U2) ((J 0)) ((J 1)) (g_1) ((J 3)) ((J 4)) ((J 5)) ((J 6)) ((J 7)) ((J 8)) ((J 9)) ((J 10)) (pb) (pe) (ob) (oe) (b1) (e1) (b2) (e2)) (k0 := 9) (k1 := 10) (by decide) rfl rfl) (isB_c (X := A2) (F := (J 9)) (ws := rC cI r ((V 0)) ((V 1)) (A1) ((V 3)) ((V 4)) ((V 5)) ((V 6)) (A1) (U1) (A2) (U2) ((J 0)) ((J 1)) (g_1) ((J 3)) ((J 4)) ((J 5)) ((J 6)) ((J 7)) ((J 8)) ((J 9)) ((J 10)) (pb) (pe) (ob) (oe) (b1) (e1) (b2) (e2)) (k0 := 23) (k1 := 24) (by decide) rfl rfl) kA2.1 kA2.2 (apt_c (k0 := 9) (k1 := 10) (j0 := 23) (j1 := 24) rfl)) (cwV 1 hts (ef_goodV rm_352 rm_353 rm_354 rm_25 rm_355) rfl rfl rfl (by decide +kernel) ⟨Nat.le_of_ble_eq_true rfl, Nat.le_of_ble_eq_true rfl⟩) hK hNX hP hD hS 9 rfl rfl rfl rfl hl.1 rfl (Nat.le_of_ble_eq_true rfl) rd_M_move_90 ⟨Nat.zero_le _, Nat.zero_le _⟩ (fun o w1 H locs hq hP hD hS => ?_)
        obtain ⟨rfl, g_3, rfl, hg_4⟩ := hq
        have hP : va_P (dC, dI) vwCl (rC cI r ((V 0)) ((V 1)) (A2) ((V 3)) ((V 4)) ((V 5)) ((V 6)) (A1) (U1) (A2) (U2) ((J 0)) ((J 1)) (g_3) ((J 3)) ((J 4)) ((J 5)) ((J 6)) ((J 7)) ((J 8)) ((J 9)) ((J 10)) (pb) (pe) (ob) (oe) (b1) (e1) (b2) (e2)) H := hP
        have hD : va_D (ef_A (rC cI r ((V 0)) ((V 1)) ((V 2)) ((V 3)) ((V 4)) ((V 5)) ((V 6)) (A1) (U1) (A2) (U2) ((J 0)) ((J 1)) ((J 2)) ((J 3)) ((J 4)) ((J 5)) ((J 6)) ((J 7)) ((J 8)) ((J 9)) ((J 10)) (pb) (pe) (ob) (oe) (b1) (e1) (b2) (e2))) (rC cI r ((V 0)) ((V 1)) (A2) ((V 3)) ((V 4)) ((V 5)) ((V 6)) (A1) (U1) (A2) (U2) ((J 0)) ((J 1)) (g_3) ((J 3)) ((J 4)) ((J 5)) ((J 6)) ((J 7)) ((J 8)) ((J 9)) ((J 10)) (pb) (pe) (ob) (oe) (b1) (e1) (b2) (e2)) := hD
        have hg_4 : bk (A2) g_3 := ⟨hg_4, kA2.2⟩
        refine W.eq (g2 := F0 m 93 ls []) rfl ?_
        refine lv_aload_n hx hb rd_M_move_93 rfl (lv_at hl 3 rfl) ?_
        refine va_get (D := (dC, dI)) (ci := 5) (v := .ref (r 9)) (C := rR5) (T := rT5) (N := 7) hx hb hts (fun w h => List.mem_cons_of_mem _ (rin5 w h)) hown hK hP 0 rfl rfl 6 (by decide) (hts _ (List.mem_cons_of_mem _ rm_316)) (fun _ h9 => h9) rfl rd_M_move_94 ?_
        refine lv_aload_n hx hb rd_M_move_97 rfl (lv_at hl 2 rfl) ?_
        refine va_getN (D := (dC, dI)) (ci := 4) (v := .ref (r 19)) (C := rR4) (T := rT4) (N := 4) hx hb hts (fun w h => List.mem_cons_of_mem _ (rin4 w h)) hown hK hP 3 rfl rfl 1 (by decide) (hNX.use rm_287 rfl) (fun _ h9 => h9) rfl rd_M_move_98 ?_
        refine ef_callV (As := [.ref (r 19)]) (rest := []) ⟨hx, hb, hml, hown, hts⟩ (b_subtract l dC dI ht (isB_c (X := A2) (F := g_3) (ws := rC cI r ((V 0)) ((V 1)) (A2) ((V 3)) ((V 4)) ((V 5)) ((V 6)) (A1) (U1) (A2) (U2) ((J 0)) ((J 1)) (g_3) ((J 3)) ((J 4)) ((J 5)) ((J 6)) ((J 7)) ((J 8)) ((J 9)) ((J 10)) (pb) (pe) (ob) (oe) (b1) (e1) (b2) (e2)) (k0 := 9) (k1 := 10) (by decide) rfl rfl) hg_4.1 hg_4.2 (isB_c (X := A1) (F := (J 7)) (ws := rC cI r ((V 0)) ((V 1)) (A2) ((V 3)) ((V 4)) ((V 5)) ((V 6)) (A1) (U1) (A2) (U2) ((J 0)) ((J 1)) (g_3) ((J 3)) ((J 4)) ((J 5)) ((J 6)) ((J 7)) ((J 8)) ((J 9)) ((J 10)) (pb) (pe) (ob) (oe) (b1) (e1) (b2) (e2)) (k0 := 19) (k1 := 20) (by decide) rfl rfl) kA1.1 kA1.2 (apt_c (k0 := 9) (k1 := 10) (j0 := 19) (j1 := 20) rfl) (by omega)) (cwV 1 hts (ef_goodV rm_390 rm_391 rm_392 rm_25 rm_393) rfl rfl rfl (by decide +kernel) ⟨Nat.le_of_ble_eq_true rfl, Nat.le_of_ble_eq_true rfl⟩) hK hNX hP hD hS 9 rfl rfl rfl rfl hl.1 rfl (Nat.le_of_ble_eq_true rfl) rd_M_move_101 ⟨Nat.zero_le _, Nat.zero_le _⟩ (fun o w1 H locs hq hP hD hS => ?_)
        obtain ⟨rfl, g_5, rfl, hg_6⟩ := hq
        have hP : va_P (dC, dI) vwCl (rC cI r ((V 0)) ((V 1)) (A2 - A1) ((V 3)) ((V 4)) ((V 5)) ((V 6)) (A1) (U1) (A2) (U2) ((J 0)) ((J 1)) (g_5) ((J 3)) ((J 4)) ((J 5)) ((J 6)) ((J 7)) ((J 8)) ((J 9)) ((J 10)) (pb) (pe) (ob) (oe) (b1) (e1) (b2) (e2)) H := hP
        have hD : va_D (ef_A (rC cI r ((V 0)) ((V 1)) ((V 2)) ((V 3)) ((V 4)) ((V 5)) ((V 6)) (A1) (U1) (A2) (U2) ((J 0)) ((J 1)) ((J 2)) ((J 3)) ((J 4)) ((J 5)) ((J 6)) ((J 7)) ((J 8)) ((J 9)) ((J 10)) (pb) (pe) (ob) (oe) (b1) (e1) (b2) (e2))) (rC cI r ((V 0)) ((V 1)) (A2 - A1) ((V 3)) ((V 4)) ((V 5)) ((V 6)) (A1) (U1) (A2) (U2) ((J 0)) ((J 1)) (g_5) ((J 3)) ((J 4)) ((J 5)) ((J 6)) ((J 7)) ((J 8)) ((J 9)) ((J 10)) (pb) (pe) (ob) (oe) (b1) (e1) (b2) (e2)) := hD
        have hg_6 : bk (A2 - A1) g_5 := ⟨hg_6, by omega⟩
        refine W.eq (g2 := F0 m 104 ls []) rfl ?_
        refine lv_iload hx hb rd_M_move_104 (lv_at hl 0 rfl) ?_
        refine iw_if_ne (tgt := 113) hx hb rd_M_move_106 (by decide) (hbr) (fun c4 => ?_) (fun c4 => ?_)
        ·
          have hdw : dw = 0 := by omega
          refine lv_iconst (v := iv (0)) hx hb rd_M_move_113 (by decide) ?_
          refine iw_topi (y := iv (dw)) (congrArg iv (by rw [hdw] : ((0) : Int) = (dw))) ?_
          refine lv_istore (lv' := [(5, .int (iv (dw))), (4, .ref (r 23)), (3, .ref (r 3)), (0, .ref (r 0)), (1, .int (iv (0))), (2, .int (iv (dw)))]) hx hb rd_M_move_114 hl (by decide) rfl (fun ls hl => ?_)
          refine lv_aload_n hx hb rd_M_move_116 rfl (lv_at hl 3 rfl) ?_
          refine va_get (D := (dC, dI)) (ci := 5) (v := .ref (r 9)) (C := rR5) (T := rT5) (N := 7) hx hb hts (fun w h => List.mem_cons_of_mem _ (rin5 w h)) hown hK hP 0 rfl rfl 6 (by decide) (hts _ (List.mem_cons_of_mem _ rm_316)) (fun _ h9 => h9) rfl rd_M_move_117 ?_
          refine ef_callV (As := []) (rest := []) ⟨hx, hb, hml, hown, hts⟩ (b_bits l dC dI ht (isB_c (X := A2 - A1) (F := g_5) (ws := rC cI r ((V 0)) ((V 1)) (A2 - A1) ((V 3)) ((V 4)) ((V 5)) ((V 6)) (A1) (U1) (A2) (U2) ((J 0)) ((J 1)) (g_5) ((J 3)) ((J 4)) ((J 5)) ((J 6)) ((J 7)) ((J 8)) ((J 9)) ((J 10)) (pb) (pe) (ob) (oe) (b1) (e1) (b2) (e2)) (k0 := 9) (k1 := 10) (by decide) rfl rfl) hg_6.1 hg_6.2) (cwV 0 hts (ef_goodV rm_360 rm_361 rm_362 rm_25 rm_363) rfl rfl rfl (by decide +kernel) ⟨Nat.le_of_ble_eq_true rfl, Nat.le_of_ble_eq_true rfl⟩) hK hNX hP hD hS 9 rfl rfl rfl rfl hl.1 rfl (Nat.le_of_ble_eq_true rfl) rd_M_move_120 ⟨Nat.zero_le _, Nat.zero_le _⟩ (fun o w1 H locs hq hP hD hS => ?_)
          obtain ⟨rfl, e9⟩ := hq
          rw [e9] at hP hD
          refine W.eq (g2 := F0 m 123 ls [.int (iv ((bl (A2 - A1) : Int)))]) rfl ?_
          refine lv_sipush (v := iv (4800)) hx hb rd_M_move_123 (by decide) ?_
          refine iw_icmp_le (tgt := 132) hx hb rd_M_move_126 (by decide) ⟨by omega, by omega⟩ ⟨by omega, by omega⟩ (fun c5 => ?_) (fun c5 => ?_)
          ·
            refine lv_aload_n hx hb rd_M_move_132 rfl (lv_at hl 2 rfl) ?_
            refine va_getN (D := (dC, dI)) (ci := 4) (v := .ref (r 19)) (C := rR4) (T := rT4) (N := 4) hx hb hts (fun w h => List.mem_cons_of_mem _ (rin4 w h)) hown hK hP 3 rfl rfl 1 (by decide) (hNX.use rm_287 rfl) (fun _ h9 => h9) rfl rd_M_move_133 ?_
            refine lv_aload_n hx hb rd_M_move_136 rfl (lv_at hl 3 rfl) ?_
            refine va_get (D := (dC, dI)) (ci := 5) (v := .ref (r 9)) (C := rR5) (T := rT5) (N := 7) hx hb hts (fun w h => List.mem_cons_of_mem _ (rin5 w h)) hown hK hP 0 rfl rfl 6 (by decide) (hts _ (List.mem_cons_of_mem _ rm_316)) (fun _ h9 => h9) rfl rd_M_move_137 ?_
            refine ef_callV (As := [.ref (r 9)]) (rest := []) ⟨hx, hb, hml, hown, hts⟩ (b_copy l dC dI ht (isB_c (X := A1) (F := (J 7)) (ws := rC cI r ((V 0)) ((V 1)) (A2 - A1) ((V 3)) ((V 4)) ((V 5)) ((V 6)) (A1) (U1) (A2) (U2) ((J 0)) ((J 1)) (g_5) ((J 3)) ((J 4)) ((J 5)) ((J 6)) ((J 7)) ((J 8)) ((J 9)) ((J 10)) (pb) (pe) (ob) (oe) (b1) (e1) (b2) (e2)) (k0 := 19) (k1 := 20) (by decide) rfl rfl) (isB_c (X := A2 - A1) (F := g_5) (ws := rC cI r ((V 0)) ((V 1)) (A2 - A1) ((V 3)) ((V 4)) ((V 5)) ((V 6)) (A1) (U1) (A2) (U2) ((J 0)) ((J 1)) (g_5) ((J 3)) ((J 4)) ((J 5)) ((J 6)) ((J 7)) ((J 8)) ((J 9)) ((J 10)) (pb) (pe) (ob) (oe) (b1) (e1) (b2) (e2)) (k0 := 9) (k1 := 10) (by decide) rfl rfl) hg_6.1 hg_6.2 (apt_c (k0 := 19) (k1 := 20) (j0 := 9) (j1 := 10) rfl)) (cwV 1 hts (ef_goodV rm_352 rm_353 rm_354 rm_25 rm_355) rfl rfl rfl (by decide +kernel) ⟨Nat.le_of_ble_eq_true rfl, Nat.le_of_ble_eq_true rfl⟩) hK hNX hP hD hS 19 rfl rfl rfl rfl hl.1 rfl (Nat.le_of_ble_eq_true rfl) rd_M_move_140 ⟨Nat.zero_le _, Nat.zero_le _⟩ (fun o w1 H locs hq hP hD hS => ?_)
            obtain ⟨rfl, g_7, rfl, hg_8⟩ := hq
            have hP : va_P (dC, dI) vwCl (rC cI r ((V 0)) ((V 1)) (A2 - A1) ((V 3)) ((V 4)) ((V 5)) ((V 6)) (A2 - A1) (U1) (A2) (U2) ((J 0)) ((J 1)) (g_5) ((J 3)) ((J 4)) ((J 5)) ((J 6)) (g_7) ((J 8)) ((J 9)) ((J 10)) (pb) (pe) (ob) (oe) (b1) (e1) (b2) (e2)) H := hP
            have hD : va_D (ef_A (rC cI r ((V 0)) ((V 1)) ((V 2)) ((V 3)) ((V 4)) ((V 5)) ((V 6)) (A1) (U1) (A2) (U2) ((J 0)) ((J 1)) ((J 2)) ((J 3)) ((J 4)) ((J 5)) ((J 6)) ((J 7)) ((J 8)) ((J 9)) ((J 10)) (pb) (pe) (ob) (oe) (b1) (e1) (b2) (e2))) (rC cI r ((V 0)) ((V 1)) (A2 - A1) ((V 3)) ((V 4)) ((V 5)) ((V 6)) (A2 - A1) (U1) (A2) (U2) ((J 0)) ((J 1)) (g_5) ((J 3)) ((J 4)) ((J 5)) ((J 6)) (g_7) ((J 8)) ((J 9)) ((J 10)) (pb) (pe) (ob) (oe) (b1) (e1) (b2) (e2)) := hD
            have hg_8 : bk (A2 - A1) g_7 := ⟨hg_8, hg_6.2⟩
            refine W.eq (g2 := F0 m 143 ls []) rfl ?_
            refine lv_aload_n hx hb rd_M_move_143 rfl (lv_at hl 2 rfl) ?_
            refine lv_iload hx hb rd_M_move_144 (lv_at hl 0 rfl) ?_
            refine va_putN (D := (dC, dI)) (ci := 4) (v := .int (iv (dw))) (ty := .boolean) (C := rR4) (T := rT4) (N := 4) hx hb hts (fun w h => List.mem_cons_of_mem _ (rin4 w h)) rty4 rtyok4 rnm4 hown hK hP hD hS 3 rfl rfl 0 (by decide) (hNX.use rm_285 rfl) (fun _ h9 => h9) rfl (by decide +kernel) (by rcases hdn with h9 | h9 <;> rw [h9] <;> rfl) (by rcases hdn with h9 | h9 <;> rw [h9] <;> rfl) (Nat.le_of_ble_eq_true rfl) rd_M_move_146 (fun H locs hP hD hS => ?_)
            have hP : va_P (dC, dI) vwCl (rC cI r ((V 0)) ((V 1)) (A2 - A1) ((V 3)) ((V 4)) ((V 5)) ((V 6)) (A2 - A1) (U1) (A2) (U2) ((J 0)) ((J 1)) (g_5) ((J 3)) ((J 4)) ((J 5)) ((J 6)) (g_7) ((J 8)) ((J 9)) ((J 10)) (pb) (pe) (ob) (oe) (dw) (e1) (b2) (e2)) H := hP
            have hD : va_D (ef_A (rC cI r ((V 0)) ((V 1)) ((V 2)) ((V 3)) ((V 4)) ((V 5)) ((V 6)) (A1) (U1) (A2) (U2) ((J 0)) ((J 1)) ((J 2)) ((J 3)) ((J 4)) ((J 5)) ((J 6)) ((J 7)) ((J 8)) ((J 9)) ((J 10)) (pb) (pe) (ob) (oe) (b1) (e1) (b2) (e2))) (rC cI r ((V 0)) ((V 1)) (A2 - A1) ((V 3)) ((V 4)) ((V 5)) ((V 6)) (A2 - A1) (U1) (A2) (U2) ((J 0)) ((J 1)) (g_5) ((J 3)) ((J 4)) ((J 5)) ((J 6)) (g_7) ((J 8)) ((J 9)) ((J 10)) (pb) (pe) (ob) (oe) (dw) (e1) (b2) (e2)) := hD
            refine lv_aload_n hx hb rd_M_move_149 rfl (lv_at hl 2 rfl) ?_
            refine va_getN (D := (dC, dI)) (ci := 4) (v := .ref (r 19)) (C := rR4) (T := rT4) (N := 4) hx hb hts (fun w h => List.mem_cons_of_mem _ (rin4 w h)) hown hK hP 3 rfl rfl 1 (by decide) (hNX.use rm_287 rfl) (fun _ h9 => h9) rfl rd_M_move_150 ?_
            refine ef_callV (As := []) (rest := []) ⟨hx, hb, hml, hown, hts⟩ (b_bits l dC dI ht (isB_c (X := A2 - A1) (F := g_7) (ws := rC cI r ((V 0)) ((V 1)) (A2 - A1) ((V 3)) ((V 4)) ((V 5)) ((V 6)) (A2 - A1) (U1) (A2) (U2) ((J 0)) ((J 1)) (g_5) ((J 3)) ((J 4)) ((J 5)) ((J 6)) (g_7) ((J 8)) ((J 9)) ((J 10)) (pb) (pe) (ob) (oe) (dw) (e1) (b2) (e2)) (k0 := 19) (k1 := 20) (by decide) rfl rfl) hg_8.1 hg_8.2) (cwV 0 hts (ef_goodV rm_360 rm_361 rm_362 rm_25 rm_363) rfl rfl rfl (by decide +kernel) ⟨Nat.le_of_ble_eq_true rfl, Nat.le_of_ble_eq_true rfl⟩) hK hNX hP hD hS 19 rfl rfl rfl rfl hl.1 rfl (Nat.le_of_ble_eq_true rfl) rd_M_move_153 ⟨Nat.zero_le _, Nat.zero_le _⟩ (fun o w1 H locs hq hP hD hS => ?_)
            obtain ⟨rfl, e9⟩ := hq
            rw [e9] at hP hD
            refine W.eq (g2 := F0 m 156 ls [.int (iv ((bl (A2 - A1) : Int)))]) rfl ?_
            exact ef_iret hx hb hr hlocks hP hD hS rd_M_move_156 (⟨fun i => [((V 0)), ((V 1)), (A2 - A1), ((V 3)), ((V 4)), ((V 5)), ((V 6))].getD i 0, fun i => [((J 0)), ((J 1)), (g_5), ((J 3)), ((J 4)), ((J 5)), ((J 6)), (g_7), ((J 8)), ((J 9)), ((J 10))].getD i (fun _ => 0), _, _, _, _, rfl, rfl, rJ_of (hJ 0 (by decide)) (hJ 1 (by decide)) hg_6 (hJ 3 (by decide)) (hJ 4 (by decide)) (hJ 5 (by decide)) (hJ 6 (by decide)), hg_8, kU1, kA2, kU2⟩)
          ·
            exact absurd c5 (by omega)
        ·
          have hdw : dw = 1 := by omega
          refine lv_iconst (v := iv (1)) hx hb rd_M_move_109 (by decide) ?_
          refine lv_goto (tgt := 114) hx hb rd_M_move_110 (by decide) ?_
          refine iw_topi (y := iv (dw)) (congrArg iv (by rw [hdw] : ((1) : Int) = (dw))) ?_
          refine lv_istore (lv' := [(5, .int (iv (dw))), (4, .ref (r 23)), (3, .ref (r 3)), (0, .ref (r 0)), (1, .int (iv (0))), (2, .int (iv (dw)))]) hx hb rd_M_move_114 hl (by decide) rfl (fun ls hl => ?_)
          refine lv_aload_n hx hb rd_M_move_116 rfl (lv_at hl 3 rfl) ?_
          refine va_get (D := (dC, dI)) (ci := 5) (v := .ref (r 9)) (C := rR5) (T := rT5) (N := 7) hx hb hts (fun w h => List.mem_cons_of_mem _ (rin5 w h)) hown hK hP 0 rfl rfl 6 (by decide) (hts _ (List.mem_cons_of_mem _ rm_316)) (fun _ h9 => h9) rfl rd_M_move_117 ?_
          refine ef_callV (As := []) (rest := []) ⟨hx, hb, hml, hown, hts⟩ (b_bits l dC dI ht (isB_c (X := A2 - A1) (F := g_5) (ws := rC cI r ((V 0)) ((V 1)) (A2 - A1) ((V 3)) ((V 4)) ((V 5)) ((V 6)) (A1) (U1) (A2) (U2) ((J 0)) ((J 1)) (g_5) ((J 3)) ((J 4)) ((J 5)) ((J 6)) ((J 7)) ((J 8)) ((J 9)) ((J 10)) (pb) (pe) (ob) (oe) (b1) (e1) (b2) (e2)) (k0 := 9) (k1 := 10) (by decide) rfl rfl) hg_6.1 hg_6.2) (cwV 0 hts (ef_goodV rm_360 rm_361 rm_362 rm_25 rm_363) rfl rfl rfl (by decide +kernel) ⟨Nat.le_of_ble_eq_true rfl, Nat.le_of_ble_eq_true rfl⟩) hK hNX hP hD hS 9 rfl rfl rfl rfl hl.1 rfl (Nat.le_of_ble_eq_true rfl) rd_M_move_120 ⟨Nat.zero_le _, Nat.zero_le _⟩ (fun o w1 H locs hq hP hD hS => ?_)
          obtain ⟨rfl, e9⟩ := hq
          rw [e9] at hP hD
          refine W.eq (g2 := F0 m 123 ls [.int (iv ((bl (A2 - A1) : Int)))]) rfl ?_
          refine lv_sipush (v := iv (4800)) hx hb rd_M_move_123 (by decide) ?_
          refine iw_icmp_le (tgt := 132) hx hb rd_M_move_126 (by decide) ⟨by omega, by omega⟩ ⟨by omega, by omega⟩ (fun c5 => ?_) (fun c5 => ?_)
          ·
            refine lv_aload_n hx hb rd_M_move_132 rfl (lv_at hl 2 rfl) ?_
            refine va_getN (D := (dC, dI)) (ci := 4) (v := .ref (r 19)) (C := rR4) (T := rT4) (N := 4) hx hb hts (fun w h => List.mem_cons_of_mem _ (rin4 w h)) hown hK hP 3 rfl rfl 1 (by decide) (hNX.use rm_287 rfl) (fun _ h9 => h9) rfl rd_M_move_133 ?_
            refine lv_aload_n hx hb rd_M_move_136 rfl (lv_at hl 3 rfl) ?_
            refine va_get (D := (dC, dI)) (ci := 5) (v := .ref (r 9)) (C := rR5) (T := rT5) (N := 7) hx hb hts (fun w h => List.mem_cons_of_mem _ (rin5 w h)) hown hK hP 0 rfl rfl 6 (by decide) (hts _ (List.mem_cons_of_mem _ rm_316)) (fun _ h9 => h9) rfl rd_M_move_137 ?_
            refine ef_callV (As := [.ref (r 9)]) (rest := []) ⟨hx, hb, hml, hown, hts⟩ (b_copy l dC dI ht (isB_c (X := A1) (F := (J 7)) (ws := rC cI r ((V 0)) ((V 1)) (A2 - A1) ((V 3)) ((V 4)) ((V 5)) ((V 6)) (A1) (U1) (A2) (U2) ((J 0)) ((J 1)) (g_5) ((J 3)) ((J 4)) ((J 5)) ((J 6)) ((J 7)) ((J 8)) ((J 9)) ((J 10)) (pb) (pe) (ob) (oe) (b1) (e1) (b2) (e2)) (k0 := 19) (k1 := 20) (by decide) rfl rfl) (isB_c (X := A2 - A1) (F := g_5) (ws := rC cI r ((V 0)) ((V 1)) (A2 - A1) ((V 3)) ((V 4)) ((V 5)) ((V 6)) (A1) (U1) (A2) (U2) ((J 0)) ((J 1)) (g_5) ((J 3)) ((J 4)) ((J 5)) ((J 6)) ((J 7)) ((J 8)) ((J 9)) ((J 10)) (pb) (pe) (ob) (oe) (b1) (e1) (b2) (e2)) (k0 := 9) (k1 := 10) (by decide) rfl rfl) hg_6.1 hg_6.2 (apt_c (k0 := 19) (k1 := 20) (j0 := 9) (j1 := 10) rfl)) (cwV 1 hts (ef_goodV rm_352 rm_353 rm_354 rm_25 rm_355) rfl rfl rfl (by decide +kernel) ⟨Nat.le_of_ble_eq_true rfl, Nat.le_of_ble_eq_true rfl⟩) hK hNX hP hD hS 19 rfl rfl rfl rfl hl.1 rfl (Nat.le_of_ble_eq_true rfl) rd_M_move_140 ⟨Nat.zero_le _, Nat.zero_le _⟩ (fun o w1 H locs hq hP hD hS => ?_)
            obtain ⟨rfl, g_9, rfl, hg_10⟩ := hq
            have hP : va_P (dC, dI) vwCl (rC cI r ((V 0)) ((V 1)) (A2 - A1) ((V 3)) ((V 4)) ((V 5)) ((V 6)) (A2 - A1) (U1) (A2) (U2) ((J 0)) ((J 1)) (g_5) ((J 3)) ((J 4)) ((J 5)) ((J 6)) (g_9) ((J 8)) ((J 9)) ((J 10)) (pb) (pe) (ob) (oe) (b1) (e1) (b2) (e2)) H := hP
            have hD : va_D (ef_A (rC cI r ((V 0)) ((V 1)) ((V 2)) ((V 3)) ((V 4)) ((V 5)) ((V 6)) (A1) (U1) (A2) (U2) ((J 0)) ((J 1)) ((J 2)) ((J 3)) ((J 4)) ((J 5)) ((J 6)) ((J 7)) ((J 8)) ((J 9)) ((J 10)) (pb) (pe) (ob) (oe) (b1) (e1) (b2) (e2))) (rC cI r ((V 0)) ((V 1)) (A2 - A1) ((V 3)) ((V 4)) ((V 5)) ((V 6)) (A2 - A1) (U1) (A2) (U2) ((J 0)) ((J 1)) (g_5) ((J 3)) ((J 4)) ((J 5)) ((J 6)) (g_9) ((J 8)) ((J 9)) ((J 10)) (pb) (pe) (ob) (oe) (b1) (e1) (b2) (e2)) := hD
            have hg_10 : bk (A2 - A1) g_9 := ⟨hg_10, hg_6.2⟩
            refine W.eq (g2 := F0 m 143 ls []) rfl ?_
            refine lv_aload_n hx hb rd_M_move_143 rfl (lv_at hl 2 rfl) ?_
            refine lv_iload hx hb rd_M_move_144 (lv_at hl 0 rfl) ?_
            refine va_putN (D := (dC, dI)) (ci := 4) (v := .int (iv (dw))) (ty := .boolean) (C := rR4) (T := rT4) (N := 4) hx hb hts (fun w h => List.mem_cons_of_mem _ (rin4 w h)) rty4 rtyok4 rnm4 hown hK hP hD hS 3 rfl rfl 0 (by decide) (hNX.use rm_285 rfl) (fun _ h9 => h9) rfl (by decide +kernel) (by rcases hdn with h9 | h9 <;> rw [h9] <;> rfl) (by rcases hdn with h9 | h9 <;> rw [h9] <;> rfl) (Nat.le_of_ble_eq_true rfl) rd_M_move_146 (fun H locs hP hD hS => ?_)
            have hP : va_P (dC, dI) vwCl (rC cI r ((V 0)) ((V 1)) (A2 - A1) ((V 3)) ((V 4)) ((V 5)) ((V 6)) (A2 - A1) (U1) (A2) (U2) ((J 0)) ((J 1)) (g_5) ((J 3)) ((J 4)) ((J 5)) ((J 6)) (g_9) ((J 8)) ((J 9)) ((J 10)) (pb) (pe) (ob) (oe) (dw) (e1) (b2) (e2)) H := hP
            have hD : va_D (ef_A (rC cI r ((V 0)) ((V 1)) ((V 2)) ((V 3)) ((V 4)) ((V 5)) ((V 6)) (A1) (U1) (A2) (U2) ((J 0)) ((J 1)) ((J 2)) ((J 3)) ((J 4)) ((J 5)) ((J 6)) ((J 7)) ((J 8)) ((J 9)) ((J 10)) (pb) (pe) (ob) (oe) (b1) (e1) (b2) (e2))) (rC cI r ((V 0)) ((V 1)) (A2 - A1) ((V 3)) ((V 4)) ((V 5)) ((V 6)) (A2 - A1) (U1) (A2) (U2) ((J 0)) ((J 1)) (g_5) ((J 3)) ((J 4)) ((J 5)) ((J 6)) (g_9) ((J 8)) ((J 9)) ((J 10)) (pb) (pe) (ob) (oe) (dw) (e1) (b2) (e2)) := hD
            refine lv_aload_n hx hb rd_M_move_149 rfl (lv_at hl 2 rfl) ?_
            refine va_getN (D := (dC, dI)) (ci := 4) (v := .ref (r 19)) (C := rR4) (T := rT4) (N := 4) hx hb hts (fun w h => List.mem_cons_of_mem _ (rin4 w h)) hown hK hP 3 rfl rfl 1 (by decide) (hNX.use rm_287 rfl) (fun _ h9 => h9) rfl rd_M_move_150 ?_
            refine ef_callV (As := []) (rest := []) ⟨hx, hb, hml, hown, hts⟩ (b_bits l dC dI ht (isB_c (X := A2 - A1) (F := g_9) (ws := rC cI r ((V 0)) ((V 1)) (A2 - A1) ((V 3)) ((V 4)) ((V 5)) ((V 6)) (A2 - A1) (U1) (A2) (U2) ((J 0)) ((J 1)) (g_5) ((J 3)) ((J 4)) ((J 5)) ((J 6)) (g_9) ((J 8)) ((J 9)) ((J 10)) (pb) (pe) (ob) (oe) (dw) (e1) (b2) (e2)) (k0 := 19) (k1 := 20) (by decide) rfl rfl) hg_10.1 hg_10.2) (cwV 0 hts (ef_goodV rm_360 rm_361 rm_362 rm_25 rm_363) rfl rfl rfl (by decide +kernel) ⟨Nat.le_of_ble_eq_true rfl, Nat.le_of_ble_eq_true rfl⟩) hK hNX hP hD hS 19 rfl rfl rfl rfl hl.1 rfl (Nat.le_of_ble_eq_true rfl) rd_M_move_153 ⟨Nat.zero_le _, Nat.zero_le _⟩ (fun o w1 H locs hq hP hD hS => ?_)
            obtain ⟨rfl, e9⟩ := hq
            rw [e9] at hP hD
            refine W.eq (g2 := F0 m 156 ls [.int (iv ((bl (A2 - A1) : Int)))]) rfl ?_
            exact ef_iret hx hb hr hlocks hP hD hS rd_M_move_156 (⟨fun i => [((V 0)), ((V 1)), (A2 - A1), ((V 3)), ((V 4)), ((V 5)), ((V 6))].getD i 0, fun i => [((J 0)), ((J 1)), (g_5), ((J 3)), ((J 4)), ((J 5)), ((J 6)), (g_9), ((J 8)), ((J 9)), ((J 10))].getD i (fun _ => 0), _, _, _, _, rfl, rfl, rJ_of (hJ 0 (by decide)) (hJ 1 (by decide)) hg_6 (hJ 3 (by decide)) (hJ 4 (by decide)) (hJ 5 (by decide)) (hJ 6 (by decide)), hg_10, kU1, kA2, kU2⟩)
          ·
            exact absurd c5 (by omega)
      ·
        exact absurd ((zc_ge _ _).1 c3) (by omega)
    ·
      exact absurd c2 hd
  ·
    exact absurd k1 (by decide)

set_option maxRecDepth 100000 in
set_option maxHeartbeats 4000000 in
/-- move -/
theorem r_move1sumF (l : Launch) (dC : Nat → ClassId) (dI : Nat → Nat → Nat) {cI : ClassId} {tys : List (ClassId × FieldType)} (ht : tys[0]? = some (cI, .int)) (r : Nat → Nat) {V : Nat → Nat} {J : Nat → Nat → Nat} {A1 U1 A2 U2 : Nat} {pb pe ob oe b1 e1 b2 e2 : Int} (hJ : rJ V J) (kA1 : bk A1 (J 7)) (kU1 : bk U1 (J 8)) (kA2 : bk A2 (J 9)) (kU2 : bk U2 (J 10)) (mA1 : dn A1 ≤ 300) (mU1 : dn U1 ≤ 300) (mA2 : dn A2 ≤ 300) (mU2 : dn U2 ≤ 300) (hba : bl A1 ≤ 4800) (hbb : bl A2 ≤ 4800) (dw : Int) (hdn : dw = 0 ∨ dw = 1) (hbo : b2 = 0 ∨ b2 = 1) (hd : b2 = dw) (hb4 : 4800 < bl (A2 + A1)) : ef_C l ry_M_move rw_M_move ({ frames := 2, cells := 0, slots := 0, locals := 44 } : Room) [.ref (r 0), .int (iv (1)), .int (iv (dw))] (dC, dI) vwCl tys (rC cI r ((V 0)) ((V 1)) ((V 2)) ((V 3)) ((V 4)) ((V 5)) ((V 6)) (A1) (U1) (A2) (U2) ((J 0)) ((J 1)) ((J 2)) ((J 3)) ((J 4)) ((J 5)) ((J 6)) ((J 7)) ((J 8)) ((J 9)) ((J 10)) (pb) (pe) (ob) (oe) (b1) (e1) (b2) (e2)) (fun o w1 => ∃ (V2 : Nat → Nat) (J2 : Nat → Nat → Nat) (pb2 pe2 ob2 oe2 : Int), o = some (.int (iv (-2))) ∧ w1 = rC cI r (V2 0) (V2 1) (V2 2) (V2 3) (V2 4) (V2 5) (V2 6) (A1) (U1) (A2) (U2) (J2 0) (J2 1) (J2 2) (J2 3) (J2 4) (J2 5) (J2 6) (J2 7) (J2 8) (J2 9) (J2 10) (pb2) (pe2) (ob2) (oe2) (b1) (e1) (b2) (e2) ∧ rJ V2 J2 ∧ bk (A1) (J2 7) ∧ bk (U1) (J2 8) ∧ bk (A2) (J2 9) ∧ bk (U2) (J2 10)) := by
  refine ef_C.of (cc := rc_M_move) (maxL := 6) (ret := (some .int)) (by decide) rfl (Nat.le_of_ble_eq_true rfl) ?_
  intro p e s m below meth c ls hx hb hml hr hts hown hlocks hK hNX hP hD hS hl
  have hl : lv_has ls 6 [(0, .ref (r 0)), (1, .int (iv (1))), (2, .int (iv (dw)))] := hl
  have hown : s.vm.findClass rR5 = some m.cls := hown
  generalize hH : s.heap = H at hP ⊢
  have hS : va_S (ef_A (rC cI r ((V 0)) ((V 1)) ((V 2)) ((V 3)) ((V 4)) ((V 5)) ((V 6)) (A1) (U1) (A2) (U2) ((J 0)) ((J 1)) ((J 2)) ((J 3)) ((J 4)) ((J 5)) ((J 6)) ((J 7)) ((J 8)) ((J 9)) ((J 10)) (pb) (pe) (ob) (oe) (b1) (e1) (b2) (e2))) s.heap H [] := by rw [← hH]; exact hS
  generalize ([] : List Loc) = locs at hS ⊢
  have hdr : ir dw := by rcases hdn with h | h <;> rw [h] <;> exact ⟨by decide, by decide⟩
  have hbr : ir b2 := by rcases hbo with h | h <;> rw [h] <;> exact ⟨by decide, by decide⟩
  have hdv : dn (A2 + A1) ≤ 301 := dn_add mA2 mA1
  have hbd : bl (A2 + A1) ≤ 16 * 301 := bl_le (Nat.lt_of_lt_of_le (dn_lt _) (Nat.pow_le_pow_right (by decide) (by omega)))
  refine lv_iload_n hx hb rd_M_move_0 rfl (lv_at hl 1 rfl) ?_
  refine ef_callS (As := [.int (iv (1))]) (rest := []) ⟨hx, hb, hml, hown, hts⟩ (r_isNumber1 l dC dI ht r) (cwS 1 hts (ef_goodS rm_336 rm_337 rm_24 rm_338) rfl rfl rfl (by decide +kernel) ⟨Nat.le_of_ble_eq_true rfl, Nat.le_of_ble_eq_true rfl⟩) hK hNX hP hD hS rfl hl.1 rfl (Nat.le_of_ble_eq_true rfl) rd_M_move_1 ⟨Nat.zero_le _, Nat.zero_le _⟩ (fun o w1 H locs hq hP hD hS => ?_)
  obtain ⟨rfl, e9⟩ := hq
  rw [e9] at hP hD
  refine W.eq (g2 := F0 m 4 ls [.int (iv (1))]) rfl ?_
  refine iw_if_ne (tgt := 9) hx hb rd_M_move_4 (by decide) ⟨by omega, by omega⟩ (fun k1 => ?_) (fun k1 => ?_)
  ·
    refine lv_aload_n hx hb rd_M_move_9 rfl (lv_at hl 0 rfl) ?_
    refine lv_iload_n hx hb rd_M_move_10 rfl (lv_at hl 1 rfl) ?_
    refine ef_callV (As := [.int (iv (1))]) (rest := []) ⟨hx, hb, hml, hown, hts⟩ (r_numberOf1 l dC dI ht r) (cwV 1 hts (ef_goodV rm_339 rm_341 rm_12 rm_24 rm_342) rfl rfl rfl (by decide +kernel) ⟨Nat.le_of_ble_eq_true rfl, Nat.le_of_ble_eq_true rfl⟩) hK hNX hP hD hS 0 rfl rfl rfl rfl hl.1 rfl (Nat.le_of_ble_eq_true rfl) rd_M_move_11 ⟨Nat.zero_le _, Nat.zero_le _⟩ (fun o w1 H locs hq hP hD hS => ?_)
    obtain ⟨rfl, e9⟩ := hq
    rw [e9] at hP hD
    refine W.eq (g2 := F0 m 14 ls [.ref (r 4)]) rfl ?_
    refine lv_astore_n (lv' := [(3, .ref (r 4)), (0, .ref (r 0)), (1, .int (iv (1))), (2, .int (iv (dw)))]) hx hb rd_M_move_14 rfl hl (by decide) rfl (fun ls hl => ?_)
    refine lv_aload_n hx hb rd_M_move_15 rfl (lv_at hl 1 rfl) ?_
    refine lv_iconst (v := iv (1)) hx hb rd_M_move_16 (by decide) ?_
    refine lv_iload_n hx hb rd_M_move_17 rfl (lv_at hl 2 rfl) ?_
    refine iw_isub hx hb rd_M_move_18 ?_
    refine iw_topi (y := iv (0)) (congrArg iv (by rfl : (((1) - (1)) : Int) = (0))) ?_
    refine lv_iconst (v := iv (0)) hx hb rd_M_move_19 (by decide) ?_
    refine ef_callV (As := [.int (iv (0)), .int (iv (0))]) (rest := []) ⟨hx, hb, hml, hown, hts⟩ (r_partOf00 l dC dI ht r) (cwV 2 hts (ef_goodV rm_348 rm_350 rm_13 rm_24 rm_351) rfl rfl rfl (by decide +kernel) ⟨Nat.le_of_ble_eq_true rfl, Nat.le_of_ble_eq_true rfl⟩) hK hNX hP hD hS 0 rfl rfl rfl rfl hl.1 rfl (Nat.le_of_ble_eq_true rfl) rd_M_move_20 ⟨Nat.zero_le _, Nat.zero_le _⟩ (fun o w1 H locs hq hP hD hS => ?_)
    obtain ⟨rfl, e9⟩ := hq
    rw [e9] at hP hD
    refine W.eq (g2 := F0 m 23 ls [.ref (r 19)]) rfl ?_
    refine lv_astore (lv' := [(4, .ref (r 19)), (3, .ref (r 4)), (0, .ref (r 0)), (1, .int (iv (1))), (2, .int (iv (dw)))]) hx hb rd_M_move_23 hl (by decide) rfl (fun ls hl => ?_)
    refine lv_aload_n hx hb rd_M_move_25 rfl (lv_at hl 2 rfl) ?_
    refine va_get (D := (dC, dI)) (ci := 5) (v := .ref (r 9)) (C := rR5) (T := rT5) (N := 7) hx hb hts (fun w h => List.mem_cons_of_mem _ (rin5 w h)) hown hK hP 0 rfl rfl 6 (by decide) (hts _ (List.mem_cons_of_mem _ rm_316)) (fun _ h9 => h9) rfl rd_M_move_26 ?_
    refine lv_aload_n hx hb rd_M_move_29 rfl (lv_at hl 1 rfl) ?_
    refine va_getN (D := (dC, dI)) (ci := 4) (v := .ref (r 23)) (C := rR4) (T := rT4) (N := 4) hx hb hts (fun w h => List.mem_cons_of_mem _ (rin4 w h)) hown hK hP 4 rfl rfl 1 (by decide) (hNX.use rm_287 rfl) (fun _ h9 => h9) rfl rd_M_move_30 ?_
    refine ef_callV (As := [.ref (r 23)]) (rest := []) ⟨hx, hb, hml, hown, hts⟩ (b_copy l dC dI ht (isB_c (X := (V 2)) (F := (J 2)) (ws := rC cI r ((V 0)) ((V 1)) ((V 2)) ((V 3)) ((V 4)) ((V 5)) ((V 6)) (A1) (U1) (A2) (U2) ((J 0)) ((J 1)) ((J 2)) ((J 3)) ((J 4)) ((J 5)) ((J 6)) ((J 7)) ((J 8)) ((J 9)) ((J 10)) (pb) (pe) (ob) (oe) (b1) (e1) (b2) (e2)) (k0 := 9) (k1 := 10) (by decide) rfl rfl) (isB_c (X := A2) (F := (J 9)) (ws := rC cI r ((V 0)) ((V 1)) ((V 2)) ((V 3)) ((V 4)) ((V 5)) ((V 6)) (A1) (U1) (A2) (U2) ((J 0)) ((J 1)) ((J 2)) ((J 3)) ((J 4)) ((J 5)) ((J 6)) ((J 7)) ((J 8)) ((J 9)) ((J 10)) (pb) (pe) (ob) (oe) (b1) (e1) (b2) (e2)) (k0 := 23) (k1 := 24) (by decide) rfl rfl) kA2.1 kA2.2 (apt_c (k0 := 9) (k1 := 10) (j0 := 23) (j1 := 24) rfl)) (cwV 1 hts (ef_goodV rm_352 rm_353 rm_354 rm_25 rm_355) rfl rfl rfl (by decide +kernel) ⟨Nat.le_of_ble_eq_true rfl, Nat.le_of_ble_eq_true rfl⟩) hK hNX hP hD hS 9 rfl rfl rfl rfl hl.1 rfl (Nat.le_of_ble_eq_true rfl) rd_M_move_33 ⟨Nat.zero_le _, Nat.zero_le _⟩ (fun o w1 H locs hq hP hD hS => ?_)
    obtain ⟨rfl, g_1, rfl, hg_2⟩ := hq
    have hP : va_P (dC, dI) vwCl (rC cI r ((V 0)) ((V 1)) (A2) ((V 3)) ((V 4)) ((V 5)) ((V 6)) (A1) (U1) (A2) (U2) ((J 0)) ((J 1)) (g_1) ((J 3)) ((J 4)) ((J 5)) ((J 6)) ((J 7)) ((J 8)) ((J 9)) ((J 10)) (pb) (pe) (ob) (oe) (b1) (e1) (b2) (e2)) H := hP
    have hD : va_D (ef_A (rC cI r ((V 0)) ((V 1)) ((V 2)) ((V 3)) ((V 4)) ((V 5)) ((V 6)) (A1) (U1) (A2) (U2) ((J 0)) ((J 1)) ((J 2)) ((J 3)) ((J 4)) ((J 5)) ((J 6)) ((J 7)) ((J 8)) ((J 9)) ((J 10)) (pb) (pe) (ob) (oe) (b1) (e1) (b2) (e2))) (rC cI r ((V 0)) ((V 1)) (A2) ((V 3)) ((V 4)) ((V 5)) ((V 6)) (A1) (U1) (A2) (U2) ((J 0)) ((J 1)) (g_1) ((J 3)) ((J 4)) ((J 5)) ((J 6)) ((J 7)) ((J 8)) ((J 9)) ((J 10)) (pb) (pe) (ob) (oe) (b1) (e1) (b2) (e2)) := hD
    have hg_2 : bk (A2) g_1 := ⟨hg_2, kA2.2⟩
    refine W.eq (g2 := F0 m 36 ls []) rfl ?_
    refine lv_aload_n hx hb rd_M_move_36 rfl (lv_at hl 1 rfl) ?_
    refine va_getN (D := (dC, dI)) (ci := 4) (v := .int (iv (b2))) (C := rR4) (T := rT4) (N := 4) hx hb hts (fun w h => List.mem_cons_of_mem _ (rin4 w h)) hown hK hP 4 rfl rfl 0 (by decide) (hNX.use rm_285 rfl) (fun _ h9 => h9) rfl rd_M_move_37 ?_
    refine lv_istore (lv' := [(5, .int (iv (b2))), (4, .ref (r 19)), (3, .ref (r 4)), (0, .ref (r 0)), (1, .int (iv (1))), (2, .int (iv (dw)))]) hx hb rd_M_move_40 hl (by decide) rfl (fun ls hl => ?_)
    refine lv_iload hx hb rd_M_move_42 (lv_at hl 0 rfl) ?_
    refine lv_iload_n hx hb rd_M_move_44 rfl (lv_at hl 5 rfl) ?_
    refine iw_icmp_ne (tgt := 60) hx hb rd_M_move_45 (by decide) (hbr) (hdr) (fun c2 => ?_) (fun c2 => ?_)
    ·
      exact absurd hd c2
    ·
      refine lv_aload_n hx hb rd_M_move_48 rfl (lv_at hl 3 rfl) ?_
      refine va_get (D := (dC, dI)) (ci := 5) (v := .ref (r 9)) (C := rR5) (T := rT5) (N := 7) hx hb hts (fun w h => List.mem_cons_of_mem _ (rin5 w h)) hown hK hP 0 rfl rfl 6 (by decide) (hts _ (List.mem_cons_of_mem _ rm_316)) (fun _ h9 => h9) rfl rd_M_move_49 ?_
      refine lv_aload hx hb rd_M_move_52 (lv_at hl 1 rfl) ?_
      refine ef_callV (As := [.ref (r 19)]) (rest := []) ⟨hx, hb, hml, hown, hts⟩ (b_add l dC dI ht (isB_c (X := A2) (F := g_1) (ws := rC cI r ((V 0)) ((V 1)) (A2) ((V 3)) ((V 4)) ((V 5)) ((V 6)) (A1) (U1) (A2) (U2) ((J 0)) ((J 1)) (g_1) ((J 3)) ((J 4)) ((J 5)) ((J 6)) ((J 7)) ((J 8)) ((J 9)) ((J 10)) (pb) (pe) (ob) (oe) (b1) (e1) (b2) (e2)) (k0 := 9) (k1 := 10) (by decide) rfl rfl) hg_2.1 hg_2.2 (isB_c (X := A1) (F := (J 7)) (ws := rC cI r ((V 0)) ((V 1)) (A2) ((V 3)) ((V 4)) ((V 5)) ((V 6)) (A1) (U1) (A2) (U2) ((J 0)) ((J 1)) (g_1) ((J 3)) ((J 4)) ((J 5)) ((J 6)) ((J 7)) ((J 8)) ((J 9)) ((J 10)) (pb) (pe) (ob) (oe) (b1) (e1) (b2) (e2)) (k0 := 19) (k1 := 20) (by decide) rfl rfl) kA1.1 kA1.2 (apt_c (k0 := 9) (k1 := 10) (j0 := 19) (j1 := 20) rfl) (by omega)) (cwV 1 hts (ef_goodV rm_381 rm_382 rm_383 rm_25 rm_384) rfl rfl rfl (by decide +kernel) ⟨Nat.le_of_ble_eq_true rfl, Nat.le_of_ble_eq_true rfl⟩) hK hNX hP hD hS 9 rfl rfl rfl rfl hl.1 rfl (Nat.le_of_ble_eq_true rfl) rd_M_move_54 ⟨Nat.zero_le _, Nat.zero_le _⟩ (fun o w1 H locs hq hP hD hS => ?_)
      obtain ⟨rfl, g_3, rfl, hg_4⟩ := hq
      have hP : va_P (dC, dI) vwCl (rC cI r ((V 0)) ((V 1)) (A2 + A1) ((V 3)) ((V 4)) ((V 5)) ((V 6)) (A1) (U1) (A2) (U2) ((J 0)) ((J 1)) (g_3) ((J 3)) ((J 4)) ((J 5)) ((J 6)) ((J 7)) ((J 8)) ((J 9)) ((J 10)) (pb) (pe) (ob) (oe) (b1) (e1) (b2) (e2)) H := hP
      have hD : va_D (ef_A (rC cI r ((V 0)) ((V 1)) ((V 2)) ((V 3)) ((V 4)) ((V 5)) ((V 6)) (A1) (U1) (A2) (U2) ((J 0)) ((J 1)) ((J 2)) ((J 3)) ((J 4)) ((J 5)) ((J 6)) ((J 7)) ((J 8)) ((J 9)) ((J 10)) (pb) (pe) (ob) (oe) (b1) (e1) (b2) (e2))) (rC cI r ((V 0)) ((V 1)) (A2 + A1) ((V 3)) ((V 4)) ((V 5)) ((V 6)) (A1) (U1) (A2) (U2) ((J 0)) ((J 1)) (g_3) ((J 3)) ((J 4)) ((J 5)) ((J 6)) ((J 7)) ((J 8)) ((J 9)) ((J 10)) (pb) (pe) (ob) (oe) (b1) (e1) (b2) (e2)) := hD
      have hg_4 : bk (A2 + A1) g_3 := ⟨hg_4, by omega⟩
      refine W.eq (g2 := F0 m 57 ls []) rfl ?_
      refine lv_goto (tgt := 116) hx hb rd_M_move_57 (by decide) ?_
      refine lv_aload_n hx hb rd_M_move_116 rfl (lv_at hl 3 rfl) ?_
      refine va_get (D := (dC, dI)) (ci := 5) (v := .ref (r 9)) (C := rR5) (T := rT5) (N := 7) hx hb hts (fun w h => List.mem_cons_of_mem _ (rin5 w h)) hown hK hP 0 rfl rfl 6 (by decide) (hts _ (List.mem_cons_of_mem _ rm_316)) (fun _ h9 => h9) rfl rd_M_move_117 ?_
      refine ef_callV (As := []) (rest := []) ⟨hx, hb, hml, hown, hts⟩ (b_bits l dC dI ht (isB_c (X := A2 + A1) (F := g_3) (ws := rC cI r ((V 0)) ((V 1)) (A2 + A1) ((V 3)) ((V 4)) ((V 5)) ((V 6)) (A1) (U1) (A2) (U2) ((J 0)) ((J 1)) (g_3) ((J 3)) ((J 4)) ((J 5)) ((J 6)) ((J 7)) ((J 8)) ((J 9)) ((J 10)) (pb) (pe) (ob) (oe) (b1) (e1) (b2) (e2)) (k0 := 9) (k1 := 10) (by decide) rfl rfl) hg_4.1 hg_4.2) (cwV 0 hts (ef_goodV rm_360 rm_361 rm_362 rm_25 rm_363) rfl rfl rfl (by decide +kernel) ⟨Nat.le_of_ble_eq_true rfl, Nat.le_of_ble_eq_true rfl⟩) hK hNX hP hD hS 9 rfl rfl rfl rfl hl.1 rfl (Nat.le_of_ble_eq_true rfl) rd_M_move_120 ⟨Nat.zero_le _, Nat.zero_le _⟩ (fun o w1 H locs hq hP hD hS => ?_)
      obtain ⟨rfl, e9⟩ := hq
      rw [e9] at hP hD
      refine W.eq (g2 := F0 m 123 ls [.int (iv ((bl (A2 + A1) : Int)))]) rfl ?_
      refine lv_sipush (v := iv (4800)) hx hb rd_M_move_123 (by decide) ?_
      refine iw_icmp_le (tgt := 132) hx hb rd_M_move_126 (by decide) ⟨by omega, by omega⟩ ⟨by omega, by omega⟩ (fun c5 => ?_) (fun c5 => ?_)
      ·
        exact absurd c5 (by omega)
      ·
        refine lv_bipush (v := iv (-2)) hx hb rd_M_move_129 (by decide) ?_
        exact ef_iret hx hb hr hlocks hP hD hS rd_M_move_131 (⟨fun i => [((V 0)), ((V 1)), (A2 + A1), ((V 3)), ((V 4)), ((V 5)), ((V 6))].getD i 0, fun i => [((J 0)), ((J 1)), (g_3), ((J 3)), ((J 4)), ((J 5)), ((J 6)), ((J 7)), ((J 8)), ((J 9)), ((J 10))].getD i (fun _ => 0), _, _, _, _, rfl, rfl, rJ_of (hJ 0 (by decide)) (hJ 1 (by decide)) hg_4 (hJ 3 (by decide)) (hJ 4 (by decide)) (hJ 5 (by decide)) (hJ 6 (by decide)), kA1, kU1, kA2, kU2⟩)
  ·
    exact absurd k1 (by decide)

set_option maxRecDepth 100000 in
set_option maxHeartbeats 4000000 in
/-- move -/
theorem r_move1sumK (l : Launch) (dC : Nat → ClassId) (dI : Nat → Nat → Nat) {cI : ClassId} {tys : List (ClassId × FieldType)} (ht : tys[0]? = some (cI, .int)) (r : Nat → Nat) {V : Nat → Nat} {J : Nat → Nat → Nat} {A1 U1 A2 U2 : Nat} {pb pe ob oe b1 e1 b2 e2 : Int} (hJ : rJ V J) (kA1 : bk A1 (J 7)) (kU1 : bk U1 (J 8)) (kA2 : bk A2 (J 9)) (kU2 : bk U2 (J 10)) (mA1 : dn A1 ≤ 300) (mU1 : dn U1 ≤ 300) (mA2 : dn A2 ≤ 300) (mU2 : dn U2 ≤ 300) (hba : bl A1 ≤ 4800) (hbb : bl A2 ≤ 4800) (dw : Int) (hdn : dw = 0 ∨ dw = 1) (hbo : b2 = 0 ∨ b2 = 1) (hd : b2 = dw) (hb4 : bl (A2 + A1) ≤ 4800) : ef_C l ry_M_move rw_M_move ({ frames := 2, cells := 0, slots := 0, locals := 44 } : Room) [.ref (r 0), .int (iv (1)), .int (iv (dw))] (dC, dI) vwCl tys (rC cI r ((V 0)) ((V 1)) ((V 2)) ((V 3)) ((V 4)) ((V 5)) ((V 6)) (A1) (U1) (A2) (U2) ((J 0)) ((J 1)) ((J 2)) ((J 3)) ((J 4)) ((J 5)) ((J 6)) ((J 7)) ((J 8)) ((J 9)) ((J 10)) (pb) (pe) (ob) (oe) (b1) (e1) (b2) (e2)) (fun o w1 => ∃ (V2 : Nat → Nat) (J2 : Nat → Nat → Nat) (pb2 pe2 ob2 oe2 : Int), o = some (.int (iv (bl (A2 + A1) : Int))) ∧ w1 = rC cI r (V2 0) (V2 1) (V2 2) (V2 3) (V2 4) (V2 5) (V2 6) (A1) (U1) (A2 + A1) (U2) (J2 0) (J2 1) (J2 2) (J2 3) (J2 4) (J2 5) (J2 6) (J2 7) (J2 8) (J2 9) (J2 10) (pb2) (pe2) (ob2) (oe2) (b1) (e1) (b2) (e2) ∧ rJ V2 J2 ∧ bk (A1) (J2 7) ∧ bk (U1) (J2 8) ∧ bk (A2 + A1) (J2 9) ∧ bk (U2) (J2 10)) := by
  refine ef_C.of (cc := rc_M_move) (maxL := 6) (ret := (some .int)) (by decide) rfl (Nat.le_of_ble_eq_true rfl) ?_
  intro p e s m below meth c ls hx hb hml hr hts hown hlocks hK hNX hP hD hS hl
  have hl : lv_has ls 6 [(0, .ref (r 0)), (1, .int (iv (1))), (2, .int (iv (dw)))] := hl
  have hown : s.vm.findClass rR5 = some m.cls := hown
  generalize hH : s.heap = H at hP ⊢
  have hS : va_S (ef_A (rC cI r ((V 0)) ((V 1)) ((V 2)) ((V 3)) ((V 4)) ((V 5)) ((V 6)) (A1) (U1) (A2) (U2) ((J 0)) ((J 1)) ((J 2)) ((J 3)) ((J 4)) ((J 5)) ((J 6)) ((J 7)) ((J 8)) ((J 9)) ((J 10)) (pb) (pe) (ob) (oe) (b1) (e1) (b2) (e2))) s.heap H [] := by rw [← hH]; exact hS
  generalize ([] : List Loc) = locs at hS ⊢
  have hdr : ir dw := by rcases hdn with h | h <;> rw [h] <;> exact ⟨by decide, by decide⟩
  have hbr : ir b2 := by rcases hbo with h | h <;> rw [h] <;> exact ⟨by decide, by decide⟩
  have hdv : dn (A2 + A1) ≤ 301 := dn_add mA2 mA1
  have hbd : bl (A2 + A1) ≤ 16 * 301 := bl_le (Nat.lt_of_lt_of_le (dn_lt _) (Nat.pow_le_pow_right (by decide) (by omega)))
  refine lv_iload_n hx hb rd_M_move_0 rfl (lv_at hl 1 rfl) ?_
  refine ef_callS (As := [.int (iv (1))]) (rest := []) ⟨hx, hb, hml, hown, hts⟩ (r_isNumber1 l dC dI ht r) (cwS 1 hts (ef_goodS rm_336 rm_337 rm_24 rm_338) rfl rfl rfl (by decide +kernel) ⟨Nat.le_of_ble_eq_true rfl, Nat.le_of_ble_eq_true rfl⟩) hK hNX hP hD hS rfl hl.1 rfl (Nat.le_of_ble_eq_true rfl) rd_M_move_1 ⟨Nat.zero_le _, Nat.zero_le _⟩ (fun o w1 H locs hq hP hD hS => ?_)
  obtain ⟨rfl, e9⟩ := hq
  rw [e9] at hP hD
  refine W.eq (g2 := F0 m 4 ls [.int (iv (1))]) rfl ?_
  refine iw_if_ne (tgt := 9) hx hb rd_M_move_4 (by decide) ⟨by omega, by omega⟩ (fun k1 => ?_) (fun k1 => ?_)
  ·
    refine lv_aload_n hx hb rd_M_move_9 rfl (lv_at hl 0 rfl) ?_
    refine lv_iload_n hx hb rd_M_move_10 rfl (lv_at hl 1 rfl) ?_
    refine ef_callV (As := [.int (iv (1))]) (rest := []) ⟨hx, hb, hml, hown, hts⟩ (r_numberOf1 l dC dI ht r) (cwV 1 hts (ef_goodV rm_339 rm_341 rm_12 rm_24 rm_342) rfl rfl rfl (by decide +kernel) ⟨Nat.le_of_ble_eq_true rfl, Nat.le_of_ble_eq_true rfl⟩) hK hNX hP hD hS 0 rfl rfl rfl rfl hl.1 rfl (Nat.le_of_ble_eq_true rfl) rd_M_move_11 ⟨Nat.zero_le _, Nat.zero_le _⟩ (fun o w1 H locs hq hP hD hS => ?_)
    obtain ⟨rfl, e9⟩ := hq
    rw [e9] at hP hD
    refine W.eq (g2 := F0 m 14 ls [.ref (r 4)]) rfl ?_
    refine lv_astore_n (lv' := [(3, .ref (r 4)), (0, .ref (r 0)), (1, .int (iv (1))), (2, .int (iv (dw)))]) hx hb rd_M_move_14 rfl hl (by decide) rfl (fun ls hl => ?_)
    refine lv_aload_n hx hb rd_M_move_15 rfl (lv_at hl 1 rfl) ?_
    refine lv_iconst (v := iv (1)) hx hb rd_M_move_16 (by decide) ?_
    refine lv_iload_n hx hb rd_M_move_17 rfl (lv_at hl 2 rfl) ?_
    refine iw_isub hx hb rd_M_move_18 ?_
    refine iw_topi (y := iv (0)) (congrArg iv (by rfl : (((1) - (1)) : Int) = (0))) ?_
    refine lv_iconst (v := iv (0)) hx hb rd_M_move_19 (by decide) ?_
    refine ef_callV (As := [.int (iv (0)), .int (iv (0))]) (rest := []) ⟨hx, hb, hml, hown, hts⟩ (r_partOf00 l dC dI ht r) (cwV 2 hts (ef_goodV rm_348 rm_350 rm_13 rm_24 rm_351) rfl rfl rfl (by decide +kernel) ⟨Nat.le_of_ble_eq_true rfl, Nat.le_of_ble_eq_true rfl⟩) hK hNX hP hD hS 0 rfl rfl rfl rfl hl.1 rfl (Nat.le_of_ble_eq_true rfl) rd_M_move_20 ⟨Nat.zero_le _, Nat.zero_le _⟩ (fun o w1 H locs hq hP hD hS => ?_)
    obtain ⟨rfl, e9⟩ := hq
    rw [e9] at hP hD
    refine W.eq (g2 := F0 m 23 ls [.ref (r 19)]) rfl ?_
    refine lv_astore (lv' := [(4, .ref (r 19)), (3, .ref (r 4)), (0, .ref (r 0)), (1, .int (iv (1))), (2, .int (iv (dw)))]) hx hb rd_M_move_23 hl (by decide) rfl (fun ls hl => ?_)
    refine lv_aload_n hx hb rd_M_move_25 rfl (lv_at hl 2 rfl) ?_
    refine va_get (D := (dC, dI)) (ci := 5) (v := .ref (r 9)) (C := rR5) (T := rT5) (N := 7) hx hb hts (fun w h => List.mem_cons_of_mem _ (rin5 w h)) hown hK hP 0 rfl rfl 6 (by decide) (hts _ (List.mem_cons_of_mem _ rm_316)) (fun _ h9 => h9) rfl rd_M_move_26 ?_
    refine lv_aload_n hx hb rd_M_move_29 rfl (lv_at hl 1 rfl) ?_
    refine va_getN (D := (dC, dI)) (ci := 4) (v := .ref (r 23)) (C := rR4) (T := rT4) (N := 4) hx hb hts (fun w h => List.mem_cons_of_mem _ (rin4 w h)) hown hK hP 4 rfl rfl 1 (by decide) (hNX.use rm_287 rfl) (fun _ h9 => h9) rfl rd_M_move_30 ?_
    refine ef_callV (As := [.ref (r 23)]) (rest := []) ⟨hx, hb, hml, hown, hts⟩ (b_copy l dC dI ht (isB_c (X := (V 2)) (F := (J 2)) (ws := rC cI r ((V 0)) ((V 1)) ((V 2)) ((V 3)) ((V 4)) ((V 5)) ((V 6)) (A1) (U1) (A2) (U2) ((J 0)) ((J 1)) ((J 2)) ((J 3)) ((J 4)) ((J 5)) ((J 6)) ((J 7)) ((J 8)) ((J 9)) ((J 10)) (pb) (pe) (ob) (oe) (b1) (e1) (b2) (e2)) (k0 := 9) (k1 := 10) (by decide) rfl rfl) (isB_c (X := A2) (F := (J 9)) (ws := rC cI r ((V 0)) ((V 1)) ((V 2)) ((V 3)) ((V 4)) ((V 5)) ((V 6)) (A1) (U1) (A2) (U2) ((J 0)) ((J 1)) ((J 2)) ((J 3)) ((J 4)) ((J 5)) ((J 6)) ((J 7)) ((J 8)) ((J 9)) ((J 10)) (pb) (pe) (ob) (oe) (b1) (e1) (b2) (e2)) (k0 := 23) (k1 := 24) (by decide) rfl rfl) kA2.1 kA2.2 (apt_c (k0 := 9) (k1 := 10) (j0 := 23) (j1 := 24) rfl)) (cwV 1 hts (ef_goodV rm_352 rm_353 rm_354 rm_25 rm_355) rfl rfl rfl (by decide +kernel) ⟨Nat.le_of_ble_eq_true rfl, Nat.le_of_ble_eq_true rfl⟩) hK hNX hP hD hS 9 rfl rfl rfl rfl hl.1 rfl (Nat.le_of_ble_eq_true rfl) rd_M_move_33 ⟨Nat.zero_le _, Nat.zero_le _⟩ (fun o w1 H locs hq hP hD hS => ?_)
    obtain ⟨rfl, g_1, rfl, hg_2⟩ := hq
    have hP : va_P (dC, dI) vwCl (rC cI r ((V 0)) ((V 1)) (A2) ((V 3)) ((V 4)) ((V 5)) ((V 6)) (A1) (U1) (A2) (U2) ((J 0)) ((J 1)) (g_1) ((J 3)) ((J 4)) ((J 5)) ((J 6)) ((J 7)) ((J 8)) ((J 9)) ((J 10)) (pb) (pe) (ob) (oe) (b1) (e1) (b2) (e2)) H := hP
    have hD : va_D (ef_A (rC cI r ((V 0)) ((V 1)) ((V 2)) ((V 3)) ((V 4)) ((V 5)) ((V 6)) (A1) (U1) (A2) (U2) ((J 0)) ((J 1)) ((J 2)) ((J 3)) ((J 4)) ((J 5)) ((J 6)) ((J 7)) ((J 8)) ((J 9)) ((J 10)) (pb) (pe) (ob) (oe) (b1) (e1) (b2) (e2))) (rC cI r ((V 0)) ((V 1)) (A2) ((V 3)) ((V 4)) ((V 5)) ((V 6)) (A1) (U1) (A2) (U2) ((J 0)) ((J 1)) (g_1) ((J 3)) ((J 4)) ((J 5)) ((J 6)) ((J 7)) ((J 8)) ((J 9)) ((J 10)) (pb) (pe) (ob) (oe) (b1) (e1) (b2) (e2)) := hD
    have hg_2 : bk (A2) g_1 := ⟨hg_2, kA2.2⟩
    refine W.eq (g2 := F0 m 36 ls []) rfl ?_
    refine lv_aload_n hx hb rd_M_move_36 rfl (lv_at hl 1 rfl) ?_
    refine va_getN (D := (dC, dI)) (ci := 4) (v := .int (iv (b2))) (C := rR4) (T := rT4) (N := 4) hx hb hts (fun w h => List.mem_cons_of_mem _ (rin4 w h)) hown hK hP 4 rfl rfl 0 (by decide) (hNX.use rm_285 rfl) (fun _ h9 => h9) rfl rd_M_move_37 ?_
    refine lv_istore (lv' := [(5, .int (iv (b2))), (4, .ref (r 19)), (3, .ref (r 4)), (0, .ref (r 0)), (1, .int (iv (1))), (2, .int (iv (dw)))]) hx hb rd_M_move_40 hl (by decide) rfl (fun ls hl => ?_)
    refine lv_iload hx hb rd_M_move_42 (lv_at hl 0 rfl) ?_
    refine lv_iload_n hx hb rd_M_move_44 rfl (lv_at hl 5 rfl) ?_
    refine iw_icmp_ne (tgt := 60) hx hb rd_M_move_45 (by decide) (hbr) (hdr) (fun c2 => ?_) (fun c2 => ?_)
    ·
      exact absurd hd c2
    ·
      refine lv_aload_n hx hb rd_M_move_48 rfl (lv_at hl 3 rfl) ?_
      refine va_get (D := (dC, dI)) (ci := 5) (v := .ref (r 9)) (C := rR5) (T := rT5) (N := 7) hx hb hts (fun w h => List.mem_cons_of_mem _ (rin5 w h)) hown hK hP 0 rfl rfl 6 (by decide) (hts _ (List.mem_cons_of_mem _ rm_316)) (fun _ h9 => h9) rfl rd_M_move_49 ?_
      refine lv_aload hx hb rd_M_move_52 (lv_at hl 1 rfl) ?_
      refine ef_callV (As := [.ref (r 19)]) (rest := []) ⟨hx, hb, hml, hown, hts⟩ (b_add l dC dI ht (isB_c (X := A2) (F := g_1) (ws := rC cI r ((V 0)) ((V 1)) (A2) ((V 3)) ((V 4)) ((V 5)) ((V 6)) (A1) (U1) (A2) (U2) ((J 0)) ((J 1)) (g_1) ((J 3)) ((J 4)) ((J 5)) ((J 6)) ((J 7)) ((J 8)) ((J 9)) ((J 10)) (pb) (pe) (ob) (oe) (b1) (e1) (b2) (e2)) (k0 := 9) (k1 := 10) (by decide) rfl rfl) hg_2.1 hg_2.2 (isB_c (X := A1) (F := (J 7)) (ws := rC cI r ((V 0)) ((V 1)) (A2) ((V 3)) ((V 4)) ((V 5)) ((V 6)) (A1) (U1) (A2) (U2) ((J 0)) ((J 1)) (g_1) ((J 3)) ((J 4)) ((J 5)) ((J 6)) ((J 7)) ((J 8)) ((J 9)) ((J 10)) (pb) (pe) (ob) (oe) (b1) (e1) (b2) (e2)) (k0 := 19) (k1 := 20) (by decide) rfl rfl) kA1.1 kA1.2 (apt_c (k0 := 9) (k1 := 10) (j0 := 19) (j1 := 20) rfl) (by omega)) (cwV 1 hts (ef_goodV rm_381 rm_382 rm_383 rm_25 rm_384) rfl rfl rfl (by decide +kernel) ⟨Nat.le_of_ble_eq_true rfl, Nat.le_of_ble_eq_true rfl⟩) hK hNX hP hD hS 9 rfl rfl rfl rfl hl.1 rfl (Nat.le_of_ble_eq_true rfl) rd_M_move_54 ⟨Nat.zero_le _, Nat.zero_le _⟩ (fun o w1 H locs hq hP hD hS => ?_)
      obtain ⟨rfl, g_3, rfl, hg_4⟩ := hq
      have hP : va_P (dC, dI) vwCl (rC cI r ((V 0)) ((V 1)) (A2 + A1) ((V 3)) ((V 4)) ((V 5)) ((V 6)) (A1) (U1) (A2) (U2) ((J 0)) ((J 1)) (g_3) ((J 3)) ((J 4)) ((J 5)) ((J 6)) ((J 7)) ((J 8)) ((J 9)) ((J 10)) (pb) (pe) (ob) (oe) (b1) (e1) (b2) (e2)) H := hP
      have hD : va_D (ef_A (rC cI r ((V 0)) ((V 1)) ((V 2)) ((V 3)) ((V 4)) ((V 5)) ((V 6)) (A1) (U1) (A2) (U2) ((J 0)) ((J 1)) ((J 2)) ((J 3)) ((J 4)) ((J 5)) ((J 6)) ((J 7)) ((J 8)) ((J 9)) ((J 10)) (pb) (pe) (ob) (oe) (b1) (e1) (b2) (e2))) (rC cI r ((V 0)) ((V 1)) (A2 + A1) ((V 3)) ((V 4)) ((V 5)) ((V 6)) (A1) (U1) (A2) (U2) ((J 0)) ((J 1)) (g_3) ((J 3)) ((J 4)) ((J 5)) ((J 6)) ((J 7)) ((J 8)) ((J 9)) ((J 10)) (pb) (pe) (ob) (oe) (b1) (e1) (b2) (e2)) := hD
      have hg_4 : bk (A2 + A1) g_3 := ⟨hg_4, by omega⟩
      refine W.eq (g2 := F0 m 57 ls []) rfl ?_
      refine lv_goto (tgt := 116) hx hb rd_M_move_57 (by decide) ?_
      refine lv_aload_n hx hb rd_M_move_116 rfl (lv_at hl 3 rfl) ?_
      refine va_get (D := (dC, dI)) (ci := 5) (v := .ref (r 9)) (C := rR5) (T := rT5) (N := 7) hx hb hts (fun w h => List.mem_cons_of_mem _ (rin5 w h)) hown hK hP 0 rfl rfl 6 (by decide) (hts _ (List.mem_cons_of_mem _ rm_316)) (fun _ h9 => h9) rfl rd_M_move_117 ?_
      refine ef_callV (As := []) (rest := []) ⟨hx, hb, hml, hown, hts⟩ (b_bits l dC dI ht (isB_c (X := A2 + A1) (F := g_3) (ws := rC cI r ((V 0)) ((V 1)) (A2 + A1) ((V 3)) ((V 4)) ((V 5)) ((V 6)) (A1) (U1) (A2) (U2) ((J 0)) ((J 1)) (g_3) ((J 3)) ((J 4)) ((J 5)) ((J 6)) ((J 7)) ((J 8)) ((J 9)) ((J 10)) (pb) (pe) (ob) (oe) (b1) (e1) (b2) (e2)) (k0 := 9) (k1 := 10) (by decide) rfl rfl) hg_4.1 hg_4.2) (cwV 0 hts (ef_goodV rm_360 rm_361 rm_362 rm_25 rm_363) rfl rfl rfl (by decide +kernel) ⟨Nat.le_of_ble_eq_true rfl, Nat.le_of_ble_eq_true rfl⟩) hK hNX hP hD hS 9 rfl rfl rfl rfl hl.1 rfl (Nat.le_of_ble_eq_true rfl) rd_M_move_120 ⟨Nat.zero_le _, Nat.zero_le _⟩ (fun o w1 H locs hq hP hD hS => ?_)
      obtain ⟨rfl, e9⟩ := hq
      rw [e9] at hP hD
      refine W.eq (g2 := F0 m 123 ls [.int (iv ((bl (A2 + A1) : Int)))]) rfl ?_
      refine lv_sipush (v := iv (4800)) hx hb rd_M_move_123 (by decide) ?_
      refine iw_icmp_le (tgt := 132) hx hb rd_M_move_126 (by decide) ⟨by omega, by omega⟩ ⟨by omega, by omega⟩ (fun c5 => ?_) (fun c5 => ?_)
      ·
        refine lv_aload_n hx hb rd_M_move_132 rfl (lv_at hl 2 rfl) ?_
        refine va_getN (D := (dC, dI)) (ci := 4) (v := .ref (r 23)) (C := rR4) (T := rT4) (N := 4) hx hb hts (fun w h => List.mem_cons_of_mem _ (rin4 w h)) hown hK hP 4 rfl rfl 1 (by decide) (hNX.use rm_287 rfl) (fun _ h9 => h9) rfl rd_M_move_133 ?_
        refine lv_aload_n hx hb rd_M_move_136 rfl (lv_at hl 3 rfl) ?_
        refine va_get (D := (dC, dI)) (ci := 5) (v := .ref (r 9)) (C := rR5) (T := rT5) (N := 7) hx hb hts (fun w h => List.mem_cons_of_mem _ (rin5 w h)) hown hK hP 0 rfl rfl 6 (by decide) (hts _ (List.mem_cons_of_mem _ rm_316)) (fun _ h9 => h9) rfl rd_M_move_137 ?_
        refine ef_callV (As := [.ref (r 9)]) (rest := []) ⟨hx, hb, hml, hown, hts⟩ (b_copy l dC dI ht (isB_c (X := A2) (F := (J 9)) (ws := rC cI r ((V 0)) ((V 1)) (A2 + A1) ((V 3)) ((V 4)) ((V 5)) ((V 6)) (A1) (U1) (A2) (U2) ((J 0)) ((J 1)) (g_3) ((J 3)) ((J 4)) ((J 5)) ((J 6)) ((J 7)) ((J 8)) ((J 9)) ((J 10)) (pb) (pe) (ob) (oe) (b1) (e1) (b2) (e2)) (k0 := 23) (k1 := 24) (by decide) rfl rfl) (isB_c (X := A2 + A1) (F := g_3) (ws := rC cI r ((V 0)) ((V 1)) (A2 + A1) ((V 3)) ((V 4)) ((V 5)) ((V 6)) (A1) (U1) (A2) (U2) ((J 0)) ((J 1)) (g_3) ((J 3)) ((J 4)) ((J 5)) ((J 6)) ((J 7)) ((J 8)) ((J 9)) ((J 10)) (pb) (pe) (ob) (oe) (b1) (e1) (b2) (e2)) (k0 := 9) (k1 := 10) (by decide) rfl rfl) hg_4.1 hg_4.2 (apt_c (k0 := 23) (k1 := 24) (j0 := 9) (j1 := 10) rfl)) (cwV 1 hts (ef_goodV rm_352 rm_353 rm_354 rm_25 rm_355) rfl rfl rfl (by decide +kernel) ⟨Nat.le_of_ble_eq_true rfl, Nat.le_of_ble_eq_true rfl⟩) hK hNX hP hD hS 23 rfl rfl rfl rfl hl.1 rfl (Nat.le_of_ble_eq_true rfl) rd_M_move_140 ⟨Nat.zero_le _, Nat.zero_le _⟩ (fun o w1 H locs hq hP hD hS => ?_)
        obtain ⟨rfl, g_5, rfl, hg_6⟩ := hq
        have hP : va_P (dC, dI) vwCl (rC cI r ((V 0)) ((V 1)) (A2 + A1) ((V 3)) ((V 4)) ((V 5)) ((V 6)) (A1) (U1) (A2 + A1) (U2) ((J 0)) ((J 1)) (g_3) ((J 3)) ((J 4)) ((J 5)) ((J 6)) ((J 7)) ((J 8)) (g_5) ((J 10)) (pb) (pe) (ob) (oe) (b1) (e1) (b2) (e2)) H := hP
        have hD : va_D (ef_A (rC cI r ((V 0)) ((V 1)) ((V 2)) ((V 3)) ((V 4)) ((V 5)) ((V 6)) (A1) (U1) (A2) (U2) ((J 0)) ((J 1)) ((J 2)) ((J 3)) ((J 4)) ((J 5)) ((J 6)) ((J 7)) ((J 8)) ((J 9)) ((J 10)) (pb) (pe) (ob) (oe) (b1) (e1) (b2) (e2))) (rC cI r ((V 0)) ((V 1)) (A2 + A1) ((V 3)) ((V 4)) ((V 5)) ((V 6)) (A1) (U1) (A2 + A1) (U2) ((J 0)) ((J 1)) (g_3) ((J 3)) ((J 4)) ((J 5)) ((J 6)) ((J 7)) ((J 8)) (g_5) ((J 10)) (pb) (pe) (ob) (oe) (b1) (e1) (b2) (e2)) := hD
        have hg_6 : bk (A2 + A1) g_5 := ⟨hg_6, hg_4.2⟩
        refine W.eq (g2 := F0 m 143 ls []) rfl ?_
        refine lv_aload_n hx hb rd_M_move_143 rfl (lv_at hl 2 rfl) ?_
        refine lv_iload hx hb rd_M_move_144 (lv_at hl 0 rfl) ?_
        refine va_putN (D := (dC, dI)) (ci := 4) (v := .int (iv (b2))) (ty := .boolean) (C := rR4) (T := rT4) (N := 4) hx hb hts (fun w h => List.mem_cons_of_mem _ (rin4 w h)) rty4 rtyok4 rnm4 hown hK hP hD hS 4 rfl rfl 0 (by decide) (hNX.use rm_285 rfl) (fun _ h9 => h9) rfl (by decide +kernel) (by rcases hbo with h9 | h9 <;> rw [h9] <;> rfl) (by rcases hbo with h9 | h9 <;> rw [h9] <;> rfl) (Nat.le_of_ble_eq_true rfl) rd_M_move_146 (fun H locs hP hD hS => ?_)
        have hP : va_P (dC, dI) vwCl (rC cI r ((V 0)) ((V 1)) (A2 + A1) ((V 3)) ((V 4)) ((V 5)) ((V 6)) (A1) (U1) (A2 + A1) (U2) ((J 0)) ((J 1)) (g_3) ((J 3)) ((J 4)) ((J 5)) ((J 6)) ((J 7)) ((J 8)) (g_5) ((J 10)) (pb) (pe) (ob) (oe) (b1) (e1) (b2) (e2)) H := hP
        have hD : va_D (ef_A (rC cI r ((V 0)) ((V 1)) ((V 2)) ((V 3)) ((V 4)) ((V 5)) ((V 6)) (A1) (U1) (A2) (U2) ((J 0)) ((J 1)) ((J 2)) ((J 3)) ((J 4)) ((J 5)) ((J 6)) ((J 7)) ((J 8)) ((J 9)) ((J 10)) (pb) (pe) (ob) (oe) (b1) (e1) (b2) (e2))) (rC cI r ((V 0)) ((V 1)) (A2 + A1) ((V 3)) ((V 4)) ((V 5)) ((V 6)) (A1) (U1) (A2 + A1) (U2) ((J 0)) ((J 1)) (g_3) ((J 3)) ((J 4)) ((J 5)) ((J 6)) ((J 7)) ((J 8)) (g_5) ((J 10)) (pb) (pe) (ob) (oe) (b1) (e1) (b2) (e2)) := hD
        refine lv_aload_n hx hb rd_M_move_149 rfl (lv_at hl 2 rfl) ?_
        refine va_getN (D := (dC, dI)) (ci := 4) (v := .ref (r 23)) (C := rR4) (T := rT4) (N := 4) hx hb hts (fun w h => List.mem_cons_of_mem _ (rin4 w h)) hown hK hP 4 rfl rfl 1 (by decide) (hNX.use rm_287 rfl) (fun _ h9 => h9) rfl rd_M_move_150 ?_
        refine ef_callV (As := []) (rest := []) ⟨hx, hb, hml, hown, hts⟩ (b_bits l dC dI ht (isB_c (X := A2 + A1) (F := g_5) (ws := rC cI r ((V 0)) ((V 1)) (A2 + A1) ((V 3)) ((V 4)) ((V 5)) ((V 6)) (A1) (U1) (A2 + A1) (U2) ((J 0)) ((J 1)) (g_3) ((J 3)) ((J 4)) ((J 5)) ((J 6)) ((J 7)) ((J 8)) (g_5) ((J 10)) (pb) (pe) (ob) (oe) (b1) (e1) (b2) (e2)) (k0 := 23) (k1 := 24) (by decide) rfl rfl) hg_6.1 hg_6.2) (cwV 0 hts (ef_goodV rm_360 rm_361 rm_362 rm_25 rm_363) rfl rfl rfl (by decide +kernel) ⟨Nat.le_of_ble_eq_true rfl, Nat.le_of_ble_eq_true rfl⟩) hK hNX hP hD hS 23 rfl rfl rfl rfl hl.1 rfl (Nat.le_of_ble_eq_true rfl) rd_M_move_153 ⟨Nat.zero_le _, Nat.zero_le _⟩ (fun o w1 H locs hq hP hD hS => ?_)
        obtain ⟨rfl, e9⟩ := hq
        rw [e9] at hP hD
        refine W.eq (g2 := F0 m 156 ls [.int (iv ((bl (A2 + A1) : Int)))]) rfl ?_
        exact ef_iret hx hb hr hlocks hP hD hS rd_M_move_156 (⟨fun i => [((V 0)), ((V 1)), (A2 + A1), ((V 3)), ((V 4)), ((V 5)), ((V 6))].getD i 0, fun i => [((J 0)), ((J 1)), (g_3), ((J 3)), ((J 4)), ((J 5)), ((J 6)), ((J 7)), ((J 8)), (g_5), ((J 10))].getD i (fun _ => 0), _, _, _, _, rfl, rfl, rJ_of (hJ 0 (by decide)) (hJ 1 (by decide)) hg_4 (hJ 3 (by decide)) (hJ 4 (by decide)) (hJ 5 (by decide)) (hJ 6 (by decide)), kA1, kU1, hg_6, kU2⟩)
      ·
        exact absurd c5 (by omega)
  ·
    exact absurd k1 (by decide)

set_option maxRecDepth 100000 in
set_option maxHeartbeats 4000000 in
/-- move -/
theorem r_move1ge (l : Launch) (dC : Nat → ClassId) (dI : Nat → Nat → Nat) {cI : ClassId} {tys : List (ClassId × FieldType)} (ht : tys[0]? = some (cI, .int)) (r : Nat → Nat) {V : Nat → Nat} {J : Nat → Nat → Nat} {A1 U1 A2 U2 : Nat} {pb pe ob oe b1 e1 b2 e2 : Int} (hJ : rJ V J) (kA1 : bk A1 (J 7)) (kU1 : bk U1 (J 8)) (kA2 : bk A2 (J 9)) (kU2 : bk U2 (J 10)) (mA1 : dn A1 ≤ 300) (mU1 : dn U1 ≤ 300) (mA2 : dn A2 ≤ 300) (mU2 : dn U2 ≤ 300) (hba : bl A1 ≤ 4800) (hbb : bl A2 ≤ 4800) (dw : Int) (hdn : dw = 0 ∨ dw = 1) (hbo : b2 = 0 ∨ b2 = 1) (hd : b2 ≠ dw) (hle : A1 ≤ A2) : ef_C l ry_M_move rw_M_move ({ frames := 2, cells := 0, slots := 0, locals := 44 } : Room) [.ref (r 0), .int (iv (1)), .int (iv (dw))] (dC, dI) vwCl tys (rC cI r ((V 0)) ((V 1)) ((V 2)) ((V 3)) ((V 4)) ((V 5)) ((V 6)) (A1) (U1) (A2) (U2) ((J 0)) ((J 1)) ((J 2)) ((J 3)) ((J 4)) ((J 5)) ((J 6)) ((J 7)) ((J 8)) ((J 9)) ((J 10)) (pb) (pe) (ob) (oe) (b1) (e1) (b2) (e2)) (fun o w1 => ∃ (V2 : Nat → Nat) (J2 : Nat → Nat → Nat) (pb2 pe2 ob2 oe2 : Int), o = some (.int (iv (bl (A2 - A1) : Int))) ∧ w1 = rC cI r (V2 0) (V2 1) (V2 2) (V2 3) (V2 4) (V2 5) (V2 6) (A1) (U1) (A2 - A1) (U2) (J2 0) (J2 1) (J2 2) (J2 3) (J2 4) (J2 5) (J2 6) (J2 7) (J2 8) (J2 9) (J2 10) (pb2) (pe2) (ob2) (oe2) (b1) (e1) (b2) (e2) ∧ rJ V2 J2 ∧ bk (A1) (J2 7) ∧ bk (U1) (J2 8) ∧ bk (A2 - A1) (J2 9) ∧ bk (U2) (J2 10)) := by
  refine ef_C.of (cc := rc_M_move) (maxL := 6) (ret := (some .int)) (by decide) rfl (Nat.le_of_ble_eq_true rfl) ?_
  intro p e s m below meth c ls hx hb hml hr hts hown hlocks hK hNX hP hD hS hl
  have hl : lv_has ls 6 [(0, .ref (r 0)), (1, .int (iv (1))), (2, .int (iv (dw)))] := hl
  have hown : s.vm.findClass rR5 = some m.cls := hown
  generalize hH : s.heap = H at hP ⊢
  have hS : va_S (ef_A (rC cI r ((V 0)) ((V 1)) ((V 2)) ((V 3)) ((V 4)) ((V 5)) ((V 6)) (A1) (U1) (A2) (U2) ((J 0)) ((J 1)) ((J 2)) ((J 3)) ((J 4)) ((J 5)) ((J 6)) ((J 7)) ((J 8)) ((J 9)) ((J 10)) (pb) (pe) (ob) (oe) (b1) (e1) (b2) (e2))) s.heap H [] := by rw [← hH]; exact hS
  generalize ([] : List Loc) = locs at hS ⊢
  have hdr : ir dw := by rcases hdn with h | h <;> rw [h] <;> exact ⟨by decide, by decide⟩
  have hbr : ir b2 := by rcases hbo with h | h <;> rw [h] <;> exact ⟨by decide, by decide⟩
  have hb4 : bl (A2 - A1) ≤ 4800 := Nat.le_trans (bl_mono (Nat.sub_le _ _)) hbb
  have hdv : dn (A2 - A1) ≤ 301 := Nat.le_succ_of_le (dn_bl (k := 300) (by omega))
  have hbd : bl (A2 - A1) ≤ 16 * 301 := bl_le (Nat.lt_of_lt_of_le (dn_lt _) (Nat.pow_le_pow_right (by decide) (by omega)))
  refine lv_iload_n hx hb rd_M_move_0 rfl (lv_at hl 1 rfl) ?_
  refine ef_callS (As := [.int (iv (1))]) (rest := []) ⟨hx, hb, hml, hown, hts⟩ (r_isNumber1 l dC dI ht r) (cwS 1 hts (ef_goodS rm_336 rm_337 rm_24 rm_338) rfl rfl rfl (by decide +kernel) ⟨Nat.le_of_ble_eq_true rfl, Nat.le_of_ble_eq_true rfl⟩) hK hNX hP hD hS rfl hl.1 rfl (Nat.le_of_ble_eq_true rfl) rd_M_move_1 ⟨Nat.zero_le _, Nat.zero_le _⟩ (fun o w1 H locs hq hP hD hS => ?_)
  obtain ⟨rfl, e9⟩ := hq
  rw [e9] at hP hD
  refine W.eq (g2 := F0 m 4 ls [.int (iv (1))]) rfl ?_
  refine iw_if_ne (tgt := 9) hx hb rd_M_move_4 (by decide) ⟨by omega, by omega⟩ (fun k1 => ?_) (fun k1 => ?_)
  ·
    refine lv_aload_n hx hb rd_M_move_9 rfl (lv_at hl 0 rfl) ?_
    refine lv_iload_n hx hb rd_M_move_10 rfl (lv_at hl 1 rfl) ?_
    refine ef_callV (As := [.int (iv (1))]) (rest := []) ⟨hx, hb, hml, hown, hts⟩ (r_numberOf1 l dC dI ht r) (cwV 1 hts (ef_goodV rm_339 rm_341 rm_12 rm_24 rm_342) rfl rfl rfl (by decide +kernel) ⟨Nat.le_of_ble_eq_true rfl, Nat.le_of_ble_eq_true rfl⟩) hK hNX hP hD hS 0 rfl rfl rfl rfl hl.1 rfl (Nat.le_of_ble_eq_true rfl) rd_M_move_11 ⟨Nat.zero_le _, Nat.zero_le _⟩ (fun o w1 H locs hq hP hD hS => ?_)
    obtain ⟨rfl, e9⟩ := hq
    rw [e9] at hP hD
    refine W.eq (g2 := F0 m 14 ls [.ref (r 4)]) rfl ?_
    refine lv_astore_n (lv' := [(3, .ref (r 4)), (0, .ref (r 0)), (1, .int (iv (1))), (2, .int (iv (dw)))]) hx hb rd_M_move_14 rfl hl (by decide) rfl (fun ls hl => ?_)
    refine lv_aload_n hx hb rd_M_move_15 rfl (lv_at hl 1 rfl) ?_
    refine lv_iconst (v := iv (1)) hx hb rd_M_move_16 (by decide) ?_
    refine lv_iload_n hx hb rd_M_move_17 rfl (lv_at hl 2 rfl) ?_
    refine iw_isub hx hb rd_M_move_18 ?_
    refine iw_topi (y := iv (0)) (congrArg iv (by rfl : (((1) - (1)) : Int) = (0))) ?_
    refine lv_iconst (v := iv (0)) hx hb rd_M_move_19 (by decide) ?_
    refine ef_callV (As := [.int (iv (0)), .int (iv (0))]) (rest := []) ⟨hx, hb, hml, hown, hts⟩ (r_partOf00 l dC dI ht r) (cwV 2 hts (ef_goodV rm_348 rm_350 rm_13 rm_24 rm_351) rfl rfl rfl (by decide +kernel) ⟨Nat.le_of_ble_eq_true rfl, Nat.le_of_ble_eq_true rfl⟩) hK hNX hP hD hS 0 rfl rfl rfl rfl hl.1 rfl (Nat.le_of_ble_eq_true rfl) rd_M_move_20 ⟨Nat.zero_le _, Nat.zero_le _⟩ (fun o w1 H locs hq hP hD hS => ?_)
    obtain ⟨rfl, e9⟩ := hq
    rw [e9] at hP hD
    refine W.eq (g2 := F0 m 23 ls [.ref (r 19)]) rfl ?_
    refine lv_astore (lv' := [(4, .ref (r 19)), (3, .ref (r 4)), (0, .ref (r 0)), (1, .int (iv (1))), (2, .int (iv (dw)))]) hx hb rd_M_move_23 hl (by decide) rfl (fun ls hl => ?_)
    refine lv_aload_n hx hb rd_M_move_25 rfl (lv_at hl 2 rfl) ?_
    refine va_get (D := (dC, dI)) (ci := 5) (v := .ref (r 9)) (C := rR5) (T := rT5) (N := 7) hx hb hts (fun w h => List.mem_cons_of_mem _ (rin5 w h)) hown hK hP 0 rfl rfl 6 (by decide) (hts _ (List.mem_cons_of_mem _ rm_316)) (fun _ h9 => h9) rfl rd_M_move_26 ?_
    refine lv_aload_n hx hb rd_M_move_29 rfl (lv_at hl 1 rfl) ?_
    refine va_getN (D := (dC, dI)) (ci := 4) (v := .ref (r 23)) (C := rR4) (T := rT4) (N := 4) hx hb hts (fun w h => List.mem_cons_of_mem _ (rin4 w h)) hown hK hP 4 rfl rfl 1 (by decide) (hNX.use rm_287 rfl) (fun _ h9 => h9) rfl rd_M_move_30 ?_
    refine ef_callV (As := [.ref (r 23)]) (rest := []) ⟨hx, hb, hml, hown, hts⟩ (b_copy l dC dI ht (isB_c (X := (V 2)) (F := (J 2)) (ws := rC cI r ((V 0)) ((V 1)) ((V 2)) ((V 3)) ((V 4)) ((V 5)) ((V 6)) (A1) (U1) (A2) (U2) ((J 0)) ((J 1)) ((J 2)) ((J 3)) ((J 4)) ((J 5)) ((J 6)) ((J 7)) ((J 8)) ((J 9)) ((J 10)) (pb) (pe) (ob) (oe) (b1) (e1) (b2) (e2)) (k0 := 9) (k1 := 10) (by decide) rfl rfl) (isB_c (X := A2) (F := (J 9)) (ws := rC cI r ((V 0)) ((V 1)) ((V 2)) ((V 3)) ((V 4)) ((V 5)) ((V 6)) (A1) (U1) (A2) (U2) ((J 0)) ((J 1)) ((J 2)) ((J 3)) ((J 4)) ((J 5)) ((J 6)) ((J 7)) ((J 8)) ((J 9)) ((J 10)) (pb) (pe) (ob) (oe) (b1) (e1) (b2) (e2)) (k0 := 23) (k1 := 24) (by decide) rfl rfl) kA2.1 kA2.2 (apt_c (k0 := 9) (k1 := 10) (j0 := 23) (j1 := 24) rfl)) (cwV 1 hts (ef_goodV rm_352 rm_353 rm_354 rm_25 rm_355) rfl rfl rfl (by decide +kernel) ⟨Nat.le_of_ble_eq_true rfl, Nat.le_of_ble_eq_true rfl⟩) hK hNX hP hD hS 9 rfl rfl rfl rfl hl.1 rfl (Nat.le_of_ble_eq_true rfl) rd_M_move_33 ⟨Nat.zero_le _, Nat.zero_le _⟩ (fun o w1 H locs hq hP hD hS => ?_)
    obtain ⟨rfl, g_1, rfl, hg_2⟩ := hq
    have hP : va_P (dC, dI) vwCl (rC cI r ((V 0)) ((V 1)) (A2) ((V 3)) ((V 4)) ((V 5)) ((V 6)) (A1) (U1) (A2) (U2) ((J 0)) ((J 1)) (g_1) ((J 3)) ((J 4)) ((J 5)) ((J 6)) ((J 7)) ((J 8)) ((J 9)) ((J 10)) (pb) (pe) (ob) (oe) (b1) (e1) (b2) (e2)) H := hP
    have hD : va_D (ef_A (rC cI r ((V 0)) ((V 1)) ((V 2)) ((V 3)) ((V 4)) ((V 5)) ((V 6)) (A1) (U1) (A2) (U2) ((J 0)) ((J 1)) ((J 2)) ((J 3)) ((J 4)) ((J 5)) ((J 6)) ((J 7)) ((J 8)) ((J 9)) ((J 10)) (pb) (pe) (ob) (oe) (b1) (e1) (b2) (e2))) (rC cI r ((V 0)) ((V 1)) (A2) ((V 3)) ((V 4)) ((V 5)) ((V 6)) (A1) (U1) (A2) (U2) ((J 0)) ((J 1)) (g_1) ((J 3)) ((J 4)) ((J 5)) ((J 6)) ((J 7)) ((J 8)) ((J 9)) ((J 10)) (pb) (pe) (ob) (oe) (b1) (e1) (b2) (e2)) := hD
    have hg_2 : bk (A2) g_1 := ⟨hg_2, kA2.2⟩
    refine W.eq (g2 := F0 m 36 ls []) rfl ?_
    refine lv_aload_n hx hb rd_M_move_36 rfl (lv_at hl 1 rfl) ?_
    refine va_getN (D := (dC, dI)) (ci := 4) (v := .int (iv (b2))) (C := rR4) (T := rT4) (N := 4) hx hb hts (fun w h => List.mem_cons_of_mem _ (rin4 w h)) hown hK hP 4 rfl rfl 0 (by decide) (hNX.use rm_285 rfl) (fun _ h9 => h9) rfl rd_M_move_37 ?_
    refine lv_istore (lv' := [(5, .int (iv (b2))), (4, .ref (r 19)), (3, .ref (r 4)), (0, .ref (r 0)), (1, .int (iv (1))), (2, .int (iv (dw)))]) hx hb rd_M_move_40 hl (by decide) rfl (fun ls hl => ?_)
    refine lv_iload hx hb rd_M_move_42 (lv_at hl 0 rfl) ?_
    refine lv_iload_n hx hb rd_M_move_44 rfl (lv_at hl 5 rfl) ?_
    refine iw_icmp_ne (tgt := 60) hx hb rd_M_move_45 (by decide) (hbr) (hdr) (fun c2 => ?_) (fun c2 => ?_)
    ·
      refine lv_aload_n hx hb rd_M_move_60 rfl (lv_at hl 3 rfl) ?_
      refine va_get (D := (dC, dI)) (ci := 5) (v := .ref (r 9)) (C := rR5) (T := rT5) (N := 7) hx hb hts (fun w h => List.mem_cons_of_mem _ (rin5 w h)) hown hK hP 0 rfl rfl 6 (by decide) (hts _ (List.mem_cons_of_mem _ rm_316)) (fun _ h9 => h9) rfl rd_M_move_61 ?_
      refine lv_aload hx hb rd_M_move_64 (lv_at hl 1 rfl) ?_
      refine ef_callV (As := [.ref (r 19)]) (rest := []) ⟨hx, hb, hml, hown, hts⟩ (b_compare l dC dI ht (isB_c (X := A2) (F := g_1) (ws := rC cI r ((V 0)) ((V 1)) (A2) ((V 3)) ((V 4)) ((V 5)) ((V 6)) (A1) (U1) (A2) (U2) ((J 0)) ((J 1)) (g_1) ((J 3)) ((J 4)) ((J 5)) ((J 6)) ((J 7)) ((J 8)) ((J 9)) ((J 10)) (pb) (pe) (ob) (oe) (b1) (e1) (b2) (e2)) (k0 := 9) (k1 := 10) (by decide) rfl rfl) hg_2.1 hg_2.2 (isB_c (X := A1) (F := (J 7)) (ws := rC cI r ((V 0)) ((V 1)) (A2) ((V 3)) ((V 4)) ((V 5)) ((V 6)) (A1) (U1) (A2) (U2) ((J 0)) ((J 1)) (g_1) ((J 3)) ((J 4)) ((J 5)) ((J 6)) ((J 7)) ((J 8)) ((J 9)) ((J 10)) (pb) (pe) (ob) (oe) (b1) (e1) (b2) (e2)) (k0 := 19) (k1 := 20) (by decide) rfl rfl) kA1.1 kA1.2) (cwV 1 hts (ef_goodV rm_386 rm_387 rm_388 rm_25 rm_389) rfl rfl rfl (by decide +kernel) ⟨Nat.le_of_ble_eq_true rfl, Nat.le_of_ble_eq_true rfl⟩) hK hNX hP hD hS 9 rfl rfl rfl rfl hl.1 rfl (Nat.le_of_ble_eq_true rfl) rd_M_move_66 ⟨Nat.zero_le _, Nat.zero_le _⟩ (fun o w1 H locs hq hP hD hS => ?_)
      obtain ⟨rfl, e9⟩ := hq
      rw [e9] at hP hD
      refine W.eq (g2 := F0 m 69 ls [.int (iv (zc A2 A1))]) rfl ?_
      refine iw_if_lt (tgt := 84) hx hb rd_M_move_69 (by decide) (ir_zc _ _) (fun c3 => ?_) (fun c3 => ?_)
      ·
        exact absurd ((zc_ge _ _).2 (by omega : ((A1 : Nat) : Int) ≤ ((A2 : Nat) : Int))) (by omega)
      ·
        refine lv_aload_n hx hb rd_M_move_72 rfl (lv_at hl 3 rfl) ?_
        refine va_get (D := (dC, dI)) (ci := 5) (v := .ref (r 9)) (C := rR5) (T := rT5) (N := 7) hx hb hts (fun w h => List.mem_cons_of_mem _ (rin5 w h)) hown hK hP 0 rfl rfl 6 (by decide) (hts _ (List.mem_cons_of_mem _ rm_316)) (fun _ h9 => h9) rfl rd_M_move_73 ?_
        refine lv_aload hx hb rd_M_move_76 (lv_at hl 1 rfl) ?_
        refine ef_callV (As := [.ref (r 19)]) (rest := []) ⟨hx, hb, hml, hown, hts⟩ (b_subtract l dC dI ht (isB_c (X := A2) (F := g_1) (ws := rC cI r ((V 0)) ((V 1)) (A2) ((V 3)) ((V 4)) ((V 5)) ((V 6)) (A1) (U1) (A2) (U2) ((J 0)) ((J 1)) (g_1) ((J 3)) ((J 4)) ((J 5)) ((J 6)) ((J 7)) ((J 8)) ((J 9)) ((J 10)) (pb) (pe) (ob) (oe) (b1) (e1) (b2) (e2)) (k0 := 9) (k1 := 10) (by decide) rfl rfl) hg_2.1 hg_2.2 (isB_c (X := A1) (F := (J 7)) (ws := rC cI r ((V 0)) ((V 1)) (A2) ((V 3)) ((V 4)) ((V 5)) ((V 6)) (A1) (U1) (A2) (U2) ((J 0)) ((J 1)) (g_1) ((J 3)) ((J 4)) ((J 5)) ((J 6)) ((J 7)) ((J 8)) ((J 9)) ((J 10)) (pb) (pe) (ob) (oe) (b1) (e1) (b2) (e2)) (k0 := 19) (k1 := 20) (by decide) rfl rfl) kA1.1 kA1.2 (apt_c (k0 := 9) (k1 := 10) (j0 := 19) (j1 := 20) rfl) (by omega)) (cwV 1 hts (ef_goodV rm_390 rm_391 rm_392 rm_25 rm_393) rfl rfl rfl (by decide +kernel) ⟨Nat.le_of_ble_eq_true rfl, Nat.le_of_ble_eq_true rfl⟩) hK hNX hP hD hS 9 rfl rfl rfl rfl hl.1 rfl (Nat.le_of_ble_eq_true rfl) rd_M_move_78 ⟨Nat.zero_le _, Nat.zero_le _⟩ (fun o w1 H locs hq hP hD hS => ?_)
        obtain ⟨rfl, g_3, rfl, hg_4⟩ := hq
        have hP : va_P (dC, dI) vwCl (rC cI r ((V 0)) ((V 1)) (A2 - A1) ((V 3)) ((V 4)) ((V 5)) ((V 6)) (A1) (U1) (A2) (U2) ((J 0)) ((J 1)) (g_3) ((J 3)) ((J 4)) ((J 5)) ((J 6)) ((J 7)) ((J 8)) ((J 9)) ((J 10)) (pb) (pe) (ob) (oe) (b1) (e1) (b2) (e2)) H := hP
        have hD : va_D (ef_A (rC cI r ((V 0)) ((V 1)) ((V 2)) ((V 3)) ((V 4)) ((V 5)) ((V 6)) (A1) (U1) (A2) (U2) ((J 0)) ((J 1)) ((J 2)) ((J 3)) ((J 4)) ((J 5)) ((J 6)) ((J 7)) ((J 8)) ((J 9)) ((J 10)) (pb) (pe) (ob) (oe) (b1) (e1) (b2) (e2))) (rC cI r ((V 0)) ((V 1)) (A2 - A1) ((V 3)) ((V 4)) ((V 5)) ((V 6)) (A1) (U1) (A2) (U2) ((J 0)) ((J 1)) (g_3) ((J 3)) ((J 4)) ((J 5)) ((J 6)) ((J 7)) ((J 8)) ((J 9)) ((J 10)) (pb) (pe) (ob) (oe) (b1) (e1) (b2) (e2)) := hD
        have hg_4 : bk (A2 - A1) g_3 := ⟨hg_4, by omega⟩
        refine W.eq (g2 := F0 m 81 ls []) rfl ?_
        refine lv_goto (tgt := 116) hx hb rd_M_move_81 (by decide) ?_
        refine lv_aload_n hx hb rd_M_move_116 rfl (lv_at hl 3 rfl) ?_
        refine va_get (D := (dC, dI)) (ci := 5) (v := .ref (r 9)) (C := rR5) (T := rT5) (N := 7) hx hb hts (fun w h => List.mem_cons_of_mem _ (rin5 w h)) hown hK hP 0 rfl rfl 6 (by decide) (hts _ (List.mem_cons_of_mem _ rm_316)) (fun _ h9 => h9) rfl rd_M_move_117 ?_
        refine ef_callV (As := []) (rest := []) ⟨hx, hb, hml, hown, hts⟩ (b_bits l dC dI ht (isB_c (X := A2 - A1) (F := g_3) (ws := rC cI r ((V 0)) ((V 1)) (A2 - A1) ((V 3)) ((V 4)) ((V 5)) ((V 6)) (A1) (U1) (A2) (U2) ((J 0)) ((J 1)) (g_3) ((J 3)) ((J 4)) ((J 5)) ((J 6)) ((J 7)) ((J 8)) ((J 9)) ((J 10)) (pb) (pe) (ob) (oe) (b1) (e1) (b2) (e2)) (k0 := 9) (k1 := 10) (by decide) rfl rfl) hg_4.1 hg_4.2) (cwV 0 hts (ef_goodV rm_360 rm_361 rm_362 rm_25 rm_363) rfl rfl rfl (by decide +kernel) ⟨Nat.le_of_ble_eq_true rfl, Nat.le_of_ble_eq_true rfl⟩) hK hNX hP hD hS 9 rfl rfl rfl rfl hl.1 rfl (Nat.le_of_ble_eq_true rfl) rd_M_move_120 ⟨Nat.zero_le _, Nat.zero_le _⟩ (fun o w1 H locs hq hP hD hS => ?_)
        obtain ⟨rfl, e9⟩ := hq
        rw [e9] at hP hD
        refine W.eq (g2 := F0 m 123 ls [.int (iv ((bl (A2 - A1) : Int)))]) rfl ?_
        refine lv_sipush (v := iv (4800)) hx hb rd_M_move_123 (by decide) ?_
        refine iw_icmp_le (tgt := 132) hx hb rd_M_move_126 (by decide) ⟨by omega, by omega⟩ ⟨by omega, by omega⟩ (fun c5 => ?_) (fun c5 => ?_)
        ·
          refine lv_aload_n hx hb rd_M_move_132 rfl (lv_at hl 2 rfl) ?_
          refine va_getN (D := (dC, dI)) (ci := 4) (v := .ref (r 23)) (C := rR4) (T := rT4) (N := 4) hx hb hts (fun w h => List.mem_cons_of_mem _ (rin4 w h)) hown hK hP 4 rfl rfl 1 (by decide) (hNX.use rm_287 rfl) (fun _ h9 => h9) rfl rd_M_move_133 ?_
          refine lv_aload_n hx hb rd_M_move_136 rfl (lv_at hl 3 rfl) ?_
          refine va_get (D := (dC, dI)) (ci := 5) (v := .ref (r 9)) (C := rR5) (T := rT5) (N := 7) hx hb hts (fun w h => List.mem_cons_of_mem _ (rin5 w h)) hown hK hP 0 rfl rfl 6 (by decide) (hts _ (List.mem_cons_of_mem _ rm_316)) (fun _ h9 => h9) rfl rd_M_move_137 ?_
          refine ef_callV (As := [.ref (r 9)]) (rest := []) ⟨hx, hb, hml, hown, hts⟩ (b_copy l dC dI ht (isB_c (X := A2) (F := (J 9)) (ws := rC cI r ((V 0)) ((V 1)) (A2 - A1) ((V 3)) ((V 4)) ((V 5)) ((V 6)) (A1) (U1) (A2) (U2) ((J 0)) ((J 1)) (g_3) ((J 3)) ((J 4)) ((J 5)) ((J 6)) ((J 7)) ((J 8)) ((J 9)) ((J 10)) (pb) (pe) (ob) (oe) (b1) (e1) (b2) (e2)) (k0 := 23) (k1 := 24) (by decide) rfl rfl) (isB_c (X := A2 - A1) (F := g_3) (ws := rC cI r ((V 0)) ((V 1)) (A2 - A1) ((V 3)) ((V 4)) ((V 5)) ((V 6)) (A1) (U1) (A2) (U2) ((J 0)) ((J 1)) (g_3) ((J 3)) ((J 4)) ((J 5)) ((J 6)) ((J 7)) ((J 8)) ((J 9)) ((J 10)) (pb) (pe) (ob) (oe) (b1) (e1) (b2) (e2)) (k0 := 9) (k1 := 10) (by decide) rfl rfl) hg_4.1 hg_4.2 (apt_c (k0 := 23) (k1 := 24) (j0 := 9) (j1 := 10) rfl)) (cwV 1 hts (ef_goodV rm_352 rm_353 rm_354 rm_25 rm_355) rfl rfl rfl (by decide +kernel) ⟨Nat.le_of_ble_eq_true rfl, Nat.le_of_ble_eq_true rfl⟩) hK hNX hP hD hS 23 rfl rfl rfl rfl hl.1 rfl (Nat.le_of_ble_eq_true rfl) rd_M_move_140 ⟨Nat.zero_le _, Nat.zero_le _⟩ (fun o w1 H locs hq hP hD hS => ?_)
          obtain ⟨rfl, g_5, rfl, hg_6⟩ := hq
          have hP : va_P (dC, dI) vwCl (rC cI r ((V 0)) ((V 1)) (A2 - A1) ((V 3)) ((V 4)) ((V 5)) ((V 6)) (A1) (U1) (A2 - A1) (U2) ((J 0)) ((J 1)) (g_3) ((J 3)) ((J 4)) ((J 5)) ((J 6)) ((J 7)) ((J 8)) (g_5) ((J 10)) (pb) (pe) (ob) (oe) (b1) (e1) (b2) (e2)) H := hP
          have hD : va_D (ef_A (rC cI r ((V 0)) ((V 1)) ((V 2)) ((V 3)) ((V 4)) ((V 5)) ((V 6)) (A1) (U1) (A2) (U2) ((J 0)) ((J 1)) ((J 2)) ((J 3)) ((J 4)) ((J 5)) ((J 6)) ((J 7)) ((J 8)) ((J 9)) ((J 10)) (pb) (pe) (ob) (oe) (b1) (e1) (b2) (e2))) (rC cI r ((V 0)) ((V 1)) (A2 - A1) ((V 3)) ((V 4)) ((V 5)) ((V 6)) (A1) (U1) (A2 - A1) (U2) ((J 0)) ((J 1)) (g_3) ((J 3)) ((J 4)) ((J 5)) ((J 6)) ((J 7)) ((J 8)) (g_5) ((J 10)) (pb) (pe) (ob) (oe) (b1) (e1) (b2) (e2)) := hD
          have hg_6 : bk (A2 - A1) g_5 := ⟨hg_6, hg_4.2⟩
          refine W.eq (g2 := F0 m 143 ls []) rfl ?_
          refine lv_aload_n hx hb rd_M_move_143 rfl (lv_at hl 2 rfl) ?_
          refine lv_iload hx hb rd_M_move_144 (lv_at hl 0 rfl) ?_
          refine va_putN (D := (dC, dI)) (ci := 4) (v := .int (iv (b2))) (ty := .boolean) (C := rR4) (T := rT4) (N := 4) hx hb hts (fun w h => List.mem_cons_of_mem _ (rin4 w h)) rty4 rtyok4 rnm4 hown hK hP hD hS 4 rfl rfl 0 (by decide) (hNX.use rm_285 rfl) (fun _ h9 => h9) rfl (by decide +kernel) (by rcases hbo with h9 | h9 <;> rw [h9] <;> rfl) (by rcases hbo with h9 | h9 <;> rw [h9] <;> rfl) (Nat.le_of_ble_eq_true rfl) rd_M_move_146 (fun H locs hP hD hS => ?_)
          have hP : va_P (dC, dI) vwCl (rC cI r ((V 0)) ((V 1)) (A2 - A1) ((V 3)) ((V 4)) ((V 5)) ((V 6)) (A1) (U1) (A2 - A1) (U2) ((J 0)) ((J 1)) (g_3) ((J 3)) ((J 4)) ((J 5)) ((J 6)) ((J 7)) ((J 8)) (g_5) ((J 10)) (pb) (pe) (ob) (oe) (b1) (e1) (b2) (e2)) H := hP
          have hD : va_D (ef_A (rC cI r ((V 0)) ((V 1)) ((V 2)) ((V 3)) ((V 4)) ((V 5)) ((V 6)) (A1) (U1) (A2) (U2) ((J 0)) ((J 1)) ((J 2)) ((J 3)) ((J 4)) ((J 5)) ((J 6)) ((J 7)) ((J 8)) ((J 9)) ((J 10)) (pb) (pe) (ob) (oe) (b1) (e1) (b2) (e2))) (rC cI r ((V 0)) ((V 1)) (A2 - A1) ((V 3)) ((V 4)) ((V 5)) ((V 6)) (A1) (U1) (A2 - A1) (U2) ((J 0)) ((J 1)) (g_3) ((J 3)) ((J 4)) ((J 5)) ((J 6)) ((J 7)) ((J 8)) (g_5) ((J 10)) (pb) (pe) (ob) (oe) (b1) (e1) (b2) (e2)) := hD
          refine lv_aload_n hx hb rd_M_move_149 rfl (lv_at hl 2 rfl) ?_
          refine va_getN (D := (dC, dI)) (ci := 4) (v := .ref (r 23)) (C := rR4) (T := rT4) (N := 4) hx hb hts (fun w h => List.mem_cons_of_mem _ (rin4 w h)) hown hK hP 4 rfl rfl 1 (by decide) (hNX.use rm_287 rfl) (fun _ h9 => h9) rfl rd_M_move_150 ?_
          refine ef_callV (As := []) (rest := []) ⟨hx, hb, hml, hown, hts⟩ (b_bits l dC dI ht (isB_c (X := A2 - A1) (F := g_5) (ws := rC cI r ((V 0)) ((V 1)) (A2 - A1) ((V 3)) ((V 4)) ((V 5)) ((V 6)) (A1) (U1) (A2 - A1) (U2) ((J 0)) ((J 1)) (g_3) ((J 3)) ((J 4)) ((J 5)) ((J 6)) ((J 7)) ((J 8)) (g_5) ((J 10)) (pb) (pe) (ob) (oe) (b1) (e1) (b2) (e2)) (k0 := 23) (k1 := 24) (by decide) rfl rfl) hg_6.1 hg_6.2) (cwV 0 hts (ef_goodV rm_360 rm_361 rm_362 rm_25 rm_363) rfl rfl rfl (by decide +kernel) ⟨Nat.le_of_ble_eq_true rfl, Nat.le_of_ble_eq_true rfl⟩) hK hNX hP hD hS 23 rfl rfl rfl rfl hl.1 rfl (Nat.le_of_ble_eq_true rfl) rd_M_move_153 ⟨Nat.zero_le _, Nat.zero_le _⟩ (fun o w1 H locs hq hP hD hS => ?_)
          obtain ⟨rfl, e9⟩ := hq
          rw [e9] at hP hD
          refine W.eq (g2 := F0 m 156 ls [.int (iv ((bl (A2 - A1) : Int)))]) rfl ?_
          exact ef_iret hx hb hr hlocks hP hD hS rd_M_move_156 (⟨fun i => [((V 0)), ((V 1)), (A2 - A1), ((V 3)), ((V 4)), ((V 5)), ((V 6))].getD i 0, fun i => [((J 0)), ((J 1)), (g_3), ((J 3)), ((J 4)), ((J 5)), ((J 6)), ((J 7)), ((J 8)), (g_5), ((J 10))].getD i (fun _ => 0), _, _, _, _, rfl, rfl, rJ_of (hJ 0 (by decide)) (hJ 1 (by decide)) hg_4 (hJ 3 (by decide)) (hJ 4 (by decide)) (hJ 5 (by decide)) (hJ 6 (by decide)), kA1, kU1, hg_6, kU2⟩)
        ·
          exact absurd c5 (by omega)
    ·
      exact absurd c2 hd
  ·
    exact absurd k1 (by decide)

set_option maxRecDepth 100000 in
set_option maxHeartbeats 4000000 in
/-- move -/
theorem r_move1lt (l : Launch) (dC : Nat → ClassId) (dI : Nat → Nat → Nat) {cI : ClassId} {tys : List (ClassId × FieldType)} (ht : tys[0]? = some (cI, .int)) (r : Nat → Nat) {V : Nat → Nat} {J : Nat → Nat → Nat} {A1 U1 A2 U2 : Nat} {pb pe ob oe b1 e1 b2 e2 : Int} (hJ : rJ V J) (kA1 : bk A1 (J 7)) (kU1 : bk U1 (J 8)) (kA2 : bk A2 (J 9)) (kU2 : bk U2 (J 10)) (mA1 : dn A1 ≤ 300) (mU1 : dn U1 ≤ 300) (mA2 : dn A2 ≤ 300) (mU2 : dn U2 ≤ 300) (hba : bl A1 ≤ 4800) (hbb : bl A2 ≤ 4800) (dw : Int) (hdn : dw = 0 ∨ dw = 1) (hbo : b2 = 0 ∨ b2 = 1) (hd : b2 ≠ dw) (hle : A2 < A1) : ef_C l ry_M_move rw_M_move ({ frames := 2, cells := 0, slots := 0, locals := 44 } : Room) [.ref (r 0), .int (iv (1)), .int (iv (dw))] (dC, dI) vwCl tys (rC cI r ((V 0)) ((V 1)) ((V 2)) ((V 3)) ((V 4)) ((V 5)) ((V 6)) (A1) (U1) (A2) (U2) ((J 0)) ((J 1)) ((J 2)) ((J 3)) ((J 4)) ((J 5)) ((J 6)) ((J 7)) ((J 8)) ((J 9)) ((J 10)) (pb) (pe) (ob) (oe) (b1) (e1) (b2) (e2)) (fun o w1 => ∃ (V2 : Nat → Nat) (J2 : Nat → Nat → Nat) (pb2 pe2 ob2 oe2 : Int), o = some (.int (iv (bl (A1 - A2) : Int))) ∧ w1 = rC cI r (V2 0) (V2 1) (V2 2) (V2 3) (V2 4) (V2 5) (V2 6) (A1) (U1) (A1 - A2) (U2) (J2 0) (J2 1) (J2 2) (J2 3) (J2 4) (J2 5) (J2 6) (J2 7) (J2 8) (J2 9) (J2 10) (pb2) (pe2) (ob2) (oe2) (b1) (e1) (dw) (e2) ∧ rJ V2 J2 ∧ bk (A1) (J2 7) ∧ bk (U1) (J2 8) ∧ bk (A1 - A2) (J2 9) ∧ bk (U2) (J2 10)) := by
  refine ef_C.of (cc := rc_M_move) (maxL := 6) (ret := (some .int)) (by decide) rfl (Nat.le_of_ble_eq_true rfl) ?_
  intro p e s m below meth c ls hx hb hml hr hts hown hlocks hK hNX hP hD hS hl
  have hl : lv_has ls 6 [(0, .ref (r 0)), (1, .int (iv (1))), (2, .int (iv (dw)))] := hl
  have hown : s.vm.findClass rR5 = some m.cls := hown
  generalize hH : s.heap = H at hP ⊢
  have hS : va_S (ef_A (rC cI r ((V 0)) ((V 1)) ((V 2)) ((V 3)) ((V 4)) ((V 5)) ((V 6)) (A1) (U1) (A2) (U2) ((J 0)) ((J 1)) ((J 2)) ((J 3)) ((J 4)) ((J 5)) ((J 6)) ((J 7)) ((J 8)) ((J 9)) ((J 10)) (pb) (pe) (ob) (oe) (b1) (e1) (b2) (e2))) s.heap H [] := by rw [← hH]; exact hS
  generalize ([] : List Loc) = locs at hS ⊢
  have hdr : ir dw := by rcases hdn with h | h <;> rw [h] <;> exact ⟨by decide, by decide⟩
  have hbr : ir b2 := by rcases hbo with h | h <;> rw [h] <;> exact ⟨by decide, by decide⟩
  have hb4 : bl (A1 - A2) ≤ 4800 := Nat.le_trans (bl_mono (Nat.sub_le _ _)) hba
  have hdv : dn (A1 - A2) ≤ 301 := Nat.le_succ_of_le (dn_bl (k := 300) (by omega))
  have hbd : bl (A1 - A2) ≤ 16 * 301 := bl_le (Nat.lt_of_lt_of_le (dn_lt _) (Nat.pow_le_pow_right (by decide) (by omega)))
  refine lv_iload_n hx hb rd_M_move_0 rfl (lv_at hl 1 rfl) ?_
  refine ef_callS (As := [.int (iv (1))]) (rest := []) ⟨hx, hb, hml, hown, hts⟩ (r_isNumber1 l dC dI ht r) (cwS 1 hts (ef_goodS rm_336 rm_337 rm_24 rm_338) rfl rfl rfl (by decide +kernel) ⟨Nat.le_of_ble_eq_true rfl, Nat.le_of_ble_eq_true rfl⟩) hK hNX hP hD hS rfl hl.1 rfl (Nat.le_of_ble_eq_true rfl) rd_M_move_1 ⟨Nat.zero_le _, Nat.zero_le _⟩ (fun o w1 H locs hq hP hD hS => ?_)
  obtain ⟨rfl, e9⟩ := hq
  rw [e9] at hP hD
  refine W.eq (g2 := F0 m 4 ls [.int (iv (1))]) rfl ?_
  refine iw_if_ne (tgt := 9) hx hb rd_M_move_4 (by decide) ⟨by omega, by omega⟩ (fun k1 => ?_) (fun k1 => ?_)
  ·
    refine lv_aload_n hx hb rd_M_move_9 rfl (lv_at hl 0 rfl) ?_
    refine lv_iload_n hx hb rd_M_move_10 rfl (lv_at hl 1 rfl) ?_
    refine ef_callV (As := [.int (iv (1))]) (rest := []) ⟨hx, hb, hml, hown, hts⟩ (r_numberOf1 l dC dI ht r) (cwV 1 hts (ef_goodV rm_339 rm_341 rm_12 rm_24 rm_342) rfl rfl rfl (by decide +kernel) ⟨Nat.le_of_ble_eq_true rfl, Nat.le_of_ble_eq_true rfl⟩) hK hNX hP hD hS 0 rfl rfl rfl rfl hl.1 rfl (Nat.le_of_ble_eq_true rfl) rd_M_move_11 ⟨Nat.zero_le _, Nat.zero_le _⟩ (fun o w1 H locs hq hP hD hS => ?_)
    obtain ⟨rfl, e9⟩ := hq
    rw [e9] at hP hD
    refine W.eq (g2 := F0 m 14 ls [.ref (r 4)]) rfl ?_
    refine lv_astore_n (lv' := [(3, .ref (r 4)), (0, .ref (r 0)), (1, .int (iv (1))), (2, .int (iv (dw)))]) hx hb rd_M_move_14 rfl hl (by decide) rfl (fun ls hl => ?_)
    refine lv_aload_n hx hb rd_M_move_15 rfl (lv_at hl 1 rfl) ?_
    refine lv_iconst (v := iv (1)) hx hb rd_M_move_16 (by decide) ?_
    refine lv_iload_n hx hb rd_M_move_17 rfl (lv_at hl 2 rfl) ?_
    refine iw_isub hx hb rd_M_move_18 ?_
    refine iw_topi (y := iv (0)) (congrArg iv (by rfl : (((1) - (1)) : Int) = (0))) ?_
    refine lv_iconst (v := iv (0)) hx hb rd_M_move_19 (by decide) ?_
    refine ef_callV (As := [.int (iv (0)), .int (iv (0))]) (rest := []) ⟨hx, hb, hml, hown, hts⟩ (r_partOf00 l dC dI ht r) (cwV 2 hts (ef_goodV rm_348 rm_350 rm_13 rm_24 rm_351) rfl rfl rfl (by decide +kernel) ⟨Nat.le_of_ble_eq_true rfl, Nat.le_of_ble_eq_true rfl⟩) hK hNX hP hD hS 0 rfl rfl rfl rfl hl.1 rfl (Nat.le_of_ble_eq_true rfl) rd_M_move_20 ⟨Nat.zero_le _, Nat.zero_le _⟩ (fun o w1 H locs hq hP hD hS => ?_)
    obtain ⟨rfl, e9⟩ := hq
    rw [e9] at hP hD
    refine W.eq (g2 := F0 m 23 ls [.ref (r 19)]) rfl ?_
    refine lv_astore (lv' := [(4, .ref (r 19)), (3, .ref (r 4)), (0, .ref (r 0)), (1, .int (iv (1))), (2, .int (iv (dw)))]) hx hb rd_M_move_23 hl (by decide) rfl (fun ls hl => ?_)
    refine lv_aload_n hx hb rd_M_move_25 rfl (lv_at hl 2 rfl) ?_
    refine va_get (D := (dC, dI)) (ci := 5) (v := .ref (r 9)) (C := rR5) (T := rT5) (N := 7) hx hb hts (fun w h => List.mem_cons_of_mem _ (rin5 w h)) hown hK hP 0 rfl rfl 6 (by decide) (hts _ (List.mem_cons_of_mem _ rm_316)) (fun _ h9 => h9) rfl rd_M_move_26 ?_
    refine lv_aload_n hx hb rd_M_move_29 rfl (lv_at hl 1 rfl) ?_
    refine va_getN (D := (dC, dI)) (ci := 4) (v := .ref (r 23)) (C := rR4) (T := rT4) (N := 4) hx hb hts (fun w h => List.mem_cons_of_mem _ (rin4 w h)) hown hK hP 4 rfl rfl 1 (by decide) (hNX.use rm_287 rfl) (fun _ h9 => h9) rfl rd_M_move_30 ?_
    refine ef_callV (As := [.ref (r 23)]) (rest := []) ⟨hx, hb, hml, hown, hts⟩ (b_copy l dC dI ht (isB_c (X := (V 2)) (F := (J 2)) (ws := rC cI r ((V 0)) ((V 1)) ((V 2)) ((V 3)) ((V 4)) ((V 5)) ((V 6)) (A1) (U1) (A2) (U2) ((J 0)) ((J 1)) ((J 2)) ((J 3)) ((J 4)) ((J 5)) ((J 6)) ((J 7)) ((J 8)) ((J 9)) ((J 10)) (pb) (pe) (ob) (oe) (b1) (e1) (b2) (e2)) (k0 := 9) (k1 := 10) (by decide) rfl rfl) (isB_c (X := A2) (F := (J 9)) (ws := rC cI r ((V 0)) ((V 1)) ((V 2)) ((V 3)) ((V 4)) ((V 5)) ((V 6)) (A1) (U1) (A2) (U2) ((J 0)) ((J 1)) ((J 2)) ((J 3)) ((J 4)) ((J 5)) ((J 6)) ((J 7)) ((J 8)) ((J 9)) ((J 10)) (pb) (pe) (ob) (oe) (b1) (e1) (b2) (e2)) (k0 := 23) (k1 := 24) (by decide) rfl rfl) kA2.1 kA2.2 (apt_c (k0 := 9) (k1 := 10) (j0 := 23) (j1 := 24) rfl)) (cwV 1 hts (ef_goodV rm_352 rm_353 rm_354 rm_25 rm_355) rfl rfl rfl (by decide +kernel) ⟨Nat.le_of_ble_eq_true rfl, Nat.le_of_ble_eq_true rfl⟩) hK hNX hP hD hS 9 rfl rfl rfl rfl hl.1 rfl (Nat.le_of_ble_eq_true rfl) rd_M_move_33 ⟨Nat.zero_le _, Nat.zero_le _⟩ (fun o w1 H locs hq hP hD hS => ?_)
    obtain ⟨rfl, g_1, rfl, hg_2⟩ := hq
    have hP : va_P (dC, dI) vwCl (rC cI r ((V 0)) ((V 1)) (A2) ((V 3)) ((V 4)) ((V 5)) ((V 6)) (A1) (U1) (A2) (U2) ((J 0)) ((J 1)) (g_1) ((J 3)) ((J 4)) ((J 5)) ((J 6)) ((J 7)) ((J 8)) ((J 9)) ((J 10)) (pb) (pe) (ob) (oe) (b1) (e1) (b2) (e2)) H := hP
    have hD : va_D (ef_A (rC cI r ((V 0)) ((V 1)) ((V 2)) ((V 3)) ((V 4)) ((V 5)) ((V 6)) (A1) (U1) (A2) (U2) ((J 0)) ((J 1)) ((J 2)) ((J 3)) ((J 4)) ((J 5)) ((J 6)) ((J 7)) ((J 8)) ((J 9)) ((J 10)) (pb) (pe) (ob) (oe) (b1) (e1) (b2) (e2))) (rC cI r ((V 0)) ((V 1)) (A2) ((V 3)) ((V 4)) ((V 5)) ((V 6)) (A1) (U1) (A2) (U2) ((J 0)) ((J 1)) (g_1) ((J 3)) ((J 4)) ((J 5)) ((J 6)) ((J 7)) ((J 8)) ((J 9)) ((J 10)) (pb) (pe) (ob) (oe) (b1) (e1) (b2) (e2)) := hD
    have hg_2 : bk (A2) g_1 := ⟨hg_2, kA2.2⟩
    refine W.eq (g2 := F0 m 36 ls []) rfl ?_
    refine lv_aload_n hx hb rd_M_move_36 rfl (lv_at hl 1 rfl) ?_
    refine va_getN (D := (dC, dI)) (ci := 4) (v := .int (iv (b2))) (C := rR4) (T := rT4) (N := 4) hx hb hts (fun w h => List.mem_cons_of_mem _ (rin4 w h)) hown hK hP 4 rfl rfl 0 (by decide) (hNX.use rm_285 rfl) (fun _ h9 => h9) rfl rd_M_move_37 ?_
    refine lv_istore (lv' := [(5, .int (iv (b2))), (4, .ref (r 19)), (3, .ref (r 4)), (0, .ref (r 0)), (1, .int (iv (1))), (2, .int (iv (dw)))]) hx hb rd_M_move_40 hl (by decide) rfl (fun ls hl => ?_)
    refine lv_iload hx hb rd_M_move_42 (lv_at hl 0 rfl) ?_
    refine lv_iload_n hx hb rd_M_move_44 rfl (lv_at hl 5 rfl) ?_
    refine iw_icmp_ne (tgt := 60) hx hb rd_M_move_45 (by decide) (hbr) (hdr) (fun c2 => ?_) (fun c2 => ?_)
    ·
      refine lv_aload_n hx hb rd_M_move_60 rfl (lv_at hl 3 rfl) ?_
      refine va_get (D := (dC, dI)) (ci := 5) (v := .ref (r 9)) (C := rR5) (T := rT5) (N := 7) hx hb hts (fun w h => List.mem_cons_of_mem _ (rin5 w h)) hown hK hP 0 rfl rfl 6 (by decide) (hts _ (List.mem_cons_of_mem _ rm_316)) (fun _ h9 => h9) rfl rd_M_move_61 ?_
      refine lv_aload hx hb rd_M_move_64 (lv_at hl 1 rfl) ?_
      refine ef_callV (As := [.ref (r 19)]) (rest := []) ⟨hx, hb, hml, hown, hts⟩ (b_compare l dC dI ht (isB_c (X := A2) (F := g_1) (ws := rC cI r ((V 0)) ((V 1)) (A2) ((V 3)) ((V 4)) ((V 5)) ((V 6)) (A1) (U1) (A2) (U2) ((J 0)) ((J 1)) (g_1) ((J 3)) ((J 4)) ((J 5)) ((J 6)) ((J 7)) ((J 8)) ((J 9)) ((J 10)) (pb) (pe) (ob) (oe) (b1) (e1) (b2) (e2)) (k0 := 9) (k1 := 10) (by decide) rfl rfl) hg_2.1 hg_2.2 (isB_c (X := A1) (F := (J 7)) (ws := rC cI r ((V 0)) ((V 1)) (A2) ((V 3)) ((V 4)) ((V 5)) ((V 6)) (A1) (U1) (A2) (U2) ((J 0)) ((J 1)) (g_1) ((J 3)) ((J 4)) ((J 5)) ((J 6)) ((J 7)) ((J 8)) ((J 9)) ((J 10)) (pb) (pe) (ob) (oe) (b1) (e1) (b2) (e2)) (k0 := 19) (k1 := 20) (by decide) rfl rfl) kA1.1 kA1.2) (cwV 1 hts (ef_goodV rm_386 rm_387 rm_388 rm_25 rm_389) rfl rfl rfl (by decide +kernel) ⟨Nat.le_of_ble_eq_true rfl, Nat.le_of_ble_eq_true rfl⟩) hK hNX hP hD hS 9 rfl rfl rfl rfl hl.1 rfl (Nat.le_of_ble_eq_true rfl) rd_M_move_66 ⟨Nat.zero_le _, Nat.zero_le _⟩ (fun o w1 H locs hq hP hD hS => ?_)
      obtain ⟨rfl, e9⟩ := hq
      rw [e9] at hP hD
      refine W.eq (g2 := F0 m 69 ls [.int (iv (zc A2 A1))]) rfl ?_
      refine iw_if_lt (tgt := 84) hx hb rd_M_move_69 (by decide) (ir_zc _ _) (fun c3 => ?_) (fun c3 => ?_)
      ·
        refine lv_aload_n hx hb rd_M_move_84 rfl (lv_at hl 3 rfl) ?_
        refine va_get (D := (dC, dI)) (ci := 5) (v := .ref (r 9)) (C := rR5) (T := rT5) (N := 7) hx hb hts (fun w h => List.mem_cons_of_mem _ (rin5 w h)) hown hK hP 0 rfl rfl 6 (by decide) (hts _ (List.mem_cons_of_mem _ rm_316)) (fun _ h9 => h9) rfl rd_M_move_85 ?_
        refine lv_aload hx hb rd_M_move_88 (lv_at hl 1 rfl) ?_
        refine ef_callV (As := [.ref (r 19)]) (rest := []) ⟨hx, hb, hml, hown, hts⟩ (b_copy l dC dI ht (isB_c (X := A2) (F := g_1) (ws := rC cI r ((V 0)) ((V 1)) (A2) ((V 3)) ((V 4)) ((V 5)) ((V 6)) (A1) (U1) (A2) (U2) ((J 0)) ((J 1)) (g_1) ((J 3)) ((J 4)) ((J 5)) ((J 6)) ((J 7)) ((J 8)) ((J 9)) ((J 10)) (pb) (pe) (ob) (oe) (b1) (e1) (b2) (e2)) (k0 := 9) (k1 := 10) (by decide) rfl rfl) (isB_c (X := A1) (F := (J 7)) (ws := rC cI r ((V 0)) ((V 1)) (A2) ((V 3)) ((V 4)) ((V 5)) ((V 6)) (A1) (U1) (A2) (U2) ((J 0)) ((J 1)) (g_1) ((J 3)) ((J 4)) ((J 5)) ((J 6)) ((J 7)) ((J 8)) ((J 9)) ((J 10)) (pb) (pe) (ob) (oe) (b1) (e1) (b2) (e2)) (k0 := 19) (k1 := 20) (by decide) rfl rfl) kA1.1 kA1.2 (apt_c (k0 := 9) (k1 := 10) (j0 := 19) (j1 := 20) rfl)) (cwV 1 hts (ef_goodV rm_352 rm_353 rm_354 rm_25 rm_355) rfl rfl rfl (by decide +kernel) ⟨Nat.le_of_ble_eq_true rfl, Nat.le_of_ble_eq_true rfl⟩) hK hNX hP hD hS 9 rfl rfl rfl rfl hl.1 rfl (Nat.le_of_ble_eq_true rfl) rd_M_move_90 ⟨Nat.zero_le _, Nat.zero_le _⟩ (fun o w1 H locs hq hP hD hS => ?_)
        obtain ⟨rfl, g_3, rfl, hg_4⟩ := hq
        have hP : va_P (dC, dI) vwCl (rC cI r ((V 0)) ((V 1)) (A1) ((V 3)) ((V 4)) ((V 5)) ((V 6)) (A1) (U1) (A2) (U2) ((J 0)) ((J 1)) (g_3) ((J 3)) ((J 4)) ((J 5)) ((J 6)) ((J 7)) ((J 8)) ((J 9)) ((J 10)) (pb) (pe) (ob) (oe) (b1) (e1) (b2) (e2)) H := hP
        have hD : va_D (ef_A (rC cI r ((V 0)) ((V 1)) ((V 2)) ((V 3)) ((V 4)) ((V 5)) ((V 6)) (A1) (U1) (A2) (U2) ((J 0)) ((J 1)) ((J 2)) ((J 3)) ((J 4)) ((J 5)) ((J 6)) ((J 7)) ((J 8)) ((J 9)) ((J 10)) (pb) (pe) (ob) (oe) (b1) (e1) (b2) (e2))) (rC cI r ((V 0)) ((V 1)) (A1) ((V 3)) ((V 4)) ((V 5)) ((V 6)) (A1) (U1) (A2) (U2) ((J 0)) ((J 1)) (g_3) ((J 3)) ((J 4)) ((J 5)) ((J 6)) ((J 7)) ((J 8)) ((J 9)) ((J 10)) (pb) (pe) (ob) (oe) (b1) (e1) (b2) (e2)) := hD
        have hg_4 : bk (A1) g_3 := ⟨hg_4, kA1.2⟩
        refine W.eq (g2 := F0 m 93 ls []) rfl ?_
        refine lv_aload_n hx hb rd_M_move_93 rfl (lv_at hl 3 rfl) ?_
        refine va_get (D := (dC, dI)) (ci := 5) (v := .ref (r 9)) (C := rR5) (T := rT5) (N := 7) hx hb hts (fun w h => List.mem_cons_of_mem _ (rin5 w h)) hown hK hP 0 rfl rfl 6 (by decide) (hts _ (List.mem_cons_of_mem _ rm_316)) (fun _ h9 => h9) rfl rd_M_move_94 ?_
        refine lv_aload_n hx hb rd_M_move_97 rfl (lv_at hl 2 rfl) ?_
        refine va_getN (D := (dC, dI)) (ci := 4) (v := .ref (r 23)) (C := rR4) (T := rT4) (N := 4) hx hb hts (fun w h => List.mem_cons_of_mem _ (rin4 w h)) hown hK hP 4 rfl rfl 1 (by decide) (hNX.use rm_287 rfl) (fun _ h9 => h9) rfl rd_M_move_98 ?_
        refine ef_callV (As := [.ref (r 23)]) (rest := []) ⟨hx, hb, hml, hown, hts⟩ (b_subtract l dC dI ht (isB_c (X := A1) (F := g_3) (ws := rC cI r ((V 0)) ((V 1)) (A1) ((V 3)) ((V 4)) ((V 5)) ((V 6)) (A1) (U1) (A2) (U2) ((J 0)) ((J 1)) (g_3) ((J 3)) ((J 4)) ((J 5)) ((J 6)) ((J 7)) ((J 8)) ((J 9)) ((J 10)) (pb) (pe) (ob) (oe) (b1) (e1) (b2) (e2)) (k0 := 9) (k1 := 10) (by decide) rfl rfl) hg_4.1 hg_4.2 (isB_c (X := A2) (F := (J 9)) (ws := rC cI r ((V 0)) ((V 1)) (A1) ((V 3)) ((V 4)) ((V 5)) ((V 6)) (A1) (U1) (A2) (U2) ((J 0)) ((J 1)) (g_3) ((J 3)) ((J 4)) ((J 5)) ((J 6)) ((J 7)) ((J 8)) ((J 9)) ((J 10)) (pb) (pe) (ob) (oe) (b1) (e1) (b2) (e2)) (k0 := 23) (k1 := 24) (by decide) rfl rfl) kA2.1 kA2.2 (apt_c (k0 := 9) (k1 := 10) (j0 := 23) (j1 := 24) rfl) (by omega)) (cwV 1 hts (ef_goodV rm_390 rm_391 rm_392 rm_25 rm_393) rfl rfl rfl (by decide +kernel) ⟨Nat.le_of_ble_eq_true rfl, Nat.le_of_ble_eq_true rfl⟩) hK hNX hP hD hS 9 rfl rfl rfl rfl hl.1 rfl (Nat.le_of_ble_eq_true rfl) rd_M_move_101 ⟨Nat.zero_le _, Nat.zero_le _⟩ (fun o w1 H locs hq hP hD hS => ?_)
        obtain ⟨rfl, g_5, rfl, hg_6⟩ := hq
        have hP : va_P (dC, dI) vwCl (rC cI r ((V 0)) ((V 1)) (A1 - A2) ((V 3)) ((V 4)) ((V 5)) ((V 6)) (A1) (U1) (A2) (U2) ((J 0)) ((J 1)) (g_5) ((J 3)) ((J 4)) ((J 5)) ((J 6)) ((J 7)) ((J 8)) ((J 9)) ((J 10)) (pb) (pe) (ob) (oe) (b1) (e1) (b2) (e2)) H := hP
        have hD : va_D (ef_A (rC cI r ((V 0)) ((V 1)) ((V 2)) ((V 3)) ((V 4)) ((V 5)) ((V 6)) (A1) (U1) (A2) (U2) ((J 0)) ((J 1)) ((J 2)) ((J 3)) ((J 4)) ((J 5)) ((J 6)) ((J 7)) ((J 8)) ((J 9)) ((J 10)) (pb) (pe) (ob) (oe) (b1) (e1) (b2) (e2))) (rC cI r ((V 0)) ((V 1)) (A1 - A2) ((V 3)) ((V 4)) ((V 5)) ((V 6)) (A1) (U1) (A2) (U2) ((J 0)) ((J 1)) (g_5) ((J 3)) ((J 4)) ((J 5)) ((J 6)) ((J 7)) ((J 8)) ((J 9)) ((J 10)) (pb) (pe) (ob) (oe) (b1) (e1) (b2) (e2)) := hD
        have hg_6 : bk (A1 - A2) g_5 := ⟨hg_6, by omega⟩
        refine W.eq (g2 := F0 m 104 ls []) rfl ?_
        refine lv_iload hx hb rd_M_move_104 (lv_at hl 0 rfl) ?_
        refine iw_if_ne (tgt := 113) hx hb rd_M_move_106 (by decide) (hbr) (fun c4 => ?_) (fun c4 => ?_)
        ·
          have hdw : dw = 0 := by omega
          refine lv_iconst (v := iv (0)) hx hb rd_M_move_113 (by decide) ?_
          refine iw_topi (y := iv (dw)) (congrArg iv (by rw [hdw] : ((0) : Int) = (dw))) ?_
          refine lv_istore (lv' := [(5, .int (iv (dw))), (4, .ref (r 19)), (3, .ref (r 4)), (0, .ref (r 0)), (1, .int (iv (1))), (2, .int (iv (dw)))]) hx hb rd_M_move_114 hl (by decide) rfl (fun ls hl => ?_)
          refine lv_aload_n hx hb rd_M_move_116 rfl (lv_at hl 3 rfl) ?_
          refine va_get (D := (dC, dI)) (ci := 5) (v := .ref (r 9)) (C := rR5) (T := rT5) (N := 7) hx hb hts (fun w h => List.mem_cons_of_mem _ (rin5 w h)) hown hK hP 0 rfl rfl 6 (by decide) (hts _ (List.mem_cons_of_mem _ rm_316)) (fun _ h9 => h9) rfl rd_M_move_117 ?_
          refine ef_callV (As := []) (rest := []) ⟨hx, hb, hml, hown, hts⟩ (b_bits l dC dI ht (isB_c (X := A1 - A2) (F := g_5) (ws := rC cI r ((V 0)) ((V 1)) (A1 - A2) ((V 3)) ((V 4)) ((V 5)) ((V 6)) (A1) (U1) (A2) (U2) ((J 0)) ((J 1)) (g_5) ((J 3)) ((J 4)) ((J 5)) ((J 6)) ((J 7)) ((J 8)) ((J 9)) ((J 10)) (pb) (pe) (ob) (oe) (b1) (e1) (b2) (e2)) (k0 := 9) (k1 := 10) (by decide) rfl rfl) hg_6.1 hg_6.2) (cwV 0 hts (ef_goodV rm_360 rm_361 rm_362 rm_25 rm_363) rfl rfl rfl (by decide +kernel) ⟨Nat.le_of_ble_eq_true rfl, Nat.le_of_ble_eq_true rfl⟩) hK hNX hP hD hS 9 rfl rfl rfl rfl hl.1 rfl (Nat.le_of_ble_eq_true rfl) rd_M_move_120 ⟨Nat.zero_le _, Nat.zero_le _⟩ (fun o w1 H locs hq hP hD hS => ?_)
          obtain ⟨rfl, e9⟩ := hq
          rw [e9] at hP hD
          refine W.eq (g2 := F0 m 123 ls [.int (iv ((bl (A1 - A2) : Int)))]) rfl ?_
          refine lv_sipush (v := iv (4800)) hx hb rd_M_move_123 (by decide) ?_
          refine iw_icmp_le (tgt := 132) hx hb rd_M_move_126 (by decide) ⟨by omega, by omega⟩ ⟨by omega, by omega⟩ (fun c5 => ?_) (fun c5 => ?_)
          ·
            refine lv_aload_n hx hb rd_M_move_132 rfl (lv_at hl 2 rfl) ?_
            refine va_getN (D := (dC, dI)) (ci := 4) (v := .ref (r 23)) (C := rR4) (T := rT4) (N := 4) hx hb hts (fun w h => List.mem_cons_of_mem _ (rin4 w h)) hown hK hP 4 rfl rfl 1 (by decide) (hNX.use rm_287 rfl) (fun _ h9 => h9) rfl rd_M_move_133 ?_
            refine lv_aload_n hx hb rd_M_move_136 rfl (lv_at hl 3 rfl) ?_
            refine va_get (D := (dC, dI)) (ci := 5) (v := .ref (r 9)) (C := rR5) (T := rT5) (N := 7) hx hb hts (fun w h => List.mem_cons_of_mem _ (rin5 w h)) hown hK hP 0 rfl rfl 6 (by decide) (hts _ (List.mem_cons_of_mem _ rm_316)) (fun _ h9 => h9) rfl rd_M_move_137 ?_
            refine ef_callV (As := [.ref (r 9)]) (rest := []) ⟨hx, hb, hml, hown, hts⟩ (b_copy l dC dI ht (isB_c (X := A2) (F := (J 9)) (ws := rC cI r ((V 0)) ((V 1)) (A1 - A2) ((V 3)) ((V 4)) ((V 5)) ((V 6)) (A1) (U1) (A2) (U2) ((J 0)) ((J 1)) (g_5) ((J 3)) ((J 4)) ((J 5)) ((J 6)) ((J 7)) ((J 8)) ((J 9)) ((J 10)) (pb) (pe) (ob) (oe) (b1) (e1) (b2) (e2)) (k0 := 23) (k1 := 24) (by decide) rfl rfl) (isB_c (X := A1 - A2) (F := g_5) (ws := rC cI r ((V 0)) ((V 1)) (A1 - A2) ((V 3)) ((V 4)) ((V 5)) ((V 6)) (A1) (U1) (A2) (U2) ((J 0)) ((J 1)) (g_5) ((J 3)) ((J 4)) ((J 5)) ((J 6)) ((J 7)) ((J 8)) ((J 9)) ((J 10)) (pb) (pe) (ob) (oe) (b1) (e1) (b2) (e2)) (k0 := 9) (k1 := 10) (by decide) rfl rfl) hg_6.1 hg_6.2 (apt_c (k0 := 23) (k1 := 24) (j0 := 9) (j1 := 10) rfl)) (cwV 1 hts (ef_goodV rm_352 rm_353 rm_354 rm_25 rm_355) rfl rfl rfl (by decide +kernel) ⟨Nat.le_of_ble_eq_true rfl, Nat.le_of_ble_eq_true rfl⟩) hK hNX hP hD hS 23 rfl rfl rfl rfl hl.1 rfl (Nat.le_of_ble_eq_true rfl) rd_M_move_140 ⟨Nat.zero_le _, Nat.zero_le _⟩ (fun o w1 H locs hq hP hD hS => ?_)
            obtain ⟨rfl, g_7, rfl, hg_8⟩ := hq
            have hP : va_P (dC, dI) vwCl (rC cI r ((V 0)) ((V 1)) (A1 - A2) ((V 3)) ((V 4)) ((V 5)) ((V 6)) (A1) (U1) (A1 - A2) (U2) ((J 0)) ((J 1)) (g_5) ((J 3)) ((J 4)) ((J 5)) ((J 6)) ((J 7)) ((J 8)) (g_7) ((J 10)) (pb) (pe) (ob) (oe) (b1) (e1) (b2) (e2)) H := hP
            have hD : va_D (ef_A (rC cI r ((V 0)) ((V 1)) ((V 2)) ((V 3)) ((V 4)) ((V 5)) ((V 6)) (A1) (U1) (A2) (U2) ((J 0)) ((J 1)) ((J 2)) ((J 3)) ((J 4)) ((J 5)) ((J 6)) ((J 7)) ((J 8)) ((J 9)) ((J 10)) (pb) (pe) (ob) (oe) (b1) (e1) (b2) (e2))) (rC cI r ((V 0)) ((V 1)) (A1 - A2) ((V 3)) ((V 4)) ((V 5)) ((V 6)) (A1) (U1) (A1 - A2) (U2) ((J 0)) ((J 1)) (g_5) ((J 3)) ((J 4)) ((J 5)) ((J 6)) ((J 7)) ((J 8)) (g_7) ((J 10)) (pb) (pe) (ob) (oe) (b1) (e1) (b2) (e2)) := hD
            have hg_8 : bk (A1 - A2) g_7 := ⟨hg_8, hg_6.2⟩
            refine W.eq (g2 := F0 m 143 ls []) rfl ?_
            refine lv_aload_n hx hb rd_M_move_143 rfl (lv_at hl 2 rfl) ?_
            refine lv_iload hx hb rd_M_move_144 (lv_at hl 0 rfl) ?_
            refine va_putN (D := (dC, dI)) (ci := 4) (v := .int (iv (dw))) (ty := .boolean) (C := rR4) (T := rT4) (N := 4) hx hb hts (fun w h => List.mem_cons_of_mem _ (rin4 w h)) rty4 rtyok4 rnm4 hown hK hP hD hS 4 rfl rfl 0 (by decide) (hNX.use rm_285 rfl) (fun _ h9 => h9) rfl (by decide +kernel) (by rcases hdn with h9 | h9 <;> rw [h9] <;> rfl) (by rcases hdn with h9 | h9 <;> rw [h9] <;> rfl) (Nat.le_of_ble_eq_true rfl) rd_M_move_146 (fun H locs hP hD hS => ?_)
            have hP : va_P (dC, dI) vwCl (rC cI r ((V 0)) ((V 1)) (A1 - A2) ((V 3)) ((V 4)) ((V 5)) ((V 6)) (A1) (U1) (A1 - A2) (U2) ((J 0)) ((J 1)) (g_5) ((J 3)) ((J 4)) ((J 5)) ((J 6)) ((J 7)) ((J 8)) (g_7) ((J 10)) (pb) (pe) (ob) (oe) (b1) (e1) (dw) (e2)) H := hP
            have hD : va_D (ef_A (rC cI r ((V 0)) ((V 1)) ((V 2)) ((V 3)) ((V 4)) ((V 5)) ((V 6)) (A1) (U1) (A2) (U2) ((J 0)) ((J 1)) ((J 2)) ((J 3)) ((J 4)) ((J 5)) ((J 6)) ((J 7)) ((J 8)) ((J 9)) ((J 10)) (pb) (pe) (ob) (oe) (b1) (e1) (b2) (e2))) (rC cI r ((V 0)) ((V 1)) (A1 - A2) ((V 3)) ((V 4)) ((V 5)) ((V 6)) (A1) (U1) (A1 - A2) (U2) ((J 0)) ((J 1)) (g_5) ((J 3)) ((J 4)) ((J 5)) ((J 6)) ((J 7)) ((J 8)) (g_7) ((J 10)) (pb) (pe) (ob) (oe) (b1) (e1) (dw) (e2)) := hD
            refine lv_aload_n hx hb rd_M_move_149 rfl (lv_at hl 2 rfl) ?_
            refine va_getN (D := (dC, dI)) (ci := 4) (v := .ref (r 23)) (C := rR4) (T := rT4) (N := 4) hx hb hts (fun w h => List.mem_cons_of_mem _ (rin4 w h)) hown hK hP 4 rfl rfl 1 (by decide) (hNX.use rm_287 rfl) (fun _ h9 => h9) rfl rd_M_move_150 ?_
            refine ef_callV (As := []) (rest := []) ⟨hx, hb, hml, hown, hts⟩ (b_bits l dC dI ht (isB_c (X := A1 - A2) (F := g_7) (ws := rC cI r ((V 0)) ((V 1)) (A1 - A2) ((V 3)) ((V 4)) ((V 5)) ((V 6)) (A1) (U1) (A1 - A2) (U2) ((J 0)) ((J 1)) (g_5) ((J 3)) ((J 4)) ((J 5)) ((J 6)) ((J 7)) ((J 8)) (g_7) ((J 10)) (pb) (pe) (ob) (oe) (b1) (e1) (dw) (e2)) (k0 := 23) (k1 := 24) (by decide) rfl rfl) hg_8.1 hg_8.2) (cwV 0 hts (ef_goodV rm_360 rm_361 rm_362 rm_25 rm_363) rfl rfl rfl (by decide +kernel) ⟨Nat.le_of_ble_eq_true rfl, Nat.le_of_ble_eq_true rfl⟩) hK hNX hP hD hS 23 rfl rfl rfl rfl hl.1 rfl (Nat.le_of_ble_eq_true rfl) rd_M_move_153 ⟨Nat.zero_le _, Nat.zero_le _⟩ (fun o w1 H locs hq hP hD hS => ?_)
            obtain ⟨rfl, e9⟩ := hq
            rw [e9] at hP hD
            refine W.eq (g2 := F0 m 156 ls [.int (iv ((bl (A1 - A2) : Int)))]) rfl ?_
            exact ef_iret hx hb hr hlocks hP hD hS rd_M_move_156 (⟨fun i => [((V 0)), ((V 1)), (A1 - A2), ((V 3)), ((V 4)), ((V 5)), ((V 6))].getD i 0, fun i => [((J 0)), ((J 1)), (g_5), ((J 3)), ((J 4)), ((J 5)), ((J 6)), ((J 7)), ((J 8)), (g_7), ((J 10))].getD i (fun _ => 0), _, _, _, _, rfl, rfl, rJ_of (hJ 0 (by decide)) (hJ 1 (by decide)) hg_6 (hJ 3 (by decide)) (hJ 4 (by decide)) (hJ 5 (by decide)) (hJ 6 (by decide)), kA1, kU1, hg_8, kU2⟩)
          ·
            exact absurd c5 (by omega)
        ·
          have hdw : dw = 1 := by omega
          refine lv_iconst (v := iv (1)) hx hb rd_M_move_109 (by decide) ?_
          refine lv_goto (tgt := 114) hx hb rd_M_move_110 (by decide) ?_
          refine iw_topi (y := iv (dw)) (congrArg iv (by rw [hdw] : ((1) : Int) = (dw))) ?_
          refine lv_istore (lv' := [(5, .int (iv (dw))), (4, .ref (r 19)), (3, .ref (r 4)), (0, .ref (r 0)), (1, .int (iv (1))), (2, .int (iv (dw)))]) hx hb rd_M_move_114 hl (by decide) rfl (fun ls hl => ?_)
          refine lv_aload_n hx hb rd_M_move_116 rfl (lv_at hl 3 rfl) ?_
          refine va_get (D := (dC, dI)) (ci := 5) (v := .ref (r 9)) (C := rR5) (T := rT5) (N := 7) hx hb hts (fun w h => List.mem_cons_of_mem _ (rin5 w h)) hown hK hP 0 rfl rfl 6 (by decide) (hts _ (List.mem_cons_of_mem _ rm_316)) (fun _ h9 => h9) rfl rd_M_move_117 ?_
          refine ef_callV (As := []) (rest := []) ⟨hx, hb, hml, hown, hts⟩ (b_bits l dC dI ht (isB_c (X := A1 - A2) (F := g_5) (ws := rC cI r ((V 0)) ((V 1)) (A1 - A2) ((V 3)) ((V 4)) ((V 5)) ((V 6)) (A1) (U1) (A2) (U2) ((J 0)) ((J 1)) (g_5) ((J 3)) ((J 4)) ((J 5)) ((J 6)) ((J 7)) ((J 8)) ((J 9)) ((J 10)) (pb) (pe) (ob) (oe) (b1) (e1) (b2) (e2)) (k0 := 9) (k1 := 10) (by decide) rfl rfl) hg_6.1 hg_6.2) (cwV 0 hts (ef_goodV rm_360 rm_361 rm_362 rm_25 rm_363) rfl rfl rfl (by decide +kernel) ⟨Nat.le_of_ble_eq_true rfl, Nat.le_of_ble_eq_true rfl⟩) hK hNX hP hD hS 9 rfl rfl rfl rfl hl.1 rfl (Nat.le_of_ble_eq_true rfl) rd_M_move_120 ⟨Nat.zero_le _, Nat.zero_le _⟩ (fun o w1 H locs hq hP hD hS => ?_)
          obtain ⟨rfl, e9⟩ := hq
          rw [e9] at hP hD
          refine W.eq (g2 := F0 m 123 ls [.int (iv ((bl (A1 - A2) : Int)))]) rfl ?_
          refine lv_sipush (v := iv (4800)) hx hb rd_M_move_123 (by decide) ?_
          refine iw_icmp_le (tgt := 132) hx hb rd_M_move_126 (by decide) ⟨by omega, by omega⟩ ⟨by omega, by omega⟩ (fun c5 => ?_) (fun c5 => ?_)
          ·
            refine lv_aload_n hx hb rd_M_move_132 rfl (lv_at hl 2 rfl) ?_
            refine va_getN (D := (dC, dI)) (ci := 4) (v := .ref (r 23)) (C := rR4) (T := rT4) (N := 4) hx hb hts (fun w h => List.mem_cons_of_mem _ (rin4 w h)) hown hK hP 4 rfl rfl 1 (by decide) (hNX.use rm_287 rfl) (fun _ h9 => h9) rfl rd_M_move_133 ?_
            refine lv_aload_n hx hb rd_M_move_136 rfl (lv_at hl 3 rfl) ?_
            refine va_get (D := (dC, dI)) (ci := 5) (v := .ref (r 9)) (C := rR5) (T := rT5) (N := 7) hx hb hts (fun w h => List.mem_cons_of_mem _ (rin5 w h)) hown hK hP 0 rfl rfl 6 (by decide) (hts _ (List.mem_cons_of_mem _ rm_316)) (fun _ h9 => h9) rfl rd_M_move_137 ?_
            refine ef_callV (As := [.ref (r 9)]) (rest := []) ⟨hx, hb, hml, hown, hts⟩ (b_copy l dC dI ht (isB_c (X := A2) (F := (J 9)) (ws := rC cI r ((V 0)) ((V 1)) (A1 - A2) ((V 3)) ((V 4)) ((V 5)) ((V 6)) (A1) (U1) (A2) (U2) ((J 0)) ((J 1)) (g_5) ((J 3)) ((J 4)) ((J 5)) ((J 6)) ((J 7)) ((J 8)) ((J 9)) ((J 10)) (pb) (pe) (ob) (oe) (b1) (e1) (b2) (e2)) (k0 := 23) (k1 := 24) (by decide) rfl rfl) (isB_c (X := A1 - A2) (F := g_5) (ws := rC cI r ((V 0)) ((V 1)) (A1 - A2) ((V 3)) ((V 4)) ((V 5)) ((V 6)) (A1) (U1) (A2) (U2) ((J 0)) ((J 1)) (g_5) ((J 3)) ((J 4)) ((J 5)) ((J 6)) ((J 7)) ((J 8)) ((J 9)) ((J 10)) (pb) (pe) (ob) (oe) (b1) (e1) (b2) (e2)) (k0 := 9) (k1 := 10) (by decide) rfl rfl) hg_6.1 hg_6.2 (apt_c (k0 := 23) (k1 := 24) (j0 := 9) (j1 := 10) rfl)) (cwV 1 hts (ef_goodV rm_352 rm_353 rm_354 rm_25 rm_355) rfl rfl rfl (by decide +kernel) ⟨Nat.le_of_ble_eq_true rfl, Nat.le_of_ble_eq_true rfl⟩) hK hNX hP hD hS 23 rfl rfl rfl rfl hl.1 rfl (Nat.le_of_ble_eq_true rfl) rd_M_move_140 ⟨Nat.zero_le _, Nat.zero_le _⟩ (fun o w1 H locs hq hP hD hS => ?_)
            obtain ⟨rfl, g_9, rfl, hg_10⟩ := hq
            have hP : va_P (dC, dI) vwCl (rC cI r ((V 0)) ((V 1)) (A1 - A2) ((V 3)) ((V 4)) ((V 5)) ((V 6)) (A1) (U1) (A1 - A2) (U2) ((J 0)) ((J 1)) (g_5) ((J 3)) ((J 4)) ((J 5)) ((J 6)) ((J 7)) ((J 8)) (g_9) ((J 10)) (pb) (pe) (ob) (oe) (b1) (e1) (b2) (e2)) H := hP
            have hD : va_D (ef_A (rC cI r ((V 0)) ((V 1)) ((V 2)) ((V 3)) ((V 4)) ((V 5)) ((V 6)) (A1) (U1) (A2) (U2) ((J 0)) ((J 1)) ((J 2)) ((J 3)) ((J 4)) ((J 5)) ((J 6)) ((J 7)) ((J 8)) ((J 9)) ((J 10)) (pb) (pe) (ob) (oe) (b1) (e1) (b2) (e2))) (rC cI r ((V 0)) ((V 1)) (A1 - A2) ((V 3)) ((V 4)) ((V 5)) ((V 6)) (A1) (U1) (A1 - A2) (U2) ((J 0)) ((J 1)) (g_5) ((J 3)) ((J 4)) ((J 5)) ((J 6)) ((J 7)) ((J 8)) (g_9) ((J 10)) (pb) (pe) (ob) (oe) (b1) (e1) (b2) (e2)) := hD
            have hg_10 : bk (A1 - A2) g_9 := ⟨hg_10, hg_6.2⟩
            refine W.eq (g2 := F0 m 143 ls []) rfl ?_
            refine lv_aload_n hx hb rd_M_move_143 rfl (lv_at hl 2 rfl) ?_
            refine lv_iload hx hb rd_M_move_144 (lv_at hl 0 rfl) ?_
            refine va_putN (D := (dC, dI)) (ci := 4) (v := .int (iv (dw))) (ty := .boolean) (C := rR4) (T := rT4) (N := 4) hx hb hts (fun w h => List.mem_cons_of_mem _ (rin4 w h)) rty4 rtyok4 rnm4 hown hK hP hD hS 4 rfl rfl 0 (by decide) (hNX.use rm_285 rfl) (fun _ h9 => h9) rfl (by decide +kernel) (by rcases hdn with h9 | h9 <;> rw [h9] <;> rfl) (by rcases hdn with h9 | h9 <;> rw [h9] <;> rfl) (Nat.le_of_ble_eq_true rfl) rd_M_move_146 (fun H locs hP hD hS => ?_)
            have hP : va_P (dC, dI) vwCl (rC cI r ((V 0)) ((V 1)) (A1 - A2) ((V 3)) ((V 4)) ((V 5)) ((V 6)) (A1) (U1) (A1 - A2) (U2) ((J 0)) ((J 1)) (g_5) ((J 3)) ((J 4)) ((J 5)) ((J 6)) ((J 7)) ((J 8)) (g_9) ((J 10)) (pb) (pe) (ob) (oe) (b1) (e1) (dw) (e2)) H := hP
            have hD : va_D (ef_A (rC cI r ((V 0)) ((V 1)) ((V 2)) ((V 3)) ((V 4)) ((V 5)) ((V 6)) (A1) (U1) (A2) (U2) ((J 0)) ((J 1)) ((J 2)) ((J 3)) ((J 4)) ((J 5)) ((J 6)) ((J 7)) ((J 8)) ((J 9)) ((J 10)) (pb) (pe) (ob) (oe) (b1) (e1) (b2) (e2))) (rC cI r ((V 0)) ((V 1)) (A1 - A2) ((V 3)) ((V 4)) ((V 5)) ((V 6)) (A1) (U1) (A1 - A2) (U2) ((J 0)) ((J 1)) (g_5) ((J 3)) ((J 4)) ((J 5)) ((J 6)) ((J 7)) ((J 8)) (g_9) ((J 10)) (pb) (pe) (ob) (oe) (b1) (e1) (dw) (e2)) := hD
            refine lv_aload_n hx hb rd_M_move_149 rfl (lv_at hl 2 rfl) ?_
            refine va_getN (D := (dC, dI)) (ci := 4) (v := .ref (r 23)) (C := rR4) (T := rT4) (N := 4) hx hb hts (fun w h => List.mem_cons_of_mem _ (rin4 w h)) hown hK hP 4 rfl rfl 1 (by decide) (hNX.use rm_287 rfl) (fun _ h9 => h9) rfl rd_M_move_150 ?_
            refine ef_callV (As := []) (rest := []) ⟨hx, hb, hml, hown, hts⟩ (b_bits l dC dI ht (isB_c (X := A1 - A2) (F := g_9) (ws := rC cI r ((V 0)) ((V 1)) (A1 - A2) ((V 3)) ((V 4)) ((V 5)) ((V 6)) (A1) (U1) (A1 - A2) (U2) ((J 0)) ((J 1)) (g_5) ((J 3)) ((J 4)) ((J 5)) ((J 6)) ((J 7)) ((J 8)) (g_9) ((J 10)) (pb) (pe) (ob) (oe) (b1) (e1) (dw) (e2)) (k0 := 23) (k1 := 24) (by decide) rfl rfl) hg_10.1 hg_10.2) (cwV 0 hts (ef_goodV rm_360 rm_361 rm_362 rm_25 rm_363) rfl rfl rfl (by decide +kernel) ⟨Nat.le_of_ble_eq_true rfl, Nat.le_of_ble_eq_true rfl⟩) hK hNX hP hD hS 23 rfl rfl rfl rfl hl.1 rfl (Nat.le_of_ble_eq_true rfl) rd_M_move_153 ⟨Nat.zero_le _, Nat.zero_le _⟩ (fun o w1 H locs hq hP hD hS => ?_)
            obtain ⟨rfl, e9⟩ := hq
            rw [e9] at hP hD
            refine W.eq (g2 := F0 m 156 ls [.int (iv ((bl (A1 - A2) : Int)))]) rfl ?_
            exact ef_iret hx hb hr hlocks hP hD hS rd_M_move_156 (⟨fun i => [((V 0)), ((V 1)), (A1 - A2), ((V 3)), ((V 4)), ((V 5)), ((V 6))].getD i 0, fun i => [((J 0)), ((J 1)), (g_5), ((J 3)), ((J 4)), ((J 5)), ((J 6)), ((J 7)), ((J 8)), (g_9), ((J 10))].getD i (fun _ => 0), _, _, _, _, rfl, rfl, rJ_of (hJ 0 (by decide)) (hJ 1 (by decide)) hg_6 (hJ 3 (by decide)) (hJ 4 (by decide)) (hJ 5 (by decide)) (hJ 6 (by decide)), kA1, kU1, hg_10, kU2⟩)
          ·
            exact absurd c5 (by omega)
      ·
        exact absurd ((zc_ge _ _).1 c3) (by omega)
    ·
      exact absurd c2 hd
  ·
    exact absurd k1 (by decide)

set_option maxRecDepth 100000 in
set_option maxHeartbeats 4000000 in
/-- move of no number -/
theorem r_movex (l : Launch) (dC : Nat → ClassId) (dI : Nat → Nat → Nat) {cI : ClassId} {tys : List (ClassId × FieldType)} (ht : tys[0]? = some (cI, .int)) (r : Nat → Nat) {V : Nat → Nat} {J : Nat → Nat → Nat} {A1 U1 A2 U2 : Nat} {pb pe ob oe b1 e1 b2 e2 : Int} (hJ : rJ V J) (kA1 : bk A1 (J 7)) (kU1 : bk U1 (J 8)) (kA2 : bk A2 (J 9)) (kU2 : bk U2 (J 10)) (mA1 : dn A1 ≤ 300) (mU1 : dn U1 ≤ 300) (mA2 : dn A2 ≤ 300) (mU2 : dn U2 ≤ 300) (z : Int) (hz : ir z) (hz0 : z ≠ 0) (hz1 : z ≠ 1) (dw : Int) : ef_C l ry_M_move rw_M_move ({ frames := 2, cells := 0, slots := 0, locals := 44 } : Room) [.ref (r 0), .int (iv (z)), .int (iv (dw))] (dC, dI) vwCl tys (rC cI r ((V 0)) ((V 1)) ((V 2)) ((V 3)) ((V 4)) ((V 5)) ((V 6)) (A1) (U1) (A2) (U2) ((J 0)) ((J 1)) ((J 2)) ((J 3)) ((J 4)) ((J 5)) ((J 6)) ((J 7)) ((J 8)) ((J 9)) ((J 10)) (pb) (pe) (ob) (oe) (b1) (e1) (b2) (e2)) (fun o w1 => ∃ (V2 : Nat → Nat) (J2 : Nat → Nat → Nat) (pb2 pe2 ob2 oe2 : Int), o = some (.int (iv (-1))) ∧ w1 = rC cI r (V2 0) (V2 1) (V2 2) (V2 3) (V2 4) (V2 5) (V2 6) (A1) (U1) (A2) (U2) (J2 0) (J2 1) (J2 2) (J2 3) (J2 4) (J2 5) (J2 6) (J2 7) (J2 8) (J2 9) (J2 10) (pb2) (pe2) (ob2) (oe2) (b1) (e1) (b2) (e2) ∧ rJ V2 J2 ∧ bk (A1) (J2 7) ∧ bk (U1) (J2 8) ∧ bk (A2) (J2 9) ∧ bk (U2) (J2 10)) := by
  refine ef_C.of (cc := rc_M_move) (maxL := 6) (ret := (some .int)) (by decide) rfl (Nat.le_of_ble_eq_true rfl) ?_
  intro p e s m below meth c ls hx hb hml hr hts hown hlocks hK hNX hP hD hS hl
  have hl : lv_has ls 6 [(0, .ref (r 0)), (1, .int (iv (z))), (2, .int (iv (dw)))] := hl
  have hown : s.vm.findClass rR5 = some m.cls := hown
  generalize hH : s.heap = H at hP ⊢
  have hS : va_S (ef_A (rC cI r ((V 0)) ((V 1)) ((V 2)) ((V 3)) ((V 4)) ((V 5)) ((V 6)) (A1) (U1) (A2) (U2) ((J 0)) ((J 1)) ((J 2)) ((J 3)) ((J 4)) ((J 5)) ((J 6)) ((J 7)) ((J 8)) ((J 9)) ((J 10)) (pb) (pe) (ob) (oe) (b1) (e1) (b2) (e2))) s.heap H [] := by rw [← hH]; exact hS
  generalize ([] : List Loc) = locs at hS ⊢
  refine lv_iload_n hx hb rd_M_move_0 rfl (lv_at hl 1 rfl) ?_
  refine ef_callS (As := [.int (iv (z))]) (rest := []) ⟨hx, hb, hml, hown, hts⟩ (r_isNumberx l dC dI ht r z hz hz0 hz1) (cwS 1 hts (ef_goodS rm_336 rm_337 rm_24 rm_338) rfl rfl rfl (by decide +kernel) ⟨Nat.le_of_ble_eq_true rfl, Nat.le_of_ble_eq_true rfl⟩) hK hNX hP hD hS rfl hl.1 rfl (Nat.le_of_ble_eq_true rfl) rd_M_move_1 ⟨Nat.zero_le _, Nat.zero_le _⟩ (fun o w1 H locs hq hP hD hS => ?_)
  obtain ⟨rfl, e9⟩ := hq
  rw [e9] at hP hD
  refine W.eq (g2 := F0 m 4 ls [.int (iv (0))]) rfl ?_
  refine iw_if_ne (tgt := 9) hx hb rd_M_move_4 (by decide) ⟨by omega, by omega⟩ (fun k1 => ?_) (fun k1 => ?_)
  ·
    exact absurd rfl k1
  ·
    refine lv_iconst (v := iv (-1)) hx hb rd_M_move_7 (by decide) ?_
    exact ef_iret hx hb hr hlocks hP hD hS rd_M_move_8 (⟨fun i => [((V 0)), ((V 1)), ((V 2)), ((V 3)), ((V 4)), ((V 5)), ((V 6))].getD i 0, fun i => [((J 0)), ((J 1)), ((J 2)), ((J 3)), ((J 4)), ((J 5)), ((J 6)), ((J 7)), ((J 8)), ((J 9)), ((J 10))].getD i (fun _ => 0), _, _, _, _, rfl, rfl, rJ_of (hJ 0 (by decide)) (hJ 1 (by decide)) (hJ 2 (by decide)) (hJ 3 (by decide)) (hJ 4 (by decide)) (hJ 5 (by decide)) (hJ 6 (by decide)), kA1, kU1, kA2, kU2⟩)
