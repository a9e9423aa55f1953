set_option maxRecDepth 100000 in
set_option maxHeartbeats 4000000 in
/-- begin -/
theorem r_begin0 (l : Launch) (dC : Nat → ClassId) (dI : Nat → Nat → Nat) {cI : ClassId} {tys : List (ClassId × FieldType)} (ht : tys[0]? = some (cI, .int)) (r : Nat → Nat) {V : Nat → Nat} {J : Nat → Nat → Nat} {A1 U1 A2 U2 : Nat} {pb pe ob oe b1 e1 b2 e2 : Int} (hJ : rJ V J) (kA1 : bk A1 (J 7)) (kU1 : bk U1 (J 8)) (kA2 : bk A2 (J 9)) (kU2 : bk U2 (J 10)) (mA1 : dn A1 ≤ 300) (mU1 : dn U1 ≤ 300) (mA2 : dn A2 ≤ 300) (mU2 : dn U2 ≤ 300) : ef_C l ry_M_begin rw_M_begin ({ frames := 2, cells := 0, slots := 0, locals := 46 } : Room) [.ref (r 0), .int (iv (0))] (dC, dI) vwCl tys (rC cI r ((V 0)) ((V 1)) ((V 2)) ((V 3)) ((V 4)) ((V 5)) ((V 6)) (A1) (U1) (A2) (U2) ((J 0)) ((J 1)) ((J 2)) ((J 3)) ((J 4)) ((J 5)) ((J 6)) ((J 7)) ((J 8)) ((J 9)) ((J 10)) (pb) (pe) (ob) (oe) (b1) (e1) (b2) (e2)) (fun o w1 => ∃ (V2 : Nat → Nat) (J2 : Nat → Nat → Nat) (pb2 pe2 ob2 oe2 : Int), o = some (.int (iv (0))) ∧ w1 = rC cI r (V2 0) (V2 1) (V2 2) (V2 3) (V2 4) (V2 5) (V2 6) (0) (1) (A2) (U2) (J2 0) (J2 1) (J2 2) (J2 3) (J2 4) (J2 5) (J2 6) (J2 7) (J2 8) (J2 9) (J2 10) (pb2) (pe2) (ob2) (oe2) (0) (0) (b2) (e2) ∧ rJ V2 J2 ∧ bk (0) (J2 7) ∧ bk (1) (J2 8) ∧ bk (A2) (J2 9) ∧ bk (U2) (J2 10)) := by
  refine ef_C.of (cc := rc_M_begin) (maxL := 2) (ret := (some .int)) (by decide) rfl (Nat.le_of_ble_eq_true rfl) ?_
  intro p e s m below meth c ls hx hb hml hr hts hown hlocks hK hNX hP hD hS hl
  have hl : lv_has ls 2 [(0, .ref (r 0)), (1, .int (iv (0)))] := hl
  have hown : s.vm.findClass rR5 = some m.cls := hown
  generalize hH : s.heap = H at hP ⊢
  have hS : va_S (ef_A (rC cI r ((V 0)) ((V 1)) ((V 2)) ((V 3)) ((V 4)) ((V 5)) ((V 6)) (A1) (U1) (A2) (U2) ((J 0)) ((J 1)) ((J 2)) ((J 3)) ((J 4)) ((J 5)) ((J 6)) ((J 7)) ((J 8)) ((J 9)) ((J 10)) (pb) (pe) (ob) (oe) (b1) (e1) (b2) (e2))) s.heap H [] := by rw [← hH]; exact hS
  generalize ([] : List Loc) = locs at hS ⊢
  refine lv_iload_n hx hb rd_M_begin_0 rfl (lv_at hl 1 rfl) ?_
  refine ef_callS (As := [.int (iv (0))]) (rest := []) ⟨hx, hb, hml, hown, hts⟩ (r_isNumber0 l dC dI ht r) (cwS 1 hts (ef_goodS rm_336 rm_337 rm_24 rm_338) rfl rfl rfl (by decide +kernel) ⟨Nat.le_of_ble_eq_true rfl, Nat.le_of_ble_eq_true rfl⟩) hK hNX hP hD hS rfl hl.1 rfl (Nat.le_of_ble_eq_true rfl) rd_M_begin_1 ⟨Nat.zero_le _, Nat.zero_le _⟩ (fun o w1 H locs hq hP hD hS => ?_)
  obtain ⟨rfl, e9⟩ := hq
  rw [e9] at hP hD
  refine W.eq (g2 := F0 m 4 ls [.int (iv (1))]) rfl ?_
  refine iw_if_ne (tgt := 9) hx hb rd_M_begin_4 (by decide) ⟨by omega, by omega⟩ (fun c1 => ?_) (fun c1 => ?_)
  ·
    refine lv_aload_n hx hb rd_M_begin_9 rfl (lv_at hl 0 rfl) ?_
    refine lv_iload_n hx hb rd_M_begin_10 rfl (lv_at hl 1 rfl) ?_
    refine ef_callV (As := [.int (iv (0))]) (rest := []) ⟨hx, hb, hml, hown, hts⟩ (r_numberOf0 l dC dI ht r) (cwV 1 hts (ef_goodV rm_339 rm_341 rm_12 rm_24 rm_342) rfl rfl rfl (by decide +kernel) ⟨Nat.le_of_ble_eq_true rfl, Nat.le_of_ble_eq_true rfl⟩) hK hNX hP hD hS 0 rfl rfl rfl rfl hl.1 rfl (Nat.le_of_ble_eq_true rfl) rd_M_begin_11 ⟨Nat.zero_le _, Nat.zero_le _⟩ (fun o w1 H locs hq hP hD hS => ?_)
    obtain ⟨rfl, e9⟩ := hq
    rw [e9] at hP hD
    refine W.eq (g2 := F0 m 14 ls [.ref (r 3)]) rfl ?_
    refine lv_lconst (v := jv (0)) hx hb rd_M_begin_14 (by decide) ?_
    refine ef_callV (As := [.long (jv (0))]) (rest := []) ⟨hx, hb, hml, hown, hts⟩ (r_set0 l dC dI ht r hJ kA1 kU1 kA2 kU2 mA1 mU1 mA2 mU2) (cwV 1 hts (ef_goodV rm_301 rm_302 rm_303 rm_26 rm_304) rfl rfl rfl (by decide +kernel) ⟨Nat.le_of_ble_eq_true rfl, Nat.le_of_ble_eq_true rfl⟩) hK hNX hP hD hS 3 rfl rfl rfl rfl hl.1 rfl (Nat.le_of_ble_eq_true rfl) rd_M_begin_15 ⟨Nat.zero_le _, Nat.zero_le _⟩ (fun o w1 H locs hq hP hD hS => ?_)
    obtain ⟨Vv_1, Jv_1, pbv_1, pev_1, obv_1, oev_1, rfl, rfl, hJv_1, kA1v_1, kU1v_1, kA2v_1, kU2v_1⟩ := hq
    have hP : va_P (dC, dI) vwCl (rC cI r ((Vv_1 0)) ((Vv_1 1)) ((Vv_1 2)) ((Vv_1 3)) ((Vv_1 4)) ((Vv_1 5)) ((Vv_1 6)) (0) (1) (A2) (U2) ((Jv_1 0)) ((Jv_1 1)) ((Jv_1 2)) ((Jv_1 3)) ((Jv_1 4)) ((Jv_1 5)) ((Jv_1 6)) ((Jv_1 7)) ((Jv_1 8)) ((Jv_1 9)) ((Jv_1 10)) (pbv_1) (pev_1) (obv_1) (oev_1) (0) (0) (b2) (e2)) H := hP
    have hD : va_D (ef_A (rC cI r ((V 0)) ((V 1)) ((V 2)) ((V 3)) ((V 4)) ((V 5)) ((V 6)) (A1) (U1) (A2) (U2) ((J 0)) ((J 1)) ((J 2)) ((J 3)) ((J 4)) ((J 5)) ((J 6)) ((J 7)) ((J 8)) ((J 9)) ((J 10)) (pb) (pe) (ob) (oe) (b1) (e1) (b2) (e2))) (rC cI r ((Vv_1 0)) ((Vv_1 1)) ((Vv_1 2)) ((Vv_1 3)) ((Vv_1 4)) ((Vv_1 5)) ((Vv_1 6)) (0) (1) (A2) (U2) ((Jv_1 0)) ((Jv_1 1)) ((Jv_1 2)) ((Jv_1 3)) ((Jv_1 4)) ((Jv_1 5)) ((Jv_1 6)) ((Jv_1 7)) ((Jv_1 8)) ((Jv_1 9)) ((Jv_1 10)) (pbv_1) (pev_1) (obv_1) (oev_1) (0) (0) (b2) (e2)) := hD
    refine W.eq (g2 := F0 m 18 ls []) rfl ?_
    refine lv_iconst (v := iv (0)) hx hb rd_M_begin_18 (by decide) ?_
    exact ef_iret hx hb hr hlocks hP hD hS rd_M_begin_19 (⟨fun i => [((Vv_1 0)), ((Vv_1 1)), ((Vv_1 2)), ((Vv_1 3)), ((Vv_1 4)), ((Vv_1 5)), ((Vv_1 6))].getD i 0, fun i => [((Jv_1 0)), ((Jv_1 1)), ((Jv_1 2)), ((Jv_1 3)), ((Jv_1 4)), ((Jv_1 5)), ((Jv_1 6)), ((Jv_1 7)), ((Jv_1 8)), ((Jv_1 9)), ((Jv_1 10))].getD i (fun _ => 0), _, _, _, _, rfl, rfl, rJ_of (hJv_1 0 (by decide)) (hJv_1 1 (by decide)) (hJv_1 2 (by decide)) (hJv_1 3 (by decide)) (hJv_1 4 (by decide)) (hJv_1 5 (by decide)) (hJv_1 6 (by decide)), kA1v_1, kU1v_1, kA2v_1, kU2v_1⟩)
  ·
    exact absurd c1 (by decide)

set_option maxRecDepth 100000 in
set_option maxHeartbeats 4000000 in
/-- begin -/
theorem r_begin1 (l : Launch) (dC : Nat → ClassId) (dI : Nat → Nat → Nat) {cI : ClassId} {tys : List (ClassId × FieldType)} (ht : tys[0]? = some (cI, .int)) (r : Nat → Nat) {V : Nat → Nat} {J : Nat → Nat → Nat} {A1 U1 A2 U2 : Nat} {pb pe ob oe b1 e1 b2 e2 : Int} (hJ : rJ V J) (kA1 : bk A1 (J 7)) (kU1 : bk U1 (J 8)) (kA2 : bk A2 (J 9)) (kU2 : bk U2 (J 10)) (mA1 : dn A1 ≤ 300) (mU1 : dn U1 ≤ 300) (mA2 : dn A2 ≤ 300) (mU2 : dn U2 ≤ 300) : ef_C l ry_M_begin rw_M_begin ({ frames := 2, cells := 0, slots := 0, locals := 46 } : Room) [.ref (r 0), .int (iv (1))] (dC, dI) vwCl tys (rC cI r ((V 0)) ((V 1)) ((V 2)) ((V 3)) ((V 4)) ((V 5)) ((V 6)) (A1) (U1) (A2) (U2) ((J 0)) ((J 1)) ((J 2)) ((J 3)) ((J 4)) ((J 5)) ((J 6)) ((J 7)) ((J 8)) ((J 9)) ((J 10)) (pb) (pe) (ob) (oe) (b1) (e1) (b2) (e2)) (fun o w1 => ∃ (V2 : Nat → Nat) (J2 : Nat → Nat → Nat) (pb2 pe2 ob2 oe2 : Int), o = some (.int (iv (0))) ∧ w1 = rC cI r (V2 0) (V2 1) (V2 2) (V2 3) (V2 4) (V2 5) (V2 6) (A1) (U1) (0) (1) (J2 0) (J2 1) (J2 2) (J2 3) (J2 4) (J2 5) (J2 6) (J2 7) (J2 8) (J2 9) (J2 10) (pb2) (pe2) (ob2) (oe2) (b1) (e1) (0) (0) ∧ rJ V2 J2 ∧ bk (A1) (J2 7) ∧ bk (U1) (J2 8) ∧ bk (0) (J2 9) ∧ bk (1) (J2 10)) := by
  refine ef_C.of (cc := rc_M_begin) (maxL := 2) (ret := (some .int)) (by decide) rfl (Nat.le_of_ble_eq_true rfl) ?_
  intro p e s m below meth c ls hx hb hml hr hts hown hlocks hK hNX hP hD hS hl
  have hl : lv_has ls 2 [(0, .ref (r 0)), (1, .int (iv (1)))] := hl
  have hown : s.vm.findClass rR5 = some m.cls := hown
  generalize hH : s.heap = H at hP ⊢
  have hS : va_S (ef_A (rC cI r ((V 0)) ((V 1)) ((V 2)) ((V 3)) ((V 4)) ((V 5)) ((V 6)) (A1) (U1) (A2) (U2) ((J 0)) ((J 1)) ((J 2)) ((J 3)) ((J 4)) ((J 5)) ((J 6)) ((J 7)) ((J 8)) ((J 9)) ((J 10)) (pb) (pe) (ob) (oe) (b1) (e1) (b2) (e2))) s.heap H [] := by rw [← hH]; exact hS
  generalize ([] : List Loc) = locs at hS ⊢
  refine lv_iload_n hx hb rd_M_begin_0 rfl (lv_at hl 1 rfl) ?_
  refine ef_callS (As := [.int (iv (1))]) (rest := []) ⟨hx, hb, hml, hown, hts⟩ (r_isNumber1 l dC dI ht r) (cwS 1 hts (ef_goodS rm_336 rm_337 rm_24 rm_338) rfl rfl rfl (by decide +kernel) ⟨Nat.le_of_ble_eq_true rfl, Nat.le_of_ble_eq_true rfl⟩) hK hNX hP hD hS rfl hl.1 rfl (Nat.le_of_ble_eq_true rfl) rd_M_begin_1 ⟨Nat.zero_le _, Nat.zero_le _⟩ (fun o w1 H locs hq hP hD hS => ?_)
  obtain ⟨rfl, e9⟩ := hq
  rw [e9] at hP hD
  refine W.eq (g2 := F0 m 4 ls [.int (iv (1))]) rfl ?_
  refine iw_if_ne (tgt := 9) hx hb rd_M_begin_4 (by decide) ⟨by omega, by omega⟩ (fun c1 => ?_) (fun c1 => ?_)
  ·
    refine lv_aload_n hx hb rd_M_begin_9 rfl (lv_at hl 0 rfl) ?_
    refine lv_iload_n hx hb rd_M_begin_10 rfl (lv_at hl 1 rfl) ?_
    refine ef_callV (As := [.int (iv (1))]) (rest := []) ⟨hx, hb, hml, hown, hts⟩ (r_numberOf1 l dC dI ht r) (cwV 1 hts (ef_goodV rm_339 rm_341 rm_12 rm_24 rm_342) rfl rfl rfl (by decide +kernel) ⟨Nat.le_of_ble_eq_true rfl, Nat.le_of_ble_eq_true rfl⟩) hK hNX hP hD hS 0 rfl rfl rfl rfl hl.1 rfl (Nat.le_of_ble_eq_true rfl) rd_M_begin_11 ⟨Nat.zero_le _, Nat.zero_le _⟩ (fun o w1 H locs hq hP hD hS => ?_)
    obtain ⟨rfl, e9⟩ := hq
    rw [e9] at hP hD
    refine W.eq (g2 := F0 m 14 ls [.ref (r 4)]) rfl ?_
    refine lv_lconst (v := jv (0)) hx hb rd_M_begin_14 (by decide) ?_
    refine ef_callV (As := [.long (jv (0))]) (rest := []) ⟨hx, hb, hml, hown, hts⟩ (r_set1 l dC dI ht r hJ kA1 kU1 kA2 kU2 mA1 mU1 mA2 mU2) (cwV 1 hts (ef_goodV rm_301 rm_302 rm_303 rm_26 rm_304) rfl rfl rfl (by decide +kernel) ⟨Nat.le_of_ble_eq_true rfl, Nat.le_of_ble_eq_true rfl⟩) hK hNX hP hD hS 4 rfl rfl rfl rfl hl.1 rfl (Nat.le_of_ble_eq_true rfl) rd_M_begin_15 ⟨Nat.zero_le _, Nat.zero_le _⟩ (fun o w1 H locs hq hP hD hS => ?_)
    obtain ⟨Vv_1, Jv_1, pbv_1, pev_1, obv_1, oev_1, rfl, rfl, hJv_1, kA1v_1, kU1v_1, kA2v_1, kU2v_1⟩ := hq
    have hP : va_P (dC, dI) vwCl (rC cI r ((Vv_1 0)) ((Vv_1 1)) ((Vv_1 2)) ((Vv_1 3)) ((Vv_1 4)) ((Vv_1 5)) ((Vv_1 6)) (A1) (U1) (0) (1) ((Jv_1 0)) ((Jv_1 1)) ((Jv_1 2)) ((Jv_1 3)) ((Jv_1 4)) ((Jv_1 5)) ((Jv_1 6)) ((Jv_1 7)) ((Jv_1 8)) ((Jv_1 9)) ((Jv_1 10)) (pbv_1) (pev_1) (obv_1) (oev_1) (b1) (e1) (0) (0)) H := hP
    have hD : va_D (ef_A (rC cI r ((V 0)) ((V 1)) ((V 2)) ((V 3)) ((V 4)) ((V 5)) ((V 6)) (A1) (U1) (A2) (U2) ((J 0)) ((J 1)) ((J 2)) ((J 3)) ((J 4)) ((J 5)) ((J 6)) ((J 7)) ((J 8)) ((J 9)) ((J 10)) (pb) (pe) (ob) (oe) (b1) (e1) (b2) (e2))) (rC cI r ((Vv_1 0)) ((Vv_1 1)) ((Vv_1 2)) ((Vv_1 3)) ((Vv_1 4)) ((Vv_1 5)) ((Vv_1 6)) (A1) (U1) (0) (1) ((Jv_1 0)) ((Jv_1 1)) ((Jv_1 2)) ((Jv_1 3)) ((Jv_1 4)) ((Jv_1 5)) ((Jv_1 6)) ((Jv_1 7)) ((Jv_1 8)) ((Jv_1 9)) ((Jv_1 10)) (pbv_1) (pev_1) (obv_1) (oev_1) (b1) (e1) (0) (0)) := hD
    refine W.eq (g2 := F0 m 18 ls []) rfl ?_
    refine lv_iconst (v := iv (0)) hx hb rd_M_begin_18 (by decide) ?_
    exact ef_iret hx hb hr hlocks hP hD hS rd_M_begin_19 (⟨fun i => [((Vv_1 0)), ((Vv_1 1)), ((Vv_1 2)), ((Vv_1 3)), ((Vv_1 4)), ((Vv_1 5)), ((Vv_1 6))].getD i 0, fun i => [((Jv_1 0)), ((Jv_1 1)), ((Jv_1 2)), ((Jv_1 3)), ((Jv_1 4)), ((Jv_1 5)), ((Jv_1 6)), ((Jv_1 7)), ((Jv_1 8)), ((Jv_1 9)), ((Jv_1 10))].getD i (fun _ => 0), _, _, _, _, rfl, rfl, rJ_of (hJv_1 0 (by decide)) (hJv_1 1 (by decide)) (hJv_1 2 (by decide)) (hJv_1 3 (by decide)) (hJv_1 4 (by decide)) (hJv_1 5 (by decide)) (hJv_1 6 (by decide)), kA1v_1, kU1v_1, kA2v_1, kU2v_1⟩)
  ·
    exact absurd c1 (by decide)

set_option maxRecDepth 100000 in
set_option maxHeartbeats 4000000 in
/-- begin -/
theorem r_beginx (l : Launch) (dC : Nat → ClassId) (dI : Nat → Nat → Nat) {cI : ClassId} {tys : List (ClassId × FieldType)} (ht : tys[0]? = some (cI, .int)) (r : Nat → Nat) {V : Nat → Nat} {J : Nat → Nat → Nat} {A1 U1 A2 U2 : Nat} {pb pe ob oe b1 e1 b2 e2 : Int} (hJ : rJ V J) (kA1 : bk A1 (J 7)) (kU1 : bk U1 (J 8)) (kA2 : bk A2 (J 9)) (kU2 : bk U2 (J 10)) (mA1 : dn A1 ≤ 300) (mU1 : dn U1 ≤ 300) (mA2 : dn A2 ≤ 300) (mU2 : dn U2 ≤ 300) (z : Int) (hz : ir z) (hz0 : z ≠ 0) (hz1 : z ≠ 1) : ef_C l ry_M_begin rw_M_begin ({ frames := 2, cells := 0, slots := 0, locals := 46 } : Room) [.ref (r 0), .int (iv (z))] (dC, dI) vwCl tys (rC cI r ((V 0)) ((V 1)) ((V 2)) ((V 3)) ((V 4)) ((V 5)) ((V 6)) (A1) (U1) (A2) (U2) ((J 0)) ((J 1)) ((J 2)) ((J 3)) ((J 4)) ((J 5)) ((J 6)) ((J 7)) ((J 8)) ((J 9)) ((J 10)) (pb) (pe) (ob) (oe) (b1) (e1) (b2) (e2)) (fun o w1 => ∃ (V2 : Nat → Nat) (J2 : Nat → Nat → Nat) (pb2 pe2 ob2 oe2 : Int), o = some (.int (iv (-1))) ∧ w1 = rC cI r (V2 0) (V2 1) (V2 2) (V2 3) (V2 4) (V2 5) (V2 6) (A1) (U1) (A2) (U2) (J2 0) (J2 1) (J2 2) (J2 3) (J2 4) (J2 5) (J2 6) (J2 7) (J2 8) (J2 9) (J2 10) (pb2) (pe2) (ob2) (oe2) (b1) (e1) (b2) (e2) ∧ rJ V2 J2 ∧ bk (A1) (J2 7) ∧ bk (U1) (J2 8) ∧ bk (A2) (J2 9) ∧ bk (U2) (J2 10)) := by
  refine ef_C.of (cc := rc_M_begin) (maxL := 2) (ret := (some .int)) (by decide) rfl (Nat.le_of_ble_eq_true rfl) ?_
  intro p e s m below meth c ls hx hb hml hr hts hown hlocks hK hNX hP hD hS hl
  have hl : lv_has ls 2 [(0, .ref (r 0)), (1, .int (iv (z)))] := hl
  have hown : s.vm.findClass rR5 = some m.cls := hown
  generalize hH : s.heap = H at hP ⊢
  have hS : va_S (ef_A (rC cI r ((V 0)) ((V 1)) ((V 2)) ((V 3)) ((V 4)) ((V 5)) ((V 6)) (A1) (U1) (A2) (U2) ((J 0)) ((J 1)) ((J 2)) ((J 3)) ((J 4)) ((J 5)) ((J 6)) ((J 7)) ((J 8)) ((J 9)) ((J 10)) (pb) (pe) (ob) (oe) (b1) (e1) (b2) (e2))) s.heap H [] := by rw [← hH]; exact hS
  generalize ([] : List Loc) = locs at hS ⊢
  refine lv_iload_n hx hb rd_M_begin_0 rfl (lv_at hl 1 rfl) ?_
  refine ef_callS (As := [.int (iv (z))]) (rest := []) ⟨hx, hb, hml, hown, hts⟩ (r_isNumberx l dC dI ht r z hz hz0 hz1) (cwS 1 hts (ef_goodS rm_336 rm_337 rm_24 rm_338) rfl rfl rfl (by decide +kernel) ⟨Nat.le_of_ble_eq_true rfl, Nat.le_of_ble_eq_true rfl⟩) hK hNX hP hD hS rfl hl.1 rfl (Nat.le_of_ble_eq_true rfl) rd_M_begin_1 ⟨Nat.zero_le _, Nat.zero_le _⟩ (fun o w1 H locs hq hP hD hS => ?_)
  obtain ⟨rfl, e9⟩ := hq
  rw [e9] at hP hD
  refine W.eq (g2 := F0 m 4 ls [.int (iv (0))]) rfl ?_
  refine iw_if_ne (tgt := 9) hx hb rd_M_begin_4 (by decide) ⟨by omega, by omega⟩ (fun c1 => ?_) (fun c1 => ?_)
  ·
    exact absurd rfl c1
  ·
    refine lv_iconst (v := iv (-1)) hx hb rd_M_begin_7 (by decide) ?_
    exact ef_iret hx hb hr hlocks hP hD hS rd_M_begin_8 (⟨fun i => [((V 0)), ((V 1)), ((V 2)), ((V 3)), ((V 4)), ((V 5)), ((V 6))].getD i 0, fun i => [((J 0)), ((J 1)), ((J 2)), ((J 3)), ((J 4)), ((J 5)), ((J 6)), ((J 7)), ((J 8)), ((J 9)), ((J 10))].getD i (fun _ => 0), _, _, _, _, rfl, rfl, rJ_of (hJ 0 (by decide)) (hJ 1 (by decide)) (hJ 2 (by decide)) (hJ 3 (by decide)) (hJ 4 (by decide)) (hJ 5 (by decide)) (hJ 6 (by decide)), kA1, kU1, kA2, kU2⟩)

set_option maxRecDepth 100000 in
set_option maxHeartbeats 4000000 in
/-- digit -/
theorem r_digit00F (l : Launch) (dC : Nat → ClassId) (dI : Nat → Nat → Nat) {cI : ClassId} {tys : List (ClassId × FieldType)} (ht : tys[0]? = some (cI, .int)) (r : Nat → Nat) {V : Nat → Nat} {J : Nat → Nat → Nat} {A1 U1 A2 U2 : Nat} {pb pe ob oe b1 e1 b2 e2 : Int} (hJ : rJ V J) (kA1 : bk A1 (J 7)) (kU1 : bk U1 (J 8)) (kA2 : bk A2 (J 9)) (kU2 : bk U2 (J 10)) (mA1 : dn A1 ≤ 300) (mU1 : dn U1 ≤ 300) (mA2 : dn A2 ≤ 300) (mU2 : dn U2 ≤ 300) (mu mo : Nat) (hm1 : 1 ≤ mu) (hmu : mu ≤ 1000000) (hmo : mo ≤ 1000000) (hb4 : 4800 < bl (A1 * mu + mo)) : ef_C l ry_M_digit rw_M_digit ({ frames := 1, cells := 0, slots := 0, locals := 27 } : Room) [.ref (r 0), .int (iv (0)), .int (iv (0)), .int (iv ((mu : Int))), .int (iv ((mo : Int)))] (dC, dI) vwCl tys (rC cI r ((V 0)) ((V 1)) ((V 2)) ((V 3)) ((V 4)) ((V 5)) ((V 6)) (A1) (U1) (A2) (U2) ((J 0)) ((J 1)) ((J 2)) ((J 3)) ((J 4)) ((J 5)) ((J 6)) ((J 7)) ((J 8)) ((J 9)) ((J 10)) (pb) (pe) (ob) (oe) (b1) (e1) (b2) (e2)) (fun o w1 => ∃ (V2 : Nat → Nat) (J2 : Nat → Nat → Nat) (pb2 pe2 ob2 oe2 : Int), o = some (.int (iv (-2))) ∧ w1 = rC cI r (V2 0) (V2 1) (V2 2) (V2 3) (V2 4) (V2 5) (V2 6) (A1) (U1) (A2) (U2) (J2 0) (J2 1) (J2 2) (J2 3) (J2 4) (J2 5) (J2 6) (J2 7) (J2 8) (J2 9) (J2 10) (pb2) (pe2) (ob2) (oe2) (b1) (e1) (b2) (e2) ∧ rJ V2 J2 ∧ bk (A1) (J2 7) ∧ bk (U1) (J2 8) ∧ bk (A2) (J2 9) ∧ bk (U2) (J2 10)) := by
  refine ef_C.of (cc := rc_M_digit) (maxL := 6) (ret := (some .int)) (by decide) rfl (Nat.le_of_ble_eq_true rfl) ?_
  intro p e s m below meth c ls hx hb hml hr hts hown hlocks hK hNX hP hD hS hl
  have hl : lv_has ls 6 [(0, .ref (r 0)), (1, .int (iv (0))), (2, .int (iv (0))), (3, .int (iv ((mu : Int)))), (4, .int (iv ((mo : Int))))] := hl
  have hown : s.vm.findClass rR5 = some m.cls := hown
  generalize hH : s.heap = H at hP ⊢
  have hS : va_S (ef_A (rC cI r ((V 0)) ((V 1)) ((V 2)) ((V 3)) ((V 4)) ((V 5)) ((V 6)) (A1) (U1) (A2) (U2) ((J 0)) ((J 1)) ((J 2)) ((J 3)) ((J 4)) ((J 5)) ((J 6)) ((J 7)) ((J 8)) ((J 9)) ((J 10)) (pb) (pe) (ob) (oe) (b1) (e1) (b2) (e2))) s.heap H [] := by rw [← hH]; exact hS
  generalize ([] : List Loc) = locs at hS ⊢
  have hdm := dn_mul mA1 hmu hmo
  have hbd : bl (A1 * mu + mo) ≤ 16 * 304 := bl_le (Nat.lt_of_lt_of_le (dn_lt _) (Nat.pow_le_pow_right (by decide) (by omega)))
  refine lv_iload_n hx hb rd_M_digit_0 rfl (lv_at hl 1 rfl) ?_
  refine ef_callS (As := [.int (iv (0))]) (rest := []) ⟨hx, hb, hml, hown, hts⟩ (r_isNumber0 l dC dI ht r) (cwS 1 hts (ef_goodS rm_336 rm_337 rm_24 rm_338) rfl rfl rfl (by decide +kernel) ⟨Nat.le_of_ble_eq_true rfl, Nat.le_of_ble_eq_true rfl⟩) hK hNX hP hD hS rfl hl.1 rfl (Nat.le_of_ble_eq_true rfl) rd_M_digit_1 ⟨Nat.zero_le _, Nat.zero_le _⟩ (fun o w1 H locs hq hP hD hS => ?_)
  obtain ⟨rfl, e9⟩ := hq
  rw [e9] at hP hD
  refine W.eq (g2 := F0 m 4 ls [.int (iv (1))]) rfl ?_
  refine iw_if_eq (tgt := 37) hx hb rd_M_digit_4 (by decide) ⟨by omega, by omega⟩ (fun k1 => ?_) (fun k1 => ?_)
  ·
    exact absurd k1 (by decide)
  ·
    refine lv_iload_n hx hb rd_M_digit_7 rfl (lv_at hl 2 rfl) ?_
    refine ef_callS (As := [.int (iv (0))]) (rest := []) ⟨hx, hb, hml, hown, hts⟩ (r_isNumber0 l dC dI ht r) (cwS 1 hts (ef_goodS rm_336 rm_337 rm_24 rm_338) rfl rfl rfl (by decide +kernel) ⟨Nat.le_of_ble_eq_true rfl, Nat.le_of_ble_eq_true rfl⟩) hK hNX hP hD hS rfl hl.1 rfl (Nat.le_of_ble_eq_true rfl) rd_M_digit_8 ⟨Nat.zero_le _, Nat.zero_le _⟩ (fun o w1 H locs hq hP hD hS => ?_)
    obtain ⟨rfl, e9⟩ := hq
    rw [e9] at hP hD
    refine W.eq (g2 := F0 m 11 ls [.int (iv (1))]) rfl ?_
    refine iw_if_eq (tgt := 37) hx hb rd_M_digit_11 (by decide) ⟨by omega, by omega⟩ (fun k2 => ?_) (fun k2 => ?_)
    ·
      exact absurd k2 (by decide)
    ·
      refine lv_iload_n hx hb rd_M_digit_14 rfl (lv_at hl 3 rfl) ?_
      refine lv_iconst (v := iv (1)) hx hb rd_M_digit_15 (by decide) ?_
      refine iw_icmp_lt (tgt := 37) hx hb rd_M_digit_16 (by decide) ⟨by omega, by omega⟩ ⟨by omega, by omega⟩ (fun c0 => ?_) (fun c0 => ?_)
      ·
        exact absurd c0 (by omega)
      ·
        refine lv_iload_n hx hb rd_M_digit_19 rfl (lv_at hl 3 rfl) ?_
        refine lv_ldc (v := iv (1000000)) hx hb hown (hts _ (List.mem_cons_of_mem _ rm_347)) rd_M_digit_20 ?_
        refine iw_icmp_gt (tgt := 37) hx hb rd_M_digit_22 (by decide) ⟨by omega, by omega⟩ ⟨by omega, by omega⟩ (fun c1 => ?_) (fun c1 => ?_)
        ·
          exact absurd c1 (by omega)
        ·
          refine lv_iload hx hb rd_M_digit_25 (lv_at hl 4 rfl) ?_
          refine iw_if_lt (tgt := 37) hx hb rd_M_digit_27 (by decide) ⟨by omega, by omega⟩ (fun c2 => ?_) (fun c2 => ?_)
          ·
            exact absurd c2 (by omega)
          ·
            refine lv_iload hx hb rd_M_digit_30 (lv_at hl 4 rfl) ?_
            refine lv_ldc (v := iv (1000000)) hx hb hown (hts _ (List.mem_cons_of_mem _ rm_347)) rd_M_digit_32 ?_
            refine iw_icmp_le (tgt := 39) hx hb rd_M_digit_34 (by decide) ⟨by omega, by omega⟩ ⟨by omega, by omega⟩ (fun c3 => ?_) (fun c3 => ?_)
            ·
              refine lv_aload_n hx hb rd_M_digit_39 rfl (lv_at hl 0 rfl) ?_
              refine lv_iload_n hx hb rd_M_digit_40 rfl (lv_at hl 1 rfl) ?_
              refine lv_iload_n hx hb rd_M_digit_41 rfl (lv_at hl 2 rfl) ?_
              refine ef_callV (As := [.int (iv (0)), .int (iv (0))]) (rest := []) ⟨hx, hb, hml, hown, hts⟩ (r_partOf00 l dC dI ht r) (cwV 2 hts (ef_goodV rm_348 rm_350 rm_13 rm_24 rm_351) rfl rfl rfl (by decide +kernel) ⟨Nat.le_of_ble_eq_true rfl, Nat.le_of_ble_eq_true rfl⟩) hK hNX hP hD hS 0 rfl rfl rfl rfl hl.1 rfl (Nat.le_of_ble_eq_true rfl) rd_M_digit_42 ⟨Nat.zero_le _, Nat.zero_le _⟩ (fun o w1 H locs hq hP hD hS => ?_)
              obtain ⟨rfl, e9⟩ := hq
              rw [e9] at hP hD
              refine W.eq (g2 := F0 m 45 ls [.ref (r 19)]) rfl ?_
              refine lv_astore (lv' := [(5, .ref (r 19)), (0, .ref (r 0)), (1, .int (iv (0))), (2, .int (iv (0))), (3, .int (iv ((mu : Int)))), (4, .int (iv ((mo : Int))))]) hx hb rd_M_digit_45 hl (by decide) rfl (fun ls hl => ?_)
              refine lv_aload_n hx hb rd_M_digit_47 rfl (lv_at hl 1 rfl) ?_
              refine va_get (D := (dC, dI)) (ci := 5) (v := .ref (r 9)) (C := rR5) (T := rT5) (N := 7) hx hb hts (fun w h => List.mem_cons_of_mem _ (rin5 w h)) hown hK hP 0 rfl rfl 6 (by decide) (hts _ (List.mem_cons_of_mem _ rm_316)) (fun _ h9 => h9) rfl rd_M_digit_48 ?_
              refine lv_aload hx hb rd_M_digit_51 (lv_at hl 0 rfl) ?_
              refine ef_callV (As := [.ref (r 19)]) (rest := []) ⟨hx, hb, hml, hown, hts⟩ (b_copy l dC dI ht (isB_c (X := (V 2)) (F := (J 2)) (ws := rC cI r ((V 0)) ((V 1)) ((V 2)) ((V 3)) ((V 4)) ((V 5)) ((V 6)) (A1) (U1) (A2) (U2) ((J 0)) ((J 1)) ((J 2)) ((J 3)) ((J 4)) ((J 5)) ((J 6)) ((J 7)) ((J 8)) ((J 9)) ((J 10)) (pb) (pe) (ob) (oe) (b1) (e1) (b2) (e2)) (k0 := 9) (k1 := 10) (by decide) rfl rfl) (isB_c (X := A1) (F := (J 7)) (ws := rC cI r ((V 0)) ((V 1)) ((V 2)) ((V 3)) ((V 4)) ((V 5)) ((V 6)) (A1) (U1) (A2) (U2) ((J 0)) ((J 1)) ((J 2)) ((J 3)) ((J 4)) ((J 5)) ((J 6)) ((J 7)) ((J 8)) ((J 9)) ((J 10)) (pb) (pe) (ob) (oe) (b1) (e1) (b2) (e2)) (k0 := 19) (k1 := 20) (by decide) rfl rfl) kA1.1 kA1.2 (apt_c (k0 := 9) (k1 := 10) (j0 := 19) (j1 := 20) rfl)) (cwV 1 hts (ef_goodV rm_352 rm_353 rm_354 rm_25 rm_355) rfl rfl rfl (by decide +kernel) ⟨Nat.le_of_ble_eq_true rfl, Nat.le_of_ble_eq_true rfl⟩) hK hNX hP hD hS 9 rfl rfl rfl rfl hl.1 rfl (Nat.le_of_ble_eq_true rfl) rd_M_digit_53 ⟨Nat.zero_le _, Nat.zero_le _⟩ (fun o w1 H locs hq hP hD hS => ?_)
              obtain ⟨rfl, g_1, rfl, hg_2⟩ := hq
              have hP : va_P (dC, dI) vwCl (rC cI r ((V 0)) ((V 1)) (A1) ((V 3)) ((V 4)) ((V 5)) ((V 6)) (A1) (U1) (A2) (U2) ((J 0)) ((J 1)) (g_1) ((J 3)) ((J 4)) ((J 5)) ((J 6)) ((J 7)) ((J 8)) ((J 9)) ((J 10)) (pb) (pe) (ob) (oe) (b1) (e1) (b2) (e2)) H := hP
              have hD : va_D (ef_A (rC cI r ((V 0)) ((V 1)) ((V 2)) ((V 3)) ((V 4)) ((V 5)) ((V 6)) (A1) (U1) (A2) (U2) ((J 0)) ((J 1)) ((J 2)) ((J 3)) ((J 4)) ((J 5)) ((J 6)) ((J 7)) ((J 8)) ((J 9)) ((J 10)) (pb) (pe) (ob) (oe) (b1) (e1) (b2) (e2))) (rC cI r ((V 0)) ((V 1)) (A1) ((V 3)) ((V 4)) ((V 5)) ((V 6)) (A1) (U1) (A2) (U2) ((J 0)) ((J 1)) (g_1) ((J 3)) ((J 4)) ((J 5)) ((J 6)) ((J 7)) ((J 8)) ((J 9)) ((J 10)) (pb) (pe) (ob) (oe) (b1) (e1) (b2) (e2)) := hD
              have hg_2 : bk (A1) g_1 := ⟨hg_2, kA1.2⟩
              refine W.eq (g2 := F0 m 56 ls []) rfl ?_
              refine lv_aload_n hx hb rd_M_digit_56 rfl (lv_at hl 1 rfl) ?_
              refine va_get (D := (dC, dI)) (ci := 5) (v := .ref (r 9)) (C := rR5) (T := rT5) (N := 7) hx hb hts (fun w h => List.mem_cons_of_mem _ (rin5 w h)) hown hK hP 0 rfl rfl 6 (by decide) (hts _ (List.mem_cons_of_mem _ rm_316)) (fun _ h9 => h9) rfl rd_M_digit_57 ?_
              refine lv_iload_n hx hb rd_M_digit_60 rfl (lv_at hl 4 rfl) ?_
              refine lv_iload hx hb rd_M_digit_61 (lv_at hl 5 rfl) ?_
              refine ef_callV (As := [.int (iv ((mu : Int))), .int (iv ((mo : Int)))]) (rest := []) ⟨hx, hb, hml, hown, hts⟩ (b_grow l dC dI ht (isB_c (X := A1) (F := g_1) (ws := rC cI r ((V 0)) ((V 1)) (A1) ((V 3)) ((V 4)) ((V 5)) ((V 6)) (A1) (U1) (A2) (U2) ((J 0)) ((J 1)) (g_1) ((J 3)) ((J 4)) ((J 5)) ((J 6)) ((J 7)) ((J 8)) ((J 9)) ((J 10)) (pb) (pe) (ob) (oe) (b1) (e1) (b2) (e2)) (k0 := 9) (k1 := 10) (by decide) rfl rfl) hg_2.1 (by omega) mu mo hm1 hmu hmo) (cwV 2 hts (ef_goodV rm_356 rm_357 rm_358 rm_25 rm_359) rfl rfl rfl (by decide +kernel) ⟨Nat.le_of_ble_eq_true rfl, Nat.le_of_ble_eq_true rfl⟩) hK hNX hP hD hS 9 rfl rfl rfl rfl hl.1 rfl (Nat.le_of_ble_eq_true rfl) rd_M_digit_63 ⟨Nat.zero_le _, Nat.zero_le _⟩ (fun o w1 H locs hq hP hD hS => ?_)
              obtain ⟨rfl, g_3, rfl, hg_4⟩ := hq
              have hP : va_P (dC, dI) vwCl (rC cI r ((V 0)) ((V 1)) (A1 * mu + mo) ((V 3)) ((V 4)) ((V 5)) ((V 6)) (A1) (U1) (A2) (U2) ((J 0)) ((J 1)) (g_3) ((J 3)) ((J 4)) ((J 5)) ((J 6)) ((J 7)) ((J 8)) ((J 9)) ((J 10)) (pb) (pe) (ob) (oe) (b1) (e1) (b2) (e2)) H := hP
              have hD : va_D (ef_A (rC cI r ((V 0)) ((V 1)) ((V 2)) ((V 3)) ((V 4)) ((V 5)) ((V 6)) (A1) (U1) (A2) (U2) ((J 0)) ((J 1)) ((J 2)) ((J 3)) ((J 4)) ((J 5)) ((J 6)) ((J 7)) ((J 8)) ((J 9)) ((J 10)) (pb) (pe) (ob) (oe) (b1) (e1) (b2) (e2))) (rC cI r ((V 0)) ((V 1)) (A1 * mu + mo) ((V 3)) ((V 4)) ((V 5)) ((V 6)) (A1) (U1) (A2) (U2) ((J 0)) ((J 1)) (g_3) ((J 3)) ((J 4)) ((J 5)) ((J 6)) ((J 7)) ((J 8)) ((J 9)) ((J 10)) (pb) (pe) (ob) (oe) (b1) (e1) (b2) (e2)) := hD
              have hg_4 : bk (A1 * mu + mo) g_3 := ⟨hg_4, by omega⟩
              refine W.eq (g2 := F0 m 66 ls []) rfl ?_
              refine lv_aload_n hx hb rd_M_digit_66 rfl (lv_at hl 1 rfl) ?_
              refine va_get (D := (dC, dI)) (ci := 5) (v := .ref (r 9)) (C := rR5) (T := rT5) (N := 7) hx hb hts (fun w h => List.mem_cons_of_mem _ (rin5 w h)) hown hK hP 0 rfl rfl 6 (by decide) (hts _ (List.mem_cons_of_mem _ rm_316)) (fun _ h9 => h9) rfl rd_M_digit_67 ?_
              refine ef_callV (As := []) (rest := []) ⟨hx, hb, hml, hown, hts⟩ (b_bits l dC dI ht (isB_c (X := A1 * mu + mo) (F := g_3) (ws := rC cI r ((V 0)) ((V 1)) (A1 * mu + mo) ((V 3)) ((V 4)) ((V 5)) ((V 6)) (A1) (U1) (A2) (U2) ((J 0)) ((J 1)) (g_3) ((J 3)) ((J 4)) ((J 5)) ((J 6)) ((J 7)) ((J 8)) ((J 9)) ((J 10)) (pb) (pe) (ob) (oe) (b1) (e1) (b2) (e2)) (k0 := 9) (k1 := 10) (by decide) rfl rfl) hg_4.1 hg_4.2) (cwV 0 hts (ef_goodV rm_360 rm_361 rm_362 rm_25 rm_363) rfl rfl rfl (by decide +kernel) ⟨Nat.le_of_ble_eq_true rfl, Nat.le_of_ble_eq_true rfl⟩) hK hNX hP hD hS 9 rfl rfl rfl rfl hl.1 rfl (Nat.le_of_ble_eq_true rfl) rd_M_digit_70 ⟨Nat.zero_le _, Nat.zero_le _⟩ (fun o w1 H locs hq hP hD hS => ?_)
              obtain ⟨rfl, e9⟩ := hq
              rw [e9] at hP hD
              refine W.eq (g2 := F0 m 73 ls [.int (iv ((bl (A1 * mu + mo) : Int)))]) rfl ?_
              refine lv_sipush (v := iv (4800)) hx hb rd_M_digit_73 (by decide) ?_
              refine iw_icmp_le (tgt := 82) hx hb rd_M_digit_76 (by decide) ⟨by omega, by omega⟩ ⟨by omega, by omega⟩ (fun c5 => ?_) (fun c5 => ?_)
              ·
                exact absurd c5 (by omega)
              ·
                refine lv_bipush (v := iv (-2)) hx hb rd_M_digit_79 (by decide) ?_
                exact ef_iret hx hb hr hlocks hP hD hS rd_M_digit_81 (⟨fun i => [((V 0)), ((V 1)), (A1 * mu + mo), ((V 3)), ((V 4)), ((V 5)), ((V 6))].getD i 0, fun i => [((J 0)), ((J 1)), (g_3), ((J 3)), ((J 4)), ((J 5)), ((J 6)), ((J 7)), ((J 8)), ((J 9)), ((J 10))].getD i (fun _ => 0), _, _, _, _, rfl, rfl, rJ_of (hJ 0 (by decide)) (hJ 1 (by decide)) hg_4 (hJ 3 (by decide)) (hJ 4 (by decide)) (hJ 5 (by decide)) (hJ 6 (by decide)), kA1, kU1, kA2, kU2⟩)
            ·
              exact absurd c3 (by omega)

set_option maxRecDepth 100000 in
set_option maxHeartbeats 4000000 in
/-- digit -/
theorem r_digit00K (l : Launch) (dC : Nat → ClassId) (dI : Nat → Nat → Nat) {cI : ClassId} {tys : List (ClassId × FieldType)} (ht : tys[0]? = some (cI, .int)) (r : Nat → Nat) {V : Nat → Nat} {J : Nat → Nat → Nat} {A1 U1 A2 U2 : Nat} {pb pe ob oe b1 e1 b2 e2 : Int} (hJ : rJ V J) (kA1 : bk A1 (J 7)) (kU1 : bk U1 (J 8)) (kA2 : bk A2 (J 9)) (kU2 : bk U2 (J 10)) (mA1 : dn A1 ≤ 300) (mU1 : dn U1 ≤ 300) (mA2 : dn A2 ≤ 300) (mU2 : dn U2 ≤ 300) (mu mo : Nat) (hm1 : 1 ≤ mu) (hmu : mu ≤ 1000000) (hmo : mo ≤ 1000000) (hb4 : bl (A1 * mu + mo) ≤ 4800) : ef_C l ry_M_digit rw_M_digit ({ frames := 1, cells := 0, slots := 0, locals := 27 } : Room) [.ref (r 0), .int (iv (0)), .int (iv (0)), .int (iv ((mu : Int))), .int (iv ((mo : Int)))] (dC, dI) vwCl tys (rC cI r ((V 0)) ((V 1)) ((V 2)) ((V 3)) ((V 4)) ((V 5)) ((V 6)) (A1) (U1) (A2) (U2) ((J 0)) ((J 1)) ((J 2)) ((J 3)) ((J 4)) ((J 5)) ((J 6)) ((J 7)) ((J 8)) ((J 9)) ((J 10)) (pb) (pe) (ob) (oe) (b1) (e1) (b2) (e2)) (fun o w1 => ∃ (V2 : Nat → Nat) (J2 : Nat → Nat → Nat) (pb2 pe2 ob2 oe2 : Int), o = some (.int (iv (bl (A1 * mu + mo) : Int))) ∧ w1 = rC cI r (V2 0) (V2 1) (V2 2) (V2 3) (V2 4) (V2 5) (V2 6) (A1 * mu + mo) (U1) (A2) (U2) (J2 0) (J2 1) (J2 2) (J2 3) (J2 4) (J2 5) (J2 6) (J2 7) (J2 8) (J2 9) (J2 10) (pb2) (pe2) (ob2) (oe2) (b1) (e1) (b2) (e2) ∧ rJ V2 J2 ∧ bk (A1 * mu + mo) (J2 7) ∧ bk (U1) (J2 8) ∧ bk (A2) (J2 9) ∧ bk (U2) (J2 10)) := by
  refine ef_C.of (cc := rc_M_digit) (maxL := 6) (ret := (some .int)) (by decide) rfl (Nat.le_of_ble_eq_true rfl) ?_
  intro p e s m below meth c ls hx hb hml hr hts hown hlocks hK hNX hP hD hS hl
  have hl : lv_has ls 6 [(0, .ref (r 0)), (1, .int (iv (0))), (2, .int (iv (0))), (3, .int (iv ((mu : Int)))), (4, .int (iv ((mo : Int))))] := hl
  have hown : s.vm.findClass rR5 = some m.cls := hown
  generalize hH : s.heap = H at hP ⊢
  have hS : va_S (ef_A (rC cI r ((V 0)) ((V 1)) ((V 2)) ((V 3)) ((V 4)) ((V 5)) ((V 6)) (A1) (U1) (A2) (U2) ((J 0)) ((J 1)) ((J 2)) ((J 3)) ((J 4)) ((J 5)) ((J 6)) ((J 7)) ((J 8)) ((J 9)) ((J 10)) (pb) (pe) (ob) (oe) (b1) (e1) (b2) (e2))) s.heap H [] := by rw [← hH]; exact hS
  generalize ([] : List Loc) = locs at hS ⊢
  have hdm := dn_mul mA1 hmu hmo
  have hbd : bl (A1 * mu + mo) ≤ 16 * 304 := bl_le (Nat.lt_of_lt_of_le (dn_lt _) (Nat.pow_le_pow_right (by decide) (by omega)))
  refine lv_iload_n hx hb rd_M_digit_0 rfl (lv_at hl 1 rfl) ?_
  refine ef_callS (As := [.int (iv (0))]) (rest := []) ⟨hx, hb, hml, hown, hts⟩ (r_isNumber0 l dC dI ht r) (cwS 1 hts (ef_goodS rm_336 rm_337 rm_24 rm_338) rfl rfl rfl (by decide +kernel) ⟨Nat.le_of_ble_eq_true rfl, Nat.le_of_ble_eq_true rfl⟩) hK hNX hP hD hS rfl hl.1 rfl (Nat.le_of_ble_eq_true rfl) rd_M_digit_1 ⟨Nat.zero_le _, Nat.zero_le _⟩ (fun o w1 H locs hq hP hD hS => ?_)
  obtain ⟨rfl, e9⟩ := hq
  rw [e9] at hP hD
  refine W.eq (g2 := F0 m 4 ls [.int (iv (1))]) rfl ?_
  refine iw_if_eq (tgt := 37) hx hb rd_M_digit_4 (by decide) ⟨by omega, by omega⟩ (fun k1 => ?_) (fun k1 => ?_)
  ·
    exact absurd k1 (by decide)
  ·
    refine lv_iload_n hx hb rd_M_digit_7 rfl (lv_at hl 2 rfl) ?_
    refine ef_callS (As := [.int (iv (0))]) (rest := []) ⟨hx, hb, hml, hown, hts⟩ (r_isNumber0 l dC dI ht r) (cwS 1 hts (ef_goodS rm_336 rm_337 rm_24 rm_338) rfl rfl rfl (by decide +kernel) ⟨Nat.le_of_ble_eq_true rfl, Nat.le_of_ble_eq_true rfl⟩) hK hNX hP hD hS rfl hl.1 rfl (Nat.le_of_ble_eq_true rfl) rd_M_digit_8 ⟨Nat.zero_le _, Nat.zero_le _⟩ (fun o w1 H locs hq hP hD hS => ?_)
    obtain ⟨rfl, e9⟩ := hq
    rw [e9] at hP hD
    refine W.eq (g2 := F0 m 11 ls [.int (iv (1))]) rfl ?_
    refine iw_if_eq (tgt := 37) hx hb rd_M_digit_11 (by decide) ⟨by omega, by omega⟩ (fun k2 => ?_) (fun k2 => ?_)
    ·
      exact absurd k2 (by decide)
    ·
      refine lv_iload_n hx hb rd_M_digit_14 rfl (lv_at hl 3 rfl) ?_
      refine lv_iconst (v := iv (1)) hx hb rd_M_digit_15 (by decide) ?_
      refine iw_icmp_lt (tgt := 37) hx hb rd_M_digit_16 (by decide) ⟨by omega, by omega⟩ ⟨by omega, by omega⟩ (fun c0 => ?_) (fun c0 => ?_)
      ·
        exact absurd c0 (by omega)
      ·
        refine lv_iload_n hx hb rd_M_digit_19 rfl (lv_at hl 3 rfl) ?_
        refine lv_ldc (v := iv (1000000)) hx hb hown (hts _ (List.mem_cons_of_mem _ rm_347)) rd_M_digit_20 ?_
        refine iw_icmp_gt (tgt := 37) hx hb rd_M_digit_22 (by decide) ⟨by omega, by omega⟩ ⟨by omega, by omega⟩ (fun c1 => ?_) (fun c1 => ?_)
        ·
          exact absurd c1 (by omega)
        ·
          refine lv_iload hx hb rd_M_digit_25 (lv_at hl 4 rfl) ?_
          refine iw_if_lt (tgt := 37) hx hb rd_M_digit_27 (by decide) ⟨by omega, by omega⟩ (fun c2 => ?_) (fun c2 => ?_)
          ·
            exact absurd c2 (by omega)
          ·
            refine lv_iload hx hb rd_M_digit_30 (lv_at hl 4 rfl) ?_
            refine lv_ldc (v := iv (1000000)) hx hb hown (hts _ (List.mem_cons_of_mem _ rm_347)) rd_M_digit_32 ?_
            refine iw_icmp_le (tgt := 39) hx hb rd_M_digit_34 (by decide) ⟨by omega, by omega⟩ ⟨by omega, by omega⟩ (fun c3 => ?_) (fun c3 => ?_)
            ·
              refine lv_aload_n hx hb rd_M_digit_39 rfl (lv_at hl 0 rfl) ?_
              refine lv_iload_n hx hb rd_M_digit_40 rfl (lv_at hl 1 rfl) ?_
              refine lv_iload_n hx hb rd_M_digit_41 rfl (lv_at hl 2 rfl) ?_
              refine ef_callV (As := [.int (iv (0)), .int (iv (0))]) (rest := []) ⟨hx, hb, hml, hown, hts⟩ (r_partOf00 l dC dI ht r) (cwV 2 hts (ef_goodV rm_348 rm_350 rm_13 rm_24 rm_351) rfl rfl rfl (by decide +kernel) ⟨Nat.le_of_ble_eq_true rfl, Nat.le_of_ble_eq_true rfl⟩) hK hNX hP hD hS 0 rfl rfl rfl rfl hl.1 rfl (Nat.le_of_ble_eq_true rfl) rd_M_digit_42 ⟨Nat.zero_le _, Nat.zero_le _⟩ (fun o w1 H locs hq hP hD hS => ?_)
              obtain ⟨rfl, e9⟩ := hq
              rw [e9] at hP hD
              refine W.eq (g2 := F0 m 45 ls [.ref (r 19)]) rfl ?_
              refine lv_astore (lv' := [(5, .ref (r 19)), (0, .ref (r 0)), (1, .int (iv (0))), (2, .int (iv (0))), (3, .int (iv ((mu : Int)))), (4, .int (iv ((mo : Int))))]) hx hb rd_M_digit_45 hl (by decide) rfl (fun ls hl => ?_)
              refine lv_aload_n hx hb rd_M_digit_47 rfl (lv_at hl 1 rfl) ?_
              refine va_get (D := (dC, dI)) (ci := 5) (v := .ref (r 9)) (C := rR5) (T := rT5) (N := 7) hx hb hts (fun w h => List.mem_cons_of_mem _ (rin5 w h)) hown hK hP 0 rfl rfl 6 (by decide) (hts _ (List.mem_cons_of_mem _ rm_316)) (fun _ h9 => h9) rfl rd_M_digit_48 ?_
              refine lv_aload hx hb rd_M_digit_51 (lv_at hl 0 rfl) ?_
              refine ef_callV (As := [.ref (r 19)]) (rest := []) ⟨hx, hb, hml, hown, hts⟩ (b_copy l dC dI ht (isB_c (X := (V 2)) (F := (J 2)) (ws := rC cI r ((V 0)) ((V 1)) ((V 2)) ((V 3)) ((V 4)) ((V 5)) ((V 6)) (A1) (U1) (A2) (U2) ((J 0)) ((J 1)) ((J 2)) ((J 3)) ((J 4)) ((J 5)) ((J 6)) ((J 7)) ((J 8)) ((J 9)) ((J 10)) (pb) (pe) (ob) (oe) (b1) (e1) (b2) (e2)) (k0 := 9) (k1 := 10) (by decide) rfl rfl) (isB_c (X := A1) (F := (J 7)) (ws := rC cI r ((V 0)) ((V 1)) ((V 2)) ((V 3)) ((V 4)) ((V 5)) ((V 6)) (A1) (U1) (A2) (U2) ((J 0)) ((J 1)) ((J 2)) ((J 3)) ((J 4)) ((J 5)) ((J 6)) ((J 7)) ((J 8)) ((J 9)) ((J 10)) (pb) (pe) (ob) (oe) (b1) (e1) (b2) (e2)) (k0 := 19) (k1 := 20) (by decide) rfl rfl) kA1.1 kA1.2 (apt_c (k0 := 9) (k1 := 10) (j0 := 19) (j1 := 20) rfl)) (cwV 1 hts (ef_goodV rm_352 rm_353 rm_354 rm_25 rm_355) rfl rfl rfl (by decide +kernel) ⟨Nat.le_of_ble_eq_true rfl, Nat.le_of_ble_eq_true rfl⟩) hK hNX hP hD hS 9 rfl rfl rfl rfl hl.1 rfl (Nat.le_of_ble_eq_true rfl) rd_M_digit_53 ⟨Nat.zero_le _, Nat.zero_le _⟩ (fun o w1 H locs hq hP hD hS => ?_)
              obtain ⟨rfl, g_1, rfl, hg_2⟩ := hq
              have hP : va_P (dC, dI) vwCl (rC cI r ((V 0)) ((V 1)) (A1) ((V 3)) ((V 4)) ((V 5)) ((V 6)) (A1) (U1) (A2) (U2) ((J 0)) ((J 1)) (g_1) ((J 3)) ((J 4)) ((J 5)) ((J 6)) ((J 7)) ((J 8)) ((J 9)) ((J 10)) (pb) (pe) (ob) (oe) (b1) (e1) (b2) (e2)) H := hP
              have hD : va_D (ef_A (rC cI r ((V 0)) ((V 1)) ((V 2)) ((V 3)) ((V 4)) ((V 5)) ((V 6)) (A1) (U1) (A2) (U2) ((J 0)) ((J 1)) ((J 2)) ((J 3)) ((J 4)) ((J 5)) ((J 6)) ((J 7)) ((J 8)) ((J 9)) ((J 10)) (pb) (pe) (ob) (oe) (b1) (e1) (b2) (e2))) (rC cI r ((V 0)) ((V 1)) (A1) ((V 3)) ((V 4)) ((V 5)) ((V 6)) (A1) (U1) (A2) (U2) ((J 0)) ((J 1)) (g_1) ((J 3)) ((J 4)) ((J 5)) ((J 6)) ((J 7)) ((J 8)) ((J 9)) ((J 10)) (pb) (pe) (ob) (oe) (b1) (e1) (b2) (e2)) := hD
              have hg_2 : bk (A1) g_1 := ⟨hg_2, kA1.2⟩
              refine W.eq (g2 := F0 m 56 ls []) rfl ?_
              refine lv_aload_n hx hb rd_M_digit_56 rfl (lv_at hl 1 rfl) ?_
              refine va_get (D := (dC, dI)) (ci := 5) (v := .ref (r 9)) (C := rR5) (T := rT5) (N := 7) hx hb hts (fun w h => List.mem_cons_of_mem _ (rin5 w h)) hown hK hP 0 rfl rfl 6 (by decide) (hts _ (List.mem_cons_of_mem _ rm_316)) (fun _ h9 => h9) rfl rd_M_digit_57 ?_
              refine lv_iload_n hx hb rd_M_digit_60 rfl (lv_at hl 4 rfl) ?_
              refine lv_iload hx hb rd_M_digit_61 (lv_at hl 5 rfl) ?_
              refine ef_callV (As := [.int (iv ((mu : Int))), .int (iv ((mo : Int)))]) (rest := []) ⟨hx, hb, hml, hown, hts⟩ (b_grow l dC dI ht (isB_c (X := A1) (F := g_1) (ws := rC cI r ((V 0)) ((V 1)) (A1) ((V 3)) ((V 4)) ((V 5)) ((V 6)) (A1) (U1) (A2) (U2) ((J 0)) ((J 1)) (g_1) ((J 3)) ((J 4)) ((J 5)) ((J 6)) ((J 7)) ((J 8)) ((J 9)) ((J 10)) (pb) (pe) (ob) (oe) (b1) (e1) (b2) (e2)) (k0 := 9) (k1 := 10) (by decide) rfl rfl) hg_2.1 (by omega) mu mo hm1 hmu hmo) (cwV 2 hts (ef_goodV rm_356 rm_357 rm_358 rm_25 rm_359) rfl rfl rfl (by decide +kernel) ⟨Nat.le_of_ble_eq_true rfl, Nat.le_of_ble_eq_true rfl⟩) hK hNX hP hD hS 9 rfl rfl rfl rfl hl.1 rfl (Nat.le_of_ble_eq_true rfl) rd_M_digit_63 ⟨Nat.zero_le _, Nat.zero_le _⟩ (fun o w1 H locs hq hP hD hS => ?_)
              obtain ⟨rfl, g_3, rfl, hg_4⟩ := hq
              have hP : va_P (dC, dI) vwCl (rC cI r ((V 0)) ((V 1)) (A1 * mu + mo) ((V 3)) ((V 4)) ((V 5)) ((V 6)) (A1) (U1) (A2) (U2) ((J 0)) ((J 1)) (g_3) ((J 3)) ((J 4)) ((J 5)) ((J 6)) ((J 7)) ((J 8)) ((J 9)) ((J 10)) (pb) (pe) (ob) (oe) (b1) (e1) (b2) (e2)) H := hP
              have hD : va_D (ef_A (rC cI r ((V 0)) ((V 1)) ((V 2)) ((V 3)) ((V 4)) ((V 5)) ((V 6)) (A1) (U1) (A2) (U2) ((J 0)) ((J 1)) ((J 2)) ((J 3)) ((J 4)) ((J 5)) ((J 6)) ((J 7)) ((J 8)) ((J 9)) ((J 10)) (pb) (pe) (ob) (oe) (b1) (e1) (b2) (e2))) (rC cI r ((V 0)) ((V 1)) (A1 * mu + mo) ((V 3)) ((V 4)) ((V 5)) ((V 6)) (A1) (U1) (A2) (U2) ((J 0)) ((J 1)) (g_3) ((J 3)) ((J 4)) ((J 5)) ((J 6)) ((J 7)) ((J 8)) ((J 9)) ((J 10)) (pb) (pe) (ob) (oe) (b1) (e1) (b2) (e2)) := hD
              have hg_4 : bk (A1 * mu + mo) g_3 := ⟨hg_4, by omega⟩
              refine W.eq (g2 := F0 m 66 ls []) rfl ?_
              refine lv_aload_n hx hb rd_M_digit_66 rfl (lv_at hl 1 rfl) ?_
              refine va_get (D := (dC, dI)) (ci := 5) (v := .ref (r 9)) (C := rR5) (T := rT5) (N := 7) hx hb hts (fun w h => List.mem_cons_of_mem _ (rin5 w h)) hown hK hP 0 rfl rfl 6 (by decide) (hts _ (List.mem_cons_of_mem _ rm_316)) (fun _ h9 => h9) rfl rd_M_digit_67 ?_
              refine ef_callV (As := []) (rest := []) ⟨hx, hb, hml, hown, hts⟩ (b_bits l dC dI ht (isB_c (X := A1 * mu + mo) (F := g_3) (ws := rC cI r ((V 0)) ((V 1)) (A1 * mu + mo) ((V 3)) ((V 4)) ((V 5)) ((V 6)) (A1) (U1) (A2) (U2) ((J 0)) ((J 1)) (g_3) ((J 3)) ((J 4)) ((J 5)) ((J 6)) ((J 7)) ((J 8)) ((J 9)) ((J 10)) (pb) (pe) (ob) (oe) (b1) (e1) (b2) (e2)) (k0 := 9) (k1 := 10) (by decide) rfl rfl) hg_4.1 hg_4.2) (cwV 0 hts (ef_goodV rm_360 rm_361 rm_362 rm_25 rm_363) rfl rfl rfl (by decide +kernel) ⟨Nat.le_of_ble_eq_true rfl, Nat.le_of_ble_eq_true rfl⟩) hK hNX hP hD hS 9 rfl rfl rfl rfl hl.1 rfl (Nat.le_of_ble_eq_true rfl) rd_M_digit_70 ⟨Nat.zero_le _, Nat.zero_le _⟩ (fun o w1 H locs hq hP hD hS => ?_)
              obtain ⟨rfl, e9⟩ := hq
              rw [e9] at hP hD
              refine W.eq (g2 := F0 m 73 ls [.int (iv ((bl (A1 * mu + mo) : Int)))]) rfl ?_
              refine lv_sipush (v := iv (4800)) hx hb rd_M_digit_73 (by decide) ?_
              refine iw_icmp_le (tgt := 82) hx hb rd_M_digit_76 (by decide) ⟨by omega, by omega⟩ ⟨by omega, by omega⟩ (fun c5 => ?_) (fun c5 => ?_)
              ·
                refine lv_aload hx hb rd_M_digit_82 (lv_at hl 0 rfl) ?_
                refine lv_aload_n hx hb rd_M_digit_84 rfl (lv_at hl 1 rfl) ?_
                refine va_get (D := (dC, dI)) (ci := 5) (v := .ref (r 9)) (C := rR5) (T := rT5) (N := 7) hx hb hts (fun w h => List.mem_cons_of_mem _ (rin5 w h)) hown hK hP 0 rfl rfl 6 (by decide) (hts _ (List.mem_cons_of_mem _ rm_316)) (fun _ h9 => h9) rfl rd_M_digit_85 ?_
                refine ef_callV (As := [.ref (r 9)]) (rest := []) ⟨hx, hb, hml, hown, hts⟩ (b_copy l dC dI ht (isB_c (X := A1) (F := (J 7)) (ws := rC cI r ((V 0)) ((V 1)) (A1 * mu + mo) ((V 3)) ((V 4)) ((V 5)) ((V 6)) (A1) (U1) (A2) (U2) ((J 0)) ((J 1)) (g_3) ((J 3)) ((J 4)) ((J 5)) ((J 6)) ((J 7)) ((J 8)) ((J 9)) ((J 10)) (pb) (pe) (ob) (oe) (b1) (e1) (b2) (e2)) (k0 := 19) (k1 := 20) (by decide) rfl rfl) (isB_c (X := A1 * mu + mo) (F := g_3) (ws := rC cI r ((V 0)) ((V 1)) (A1 * mu + mo) ((V 3)) ((V 4)) ((V 5)) ((V 6)) (A1) (U1) (A2) (U2) ((J 0)) ((J 1)) (g_3) ((J 3)) ((J 4)) ((J 5)) ((J 6)) ((J 7)) ((J 8)) ((J 9)) ((J 10)) (pb) (pe) (ob) (oe) (b1) (e1) (b2) (e2)) (k0 := 9) (k1 := 10) (by decide) rfl rfl) hg_4.1 hg_4.2 (apt_c (k0 := 19) (k1 := 20) (j0 := 9) (j1 := 10) rfl)) (cwV 1 hts (ef_goodV rm_352 rm_353 rm_354 rm_25 rm_355) rfl rfl rfl (by decide +kernel) ⟨Nat.le_of_ble_eq_true rfl, Nat.le_of_ble_eq_true rfl⟩) hK hNX hP hD hS 19 rfl rfl rfl rfl hl.1 rfl (Nat.le_of_ble_eq_true rfl) rd_M_digit_88 ⟨Nat.zero_le _, Nat.zero_le _⟩ (fun o w1 H locs hq hP hD hS => ?_)
                obtain ⟨rfl, g_5, rfl, hg_6⟩ := hq
                have hP : va_P (dC, dI) vwCl (rC cI r ((V 0)) ((V 1)) (A1 * mu + mo) ((V 3)) ((V 4)) ((V 5)) ((V 6)) (A1 * mu + mo) (U1) (A2) (U2) ((J 0)) ((J 1)) (g_3) ((J 3)) ((J 4)) ((J 5)) ((J 6)) (g_5) ((J 8)) ((J 9)) ((J 10)) (pb) (pe) (ob) (oe) (b1) (e1) (b2) (e2)) H := hP
                have hD : va_D (ef_A (rC cI r ((V 0)) ((V 1)) ((V 2)) ((V 3)) ((V 4)) ((V 5)) ((V 6)) (A1) (U1) (A2) (U2) ((J 0)) ((J 1)) ((J 2)) ((J 3)) ((J 4)) ((J 5)) ((J 6)) ((J 7)) ((J 8)) ((J 9)) ((J 10)) (pb) (pe) (ob) (oe) (b1) (e1) (b2) (e2))) (rC cI r ((V 0)) ((V 1)) (A1 * mu + mo) ((V 3)) ((V 4)) ((V 5)) ((V 6)) (A1 * mu + mo) (U1) (A2) (U2) ((J 0)) ((J 1)) (g_3) ((J 3)) ((J 4)) ((J 5)) ((J 6)) (g_5) ((J 8)) ((J 9)) ((J 10)) (pb) (pe) (ob) (oe) (b1) (e1) (b2) (e2)) := hD
                have hg_6 : bk (A1 * mu + mo) g_5 := ⟨hg_6, hg_4.2⟩
                refine W.eq (g2 := F0 m 91 ls []) rfl ?_
                refine lv_aload hx hb rd_M_digit_91 (lv_at hl 0 rfl) ?_
                refine ef_callV (As := []) (rest := []) ⟨hx, hb, hml, hown, hts⟩ (b_bits l dC dI ht (isB_c (X := A1 * mu + mo) (F := g_5) (ws := rC cI r ((V 0)) ((V 1)) (A1 * mu + mo) ((V 3)) ((V 4)) ((V 5)) ((V 6)) (A1 * mu + mo) (U1) (A2) (U2) ((J 0)) ((J 1)) (g_3) ((J 3)) ((J 4)) ((J 5)) ((J 6)) (g_5) ((J 8)) ((J 9)) ((J 10)) (pb) (pe) (ob) (oe) (b1) (e1) (b2) (e2)) (k0 := 19) (k1 := 20) (by decide) rfl rfl) hg_6.1 hg_6.2) (cwV 0 hts (ef_goodV rm_360 rm_361 rm_362 rm_25 rm_363) rfl rfl rfl (by decide +kernel) ⟨Nat.le_of_ble_eq_true rfl, Nat.le_of_ble_eq_true rfl⟩) hK hNX hP hD hS 19 rfl rfl rfl rfl hl.1 rfl (Nat.le_of_ble_eq_true rfl) rd_M_digit_93 ⟨Nat.zero_le _, Nat.zero_le _⟩ (fun o w1 H locs hq hP hD hS => ?_)
                obtain ⟨rfl, e9⟩ := hq
                rw [e9] at hP hD
                refine W.eq (g2 := F0 m 96 ls [.int (iv ((bl (A1 * mu + mo) : Int)))]) rfl ?_
                exact ef_iret hx hb hr hlocks hP hD hS rd_M_digit_96 (⟨fun i => [((V 0)), ((V 1)), (A1 * mu + mo), ((V 3)), ((V 4)), ((V 5)), ((V 6))].getD i 0, fun i => [((J 0)), ((J 1)), (g_3), ((J 3)), ((J 4)), ((J 5)), ((J 6)), (g_5), ((J 8)), ((J 9)), ((J 10))].getD i (fun _ => 0), _, _, _, _, rfl, rfl, rJ_of (hJ 0 (by decide)) (hJ 1 (by decide)) hg_4 (hJ 3 (by decide)) (hJ 4 (by decide)) (hJ 5 (by decide)) (hJ 6 (by decide)), hg_6, kU1, kA2, kU2⟩)
              ·
                exact absurd c5 (by omega)
            ·
              exact absurd c3 (by omega)

set_option maxRecDepth 100000 in
set_option maxHeartbeats 4000000 in
/-- digit refused -/
theorem r_digit00B (l : Launch) (dC : Nat → ClassId) (dI : Nat → Nat → Nat) {cI : ClassId} {tys : List (ClassId × FieldType)} (ht : tys[0]? = some (cI, .int)) (r : Nat → Nat) {V : Nat → Nat} {J : Nat → Nat → Nat} {A1 U1 A2 U2 : Nat} {pb pe ob oe b1 e1 b2 e2 : Int} (hJ : rJ V J) (kA1 : bk A1 (J 7)) (kU1 : bk U1 (J 8)) (kA2 : bk A2 (J 9)) (kU2 : bk U2 (J 10)) (mA1 : dn A1 ≤ 300) (mU1 : dn U1 ≤ 300) (mA2 : dn A2 ≤ 300) (mU2 : dn U2 ≤ 300) (mu mo : Int) (hm : ir mu) (ho : ir mo) (hbad : mu < 1 ∨ 1000000 < mu ∨ mo < 0 ∨ 1000000 < mo) : ef_C l ry_M_digit rw_M_digit ({ frames := 1, cells := 0, slots := 0, locals := 27 } : Room) [.ref (r 0), .int (iv (0)), .int (iv (0)), .int (iv (mu)), .int (iv (mo))] (dC, dI) vwCl tys (rC cI r ((V 0)) ((V 1)) ((V 2)) ((V 3)) ((V 4)) ((V 5)) ((V 6)) (A1) (U1) (A2) (U2) ((J 0)) ((J 1)) ((J 2)) ((J 3)) ((J 4)) ((J 5)) ((J 6)) ((J 7)) ((J 8)) ((J 9)) ((J 10)) (pb) (pe) (ob) (oe) (b1) (e1) (b2) (e2)) (fun o w1 => ∃ (V2 : Nat → Nat) (J2 : Nat → Nat → Nat) (pb2 pe2 ob2 oe2 : Int), o = some (.int (iv (-1))) ∧ w1 = rC cI r (V2 0) (V2 1) (V2 2) (V2 3) (V2 4) (V2 5) (V2 6) (A1) (U1) (A2) (U2) (J2 0) (J2 1) (J2 2) (J2 3) (J2 4) (J2 5) (J2 6) (J2 7) (J2 8) (J2 9) (J2 10) (pb2) (pe2) (ob2) (oe2) (b1) (e1) (b2) (e2) ∧ rJ V2 J2 ∧ bk (A1) (J2 7) ∧ bk (U1) (J2 8) ∧ bk (A2) (J2 9) ∧ bk (U2) (J2 10)) := by
  refine ef_C.of (cc := rc_M_digit) (maxL := 6) (ret := (some .int)) (by decide) rfl (Nat.le_of_ble_eq_true rfl) ?_
  intro p e s m below meth c ls hx hb hml hr hts hown hlocks hK hNX hP hD hS hl
  have hl : lv_has ls 6 [(0, .ref (r 0)), (1, .int (iv (0))), (2, .int (iv (0))), (3, .int (iv (mu))), (4, .int (iv (mo)))] := hl
  have hown : s.vm.findClass rR5 = some m.cls := hown
  generalize hH : s.heap = H at hP ⊢
  have hS : va_S (ef_A (rC cI r ((V 0)) ((V 1)) ((V 2)) ((V 3)) ((V 4)) ((V 5)) ((V 6)) (A1) (U1) (A2) (U2) ((J 0)) ((J 1)) ((J 2)) ((J 3)) ((J 4)) ((J 5)) ((J 6)) ((J 7)) ((J 8)) ((J 9)) ((J 10)) (pb) (pe) (ob) (oe) (b1) (e1) (b2) (e2))) s.heap H [] := by rw [← hH]; exact hS
  generalize ([] : List Loc) = locs at hS ⊢
  refine lv_iload_n hx hb rd_M_digit_0 rfl (lv_at hl 1 rfl) ?_
  refine ef_callS (As := [.int (iv (0))]) (rest := []) ⟨hx, hb, hml, hown, hts⟩ (r_isNumber0 l dC dI ht r) (cwS 1 hts (ef_goodS rm_336 rm_337 rm_24 rm_338) rfl rfl rfl (by decide +kernel) ⟨Nat.le_of_ble_eq_true rfl, Nat.le_of_ble_eq_true rfl⟩) hK hNX hP hD hS rfl hl.1 rfl (Nat.le_of_ble_eq_true rfl) rd_M_digit_1 ⟨Nat.zero_le _, Nat.zero_le _⟩ (fun o w1 H locs hq hP hD hS => ?_)
  obtain ⟨rfl, e9⟩ := hq
  rw [e9] at hP hD
  refine W.eq (g2 := F0 m 4 ls [.int (iv (1))]) rfl ?_
  refine iw_if_eq (tgt := 37) hx hb rd_M_digit_4 (by decide) ⟨by omega, by omega⟩ (fun k1 => ?_) (fun k1 => ?_)
  ·
    exact absurd k1 (by decide)
  ·
    refine lv_iload_n hx hb rd_M_digit_7 rfl (lv_at hl 2 rfl) ?_
    refine ef_callS (As := [.int (iv (0))]) (rest := []) ⟨hx, hb, hml, hown, hts⟩ (r_isNumber0 l dC dI ht r) (cwS 1 hts (ef_goodS rm_336 rm_337 rm_24 rm_338) rfl rfl rfl (by decide +kernel) ⟨Nat.le_of_ble_eq_true rfl, Nat.le_of_ble_eq_true rfl⟩) hK hNX hP hD hS rfl hl.1 rfl (Nat.le_of_ble_eq_true rfl) rd_M_digit_8 ⟨Nat.zero_le _, Nat.zero_le _⟩ (fun o w1 H locs hq hP hD hS => ?_)
    obtain ⟨rfl, e9⟩ := hq
    rw [e9] at hP hD
    refine W.eq (g2 := F0 m 11 ls [.int (iv (1))]) rfl ?_
    refine iw_if_eq (tgt := 37) hx hb rd_M_digit_11 (by decide) ⟨by omega, by omega⟩ (fun k2 => ?_) (fun k2 => ?_)
    ·
      exact absurd k2 (by decide)
    ·
      refine lv_iload_n hx hb rd_M_digit_14 rfl (lv_at hl 3 rfl) ?_
      refine lv_iconst (v := iv (1)) hx hb rd_M_digit_15 (by decide) ?_
      refine iw_icmp_lt (tgt := 37) hx hb rd_M_digit_16 (by decide) (hm) ⟨by omega, by omega⟩ (fun c0 => ?_) (fun c0 => ?_)
      ·
        refine lv_iconst (v := iv (-1)) hx hb rd_M_digit_37 (by decide) ?_
        exact ef_iret hx hb hr hlocks hP hD hS rd_M_digit_38 (⟨fun i => [((V 0)), ((V 1)), ((V 2)), ((V 3)), ((V 4)), ((V 5)), ((V 6))].getD i 0, fun i => [((J 0)), ((J 1)), ((J 2)), ((J 3)), ((J 4)), ((J 5)), ((J 6)), ((J 7)), ((J 8)), ((J 9)), ((J 10))].getD i (fun _ => 0), _, _, _, _, rfl, rfl, rJ_of (hJ 0 (by decide)) (hJ 1 (by decide)) (hJ 2 (by decide)) (hJ 3 (by decide)) (hJ 4 (by decide)) (hJ 5 (by decide)) (hJ 6 (by decide)), kA1, kU1, kA2, kU2⟩)
      ·
        refine lv_iload_n hx hb rd_M_digit_19 rfl (lv_at hl 3 rfl) ?_
        refine lv_ldc (v := iv (1000000)) hx hb hown (hts _ (List.mem_cons_of_mem _ rm_347)) rd_M_digit_20 ?_
        refine iw_icmp_gt (tgt := 37) hx hb rd_M_digit_22 (by decide) (hm) ⟨by omega, by omega⟩ (fun c1 => ?_) (fun c1 => ?_)
        ·
          refine lv_iconst (v := iv (-1)) hx hb rd_M_digit_37 (by decide) ?_
          exact ef_iret hx hb hr hlocks hP hD hS rd_M_digit_38 (⟨fun i => [((V 0)), ((V 1)), ((V 2)), ((V 3)), ((V 4)), ((V 5)), ((V 6))].getD i 0, fun i => [((J 0)), ((J 1)), ((J 2)), ((J 3)), ((J 4)), ((J 5)), ((J 6)), ((J 7)), ((J 8)), ((J 9)), ((J 10))].getD i (fun _ => 0), _, _, _, _, rfl, rfl, rJ_of (hJ 0 (by decide)) (hJ 1 (by decide)) (hJ 2 (by decide)) (hJ 3 (by decide)) (hJ 4 (by decide)) (hJ 5 (by decide)) (hJ 6 (by decide)), kA1, kU1, kA2, kU2⟩)
        ·
          refine lv_iload hx hb rd_M_digit_25 (lv_at hl 4 rfl) ?_
          refine iw_if_lt (tgt := 37) hx hb rd_M_digit_27 (by decide) (ho) (fun c2 => ?_) (fun c2 => ?_)
          ·
            refine lv_iconst (v := iv (-1)) hx hb rd_M_digit_37 (by decide) ?_
            exact ef_iret hx hb hr hlocks hP hD hS rd_M_digit_38 (⟨fun i => [((V 0)), ((V 1)), ((V 2)), ((V 3)), ((V 4)), ((V 5)), ((V 6))].getD i 0, fun i => [((J 0)), ((J 1)), ((J 2)), ((J 3)), ((J 4)), ((J 5)), ((J 6)), ((J 7)), ((J 8)), ((J 9)), ((J 10))].getD i (fun _ => 0), _, _, _, _, rfl, rfl, rJ_of (hJ 0 (by decide)) (hJ 1 (by decide)) (hJ 2 (by decide)) (hJ 3 (by decide)) (hJ 4 (by decide)) (hJ 5 (by decide)) (hJ 6 (by decide)), kA1, kU1, kA2, kU2⟩)
          ·
            refine lv_iload hx hb rd_M_digit_30 (lv_at hl 4 rfl) ?_
            refine lv_ldc (v := iv (1000000)) hx hb hown (hts _ (List.mem_cons_of_mem _ rm_347)) rd_M_digit_32 ?_
            refine iw_icmp_le (tgt := 39) hx hb rd_M_digit_34 (by decide) (ho) ⟨by omega, by omega⟩ (fun c3 => ?_) (fun c3 => ?_)
            ·
              exact absurd hbad (by omega)
            ·
              refine lv_iconst (v := iv (-1)) hx hb rd_M_digit_37 (by decide) ?_
              exact ef_iret hx hb hr hlocks hP hD hS rd_M_digit_38 (⟨fun i => [((V 0)), ((V 1)), ((V 2)), ((V 3)), ((V 4)), ((V 5)), ((V 6))].getD i 0, fun i => [((J 0)), ((J 1)), ((J 2)), ((J 3)), ((J 4)), ((J 5)), ((J 6)), ((J 7)), ((J 8)), ((J 9)), ((J 10))].getD i (fun _ => 0), _, _, _, _, rfl, rfl, rJ_of (hJ 0 (by decide)) (hJ 1 (by decide)) (hJ 2 (by decide)) (hJ 3 (by decide)) (hJ 4 (by decide)) (hJ 5 (by decide)) (hJ 6 (by decide)), kA1, kU1, kA2, kU2⟩)

set_option maxRecDepth 100000 in
set_option maxHeartbeats 4000000 in
/-- digit -/
theorem r_digit01F (l : Launch) (dC : Nat → ClassId) (dI : Nat → Nat → Nat) {cI : ClassId} {tys : List (ClassId × FieldType)} (ht : tys[0]? = some (cI, .int)) (r : Nat → Nat) {V : Nat → Nat} {J : Nat → Nat → Nat} {A1 U1 A2 U2 : Nat} {pb pe ob oe b1 e1 b2 e2 : Int} (hJ : rJ V J) (kA1 : bk A1 (J 7)) (kU1 : bk U1 (J 8)) (kA2 : bk A2 (J 9)) (kU2 : bk U2 (J 10)) (mA1 : dn A1 ≤ 300) (mU1 : dn U1 ≤ 300) (mA2 : dn A2 ≤ 300) (mU2 : dn U2 ≤ 300) (mu mo : Nat) (hm1 : 1 ≤ mu) (hmu : mu ≤ 1000000) (hmo : mo ≤ 1000000) (hb4 : 4800 < bl (U1 * mu + mo)) : ef_C l ry_M_digit rw_M_digit ({ frames := 1, cells := 0, slots := 0, locals := 27 } : Room) [.ref (r 0), .int (iv (0)), .int (iv (1)), .int (iv ((mu : Int))), .int (iv ((mo : Int)))] (dC, dI) vwCl tys (rC cI r ((V 0)) ((V 1)) ((V 2)) ((V 3)) ((V 4)) ((V 5)) ((V 6)) (A1) (U1) (A2) (U2) ((J 0)) ((J 1)) ((J 2)) ((J 3)) ((J 4)) ((J 5)) ((J 6)) ((J 7)) ((J 8)) ((J 9)) ((J 10)) (pb) (pe) (ob) (oe) (b1) (e1) (b2) (e2)) (fun o w1 => ∃ (V2 : Nat → Nat) (J2 : Nat → Nat → Nat) (pb2 pe2 ob2 oe2 : Int), o = some (.int (iv (-2))) ∧ w1 = rC cI r (V2 0) (V2 1) (V2 2) (V2 3) (V2 4) (V2 5) (V2 6) (A1) (U1) (A2) (U2) (J2 0) (J2 1) (J2 2) (J2 3) (J2 4) (J2 5) (J2 6) (J2 7) (J2 8) (J2 9) (J2 10) (pb2) (pe2) (ob2) (oe2) (b1) (e1) (b2) (e2) ∧ rJ V2 J2 ∧ bk (A1) (J2 7) ∧ bk (U1) (J2 8) ∧ bk (A2) (J2 9) ∧ bk (U2) (J2 10)) := by
  refine ef_C.of (cc := rc_M_digit) (maxL := 6) (ret := (some .int)) (by decide) rfl (Nat.le_of_ble_eq_true rfl) ?_
  intro p e s m below meth c ls hx hb hml hr hts hown hlocks hK hNX hP hD hS hl
  have hl : lv_has ls 6 [(0, .ref (r 0)), (1, .int (iv (0))), (2, .int (iv (1))), (3, .int (iv ((mu : Int)))), (4, .int (iv ((mo : Int))))] := hl
  have hown : s.vm.findClass rR5 = some m.cls := hown
  generalize hH : s.heap = H at hP ⊢
  have hS : va_S (ef_A (rC cI r ((V 0)) ((V 1)) ((V 2)) ((V 3)) ((V 4)) ((V 5)) ((V 6)) (A1) (U1) (A2) (U2) ((J 0)) ((J 1)) ((J 2)) ((J 3)) ((J 4)) ((J 5)) ((J 6)) ((J 7)) ((J 8)) ((J 9)) ((J 10)) (pb) (pe) (ob) (oe) (b1) (e1) (b2) (e2))) s.heap H [] := by rw [← hH]; exact hS
  generalize ([] : List Loc) = locs at hS ⊢
  have hdm := dn_mul mU1 hmu hmo
  have hbd : bl (U1 * mu + mo) ≤ 16 * 304 := bl_le (Nat.lt_of_lt_of_le (dn_lt _) (Nat.pow_le_pow_right (by decide) (by omega)))
  refine lv_iload_n hx hb rd_M_digit_0 rfl (lv_at hl 1 rfl) ?_
  refine ef_callS (As := [.int (iv (0))]) (rest := []) ⟨hx, hb, hml, hown, hts⟩ (r_isNumber0 l dC dI ht r) (cwS 1 hts (ef_goodS rm_336 rm_337 rm_24 rm_338) rfl rfl rfl (by decide +kernel) ⟨Nat.le_of_ble_eq_true rfl, Nat.le_of_ble_eq_true rfl⟩) hK hNX hP hD hS rfl hl.1 rfl (Nat.le_of_ble_eq_true rfl) rd_M_digit_1 ⟨Nat.zero_le _, Nat.zero_le _⟩ (fun o w1 H locs hq hP hD hS => ?_)
  obtain ⟨rfl, e9⟩ := hq
  rw [e9] at hP hD
  refine W.eq (g2 := F0 m 4 ls [.int (iv (1))]) rfl ?_
  refine iw_if_eq (tgt := 37) hx hb rd_M_digit_4 (by decide) ⟨by omega, by omega⟩ (fun k1 => ?_) (fun k1 => ?_)
  ·
    exact absurd k1 (by decide)
  ·
    refine lv_iload_n hx hb rd_M_digit_7 rfl (lv_at hl 2 rfl) ?_
    refine ef_callS (As := [.int (iv (1))]) (rest := []) ⟨hx, hb, hml, hown, hts⟩ (r_isNumber1 l dC dI ht r) (cwS 1 hts (ef_goodS rm_336 rm_337 rm_24 rm_338) rfl rfl rfl (by decide +kernel) ⟨Nat.le_of_ble_eq_true rfl, Nat.le_of_ble_eq_true rfl⟩) hK hNX hP hD hS rfl hl.1 rfl (Nat.le_of_ble_eq_true rfl) rd_M_digit_8 ⟨Nat.zero_le _, Nat.zero_le _⟩ (fun o w1 H locs hq hP hD hS => ?_)
    obtain ⟨rfl, e9⟩ := hq
    rw [e9] at hP hD
    refine W.eq (g2 := F0 m 11 ls [.int (iv (1))]) rfl ?_
    refine iw_if_eq (tgt := 37) hx hb rd_M_digit_11 (by decide) ⟨by omega, by omega⟩ (fun k2 => ?_) (fun k2 => ?_)
    ·
      exact absurd k2 (by decide)
    ·
      refine lv_iload_n hx hb rd_M_digit_14 rfl (lv_at hl 3 rfl) ?_
      refine lv_iconst (v := iv (1)) hx hb rd_M_digit_15 (by decide) ?_
      refine iw_icmp_lt (tgt := 37) hx hb rd_M_digit_16 (by decide) ⟨by omega, by omega⟩ ⟨by omega, by omega⟩ (fun c0 => ?_) (fun c0 => ?_)
      ·
        exact absurd c0 (by omega)
      ·
        refine lv_iload_n hx hb rd_M_digit_19 rfl (lv_at hl 3 rfl) ?_
        refine lv_ldc (v := iv (1000000)) hx hb hown (hts _ (List.mem_cons_of_mem _ rm_347)) rd_M_digit_20 ?_
        refine iw_icmp_gt (tgt := 37) hx hb rd_M_digit_22 (by decide) ⟨by omega, by omega⟩ ⟨by omega, by omega⟩ (fun c1 => ?_) (fun c1 => ?_)
        ·
          exact absurd c1 (by omega)
        ·
          refine lv_iload hx hb rd_M_digit_25 (lv_at hl 4 rfl) ?_
          refine iw_if_lt (tgt := 37) hx hb rd_M_digit_27 (by decide) ⟨by omega, by omega⟩ (fun c2 => ?_) (fun c2 => ?_)
          ·
            exact absurd c2 (by omega)
          ·
            refine lv_iload hx hb rd_M_digit_30 (lv_at hl 4 rfl) ?_
            refine lv_ldc (v := iv (1000000)) hx hb hown (hts _ (List.mem_cons_of_mem _ rm_347)) rd_M_digit_32 ?_
            refine iw_icmp_le (tgt := 39) hx hb rd_M_digit_34 (by decide) ⟨by omega, by omega⟩ ⟨by omega, by omega⟩ (fun c3 => ?_) (fun c3 => ?_)
            ·
              refine lv_aload_n hx hb rd_M_digit_39 rfl (lv_at hl 0 rfl) ?_
              refine lv_iload_n hx hb rd_M_digit_40 rfl (lv_at hl 1 rfl) ?_
              refine lv_iload_n hx hb rd_M_digit_41 rfl (lv_at hl 2 rfl) ?_
              refine ef_callV (As := [.int (iv (0)), .int (iv (1))]) (rest := []) ⟨hx, hb, hml, hown, hts⟩ (r_partOf01 l dC dI ht r) (cwV 2 hts (ef_goodV rm_348 rm_350 rm_13 rm_24 rm_351) rfl rfl rfl (by decide +kernel) ⟨Nat.le_of_ble_eq_true rfl, Nat.le_of_ble_eq_true rfl⟩) hK hNX hP hD hS 0 rfl rfl rfl rfl hl.1 rfl (Nat.le_of_ble_eq_true rfl) rd_M_digit_42 ⟨Nat.zero_le _, Nat.zero_le _⟩ (fun o w1 H locs hq hP hD hS => ?_)
              obtain ⟨rfl, e9⟩ := hq
              rw [e9] at hP hD
              refine W.eq (g2 := F0 m 45 ls [.ref (r 21)]) rfl ?_
              refine lv_astore (lv' := [(5, .ref (r 21)), (0, .ref (r 0)), (1, .int (iv (0))), (2, .int (iv (1))), (3, .int (iv ((mu : Int)))), (4, .int (iv ((mo : Int))))]) hx hb rd_M_digit_45 hl (by decide) rfl (fun ls hl => ?_)
              refine lv_aload_n hx hb rd_M_digit_47 rfl (lv_at hl 1 rfl) ?_
              refine va_get (D := (dC, dI)) (ci := 5) (v := .ref (r 9)) (C := rR5) (T := rT5) (N := 7) hx hb hts (fun w h => List.mem_cons_of_mem _ (rin5 w h)) hown hK hP 0 rfl rfl 6 (by decide) (hts _ (List.mem_cons_of_mem _ rm_316)) (fun _ h9 => h9) rfl rd_M_digit_48 ?_
              refine lv_aload hx hb rd_M_digit_51 (lv_at hl 0 rfl) ?_
              refine ef_callV (As := [.ref (r 21)]) (rest := []) ⟨hx, hb, hml, hown, hts⟩ (b_copy l dC dI ht (isB_c (X := (V 2)) (F := (J 2)) (ws := rC cI r ((V 0)) ((V 1)) ((V 2)) ((V 3)) ((V 4)) ((V 5)) ((V 6)) (A1) (U1) (A2) (U2) ((J 0)) ((J 1)) ((J 2)) ((J 3)) ((J 4)) ((J 5)) ((J 6)) ((J 7)) ((J 8)) ((J 9)) ((J 10)) (pb) (pe) (ob) (oe) (b1) (e1) (b2) (e2)) (k0 := 9) (k1 := 10) (by decide) rfl rfl) (isB_c (X := U1) (F := (J 8)) (ws := rC cI r ((V 0)) ((V 1)) ((V 2)) ((V 3)) ((V 4)) ((V 5)) ((V 6)) (A1) (U1) (A2) (U2) ((J 0)) ((J 1)) ((J 2)) ((J 3)) ((J 4)) ((J 5)) ((J 6)) ((J 7)) ((J 8)) ((J 9)) ((J 10)) (pb) (pe) (ob) (oe) (b1) (e1) (b2) (e2)) (k0 := 21) (k1 := 22) (by decide) rfl rfl) kU1.1 kU1.2 (apt_c (k0 := 9) (k1 := 10) (j0 := 21) (j1 := 22) rfl)) (cwV 1 hts (ef_goodV rm_352 rm_353 rm_354 rm_25 rm_355) rfl rfl rfl (by decide +kernel) ⟨Nat.le_of_ble_eq_true rfl, Nat.le_of_ble_eq_true rfl⟩) hK hNX hP hD hS 9 rfl rfl rfl rfl hl.1 rfl (Nat.le_of_ble_eq_true rfl) rd_M_digit_53 ⟨Nat.zero_le _, Nat.zero_le _⟩ (fun o w1 H locs hq hP hD hS => ?_)
              obtain ⟨rfl, g_1, rfl, hg_2⟩ := hq
              have hP : va_P (dC, dI) vwCl (rC cI r ((V 0)) ((V 1)) (U1) ((V 3)) ((V 4)) ((V 5)) ((V 6)) (A1) (U1) (A2) (U2) ((J 0)) ((J 1)) (g_1) ((J 3)) ((J 4)) ((J 5)) ((J 6)) ((J 7)) ((J 8)) ((J 9)) ((J 10)) (pb) (pe) (ob) (oe) (b1) (e1) (b2) (e2)) H := hP
              have hD : va_D (ef_A (rC cI r ((V 0)) ((V 1)) ((V 2)) ((V 3)) ((V 4)) ((V 5)) ((V 6)) (A1) (U1) (A2) (U2) ((J 0)) ((J 1)) ((J 2)) ((J 3)) ((J 4)) ((J 5)) ((J 6)) ((J 7)) ((J 8)) ((J 9)) ((J 10)) (pb) (pe) (ob) (oe) (b1) (e1) (b2) (e2))) (rC cI r ((V 0)) ((V 1)) (U1) ((V 3)) ((V 4)) ((V 5)) ((V 6)) (A1) (U1) (A2) (U2) ((J 0)) ((J 1)) (g_1) ((J 3)) ((J 4)) ((J 5)) ((J 6)) ((J 7)) ((J 8)) ((J 9)) ((J 10)) (pb) (pe) (ob) (oe) (b1) (e1) (b2) (e2)) := hD
              have hg_2 : bk (U1) g_1 := ⟨hg_2, kU1.2⟩
              refine W.eq (g2 := F0 m 56 ls []) rfl ?_
              refine lv_aload_n hx hb rd_M_digit_56 rfl (lv_at hl 1 rfl) ?_
              refine va_get (D := (dC, dI)) (ci := 5) (v := .ref (r 9)) (C := rR5) (T := rT5) (N := 7) hx hb hts (fun w h => List.mem_cons_of_mem _ (rin5 w h)) hown hK hP 0 rfl rfl 6 (by decide) (hts _ (List.mem_cons_of_mem _ rm_316)) (fun _ h9 => h9) rfl rd_M_digit_57 ?_
              refine lv_iload_n hx hb rd_M_digit_60 rfl (lv_at hl 4 rfl) ?_
              refine lv_iload hx hb rd_M_digit_61 (lv_at hl 5 rfl) ?_
              refine ef_callV (As := [.int (iv ((mu : Int))), .int (iv ((mo : Int)))]) (rest := []) ⟨hx, hb, hml, hown, hts⟩ (b_grow l dC dI ht (isB_c (X := U1) (F := g_1) (ws := rC cI r ((V 0)) ((V 1)) (U1) ((V 3)) ((V 4)) ((V 5)) ((V 6)) (A1) (U1) (A2) (U2) ((J 0)) ((J 1)) (g_1) ((J 3)) ((J 4)) ((J 5)) ((J 6)) ((J 7)) ((J 8)) ((J 9)) ((J 10)) (pb) (pe) (ob) (oe) (b1) (e1) (b2) (e2)) (k0 := 9) (k1 := 10) (by decide) rfl rfl) hg_2.1 (by omega) mu mo hm1 hmu hmo) (cwV 2 hts (ef_goodV rm_356 rm_357 rm_358 rm_25 rm_359) rfl rfl rfl (by decide +kernel) ⟨Nat.le_of_ble_eq_true rfl, Nat.le_of_ble_eq_true rfl⟩) hK hNX hP hD hS 9 rfl rfl rfl rfl hl.1 rfl (Nat.le_of_ble_eq_true rfl) rd_M_digit_63 ⟨Nat.zero_le _, Nat.zero_le _⟩ (fun o w1 H locs hq hP hD hS => ?_)
              obtain ⟨rfl, g_3, rfl, hg_4⟩ := hq
              have hP : va_P (dC, dI) vwCl (rC cI r ((V 0)) ((V 1)) (U1 * mu + mo) ((V 3)) ((V 4)) ((V 5)) ((V 6)) (A1) (U1) (A2) (U2) ((J 0)) ((J 1)) (g_3) ((J 3)) ((J 4)) ((J 5)) ((J 6)) ((J 7)) ((J 8)) ((J 9)) ((J 10)) (pb) (pe) (ob) (oe) (b1) (e1) (b2) (e2)) H := hP
              have hD : va_D (ef_A (rC cI r ((V 0)) ((V 1)) ((V 2)) ((V 3)) ((V 4)) ((V 5)) ((V 6)) (A1) (U1) (A2) (U2) ((J 0)) ((J 1)) ((J 2)) ((J 3)) ((J 4)) ((J 5)) ((J 6)) ((J 7)) ((J 8)) ((J 9)) ((J 10)) (pb) (pe) (ob) (oe) (b1) (e1) (b2) (e2))) (rC cI r ((V 0)) ((V 1)) (U1 * mu + mo) ((V 3)) ((V 4)) ((V 5)) ((V 6)) (A1) (U1) (A2) (U2) ((J 0)) ((J 1)) (g_3) ((J 3)) ((J 4)) ((J 5)) ((J 6)) ((J 7)) ((J 8)) ((J 9)) ((J 10)) (pb) (pe) (ob) (oe) (b1) (e1) (b2) (e2)) := hD
              have hg_4 : bk (U1 * mu + mo) g_3 := ⟨hg_4, by omega⟩
              refine W.eq (g2 := F0 m 66 ls []) rfl ?_
              refine lv_aload_n hx hb rd_M_digit_66 rfl (lv_at hl 1 rfl) ?_
              refine va_get (D := (dC, dI)) (ci := 5) (v := .ref (r 9)) (C := rR5) (T := rT5) (N := 7) hx hb hts (fun w h => List.mem_cons_of_mem _ (rin5 w h)) hown hK hP 0 rfl rfl 6 (by decide) (hts _ (List.mem_cons_of_mem _ rm_316)) (fun _ h9 => h9) rfl rd_M_digit_67 ?_
              refine ef_callV (As := []) (rest := []) ⟨hx, hb, hml, hown, hts⟩ (b_bits l dC dI ht (isB_c (X := U1 * mu + mo) (F := g_3) (ws := rC cI r ((V 0)) ((V 1)) (U1 * mu + mo) ((V 3)) ((V 4)) ((V 5)) ((V 6)) (A1) (U1) (A2) (U2) ((J 0)) ((J 1)) (g_3) ((J 3)) ((J 4)) ((J 5)) ((J 6)) ((J 7)) ((J 8)) ((J 9)) ((J 10)) (pb) (pe) (ob) (oe) (b1) (e1) (b2) (e2)) (k0 := 9) (k1 := 10) (by decide) rfl rfl) hg_4.1 hg_4.2) (cwV 0 hts (ef_goodV rm_360 rm_361 rm_362 rm_25 rm_363) rfl rfl rfl (by decide +kernel) ⟨Nat.le_of_ble_eq_true rfl, Nat.le_of_ble_eq_true rfl⟩) hK hNX hP hD hS 9 rfl rfl rfl rfl hl.1 rfl (Nat.le_of_ble_eq_true rfl) rd_M_digit_70 ⟨Nat.zero_le _, Nat.zero_le _⟩ (fun o w1 H locs hq hP hD hS => ?_)
              obtain ⟨rfl, e9⟩ := hq
              rw [e9] at hP hD
              refine W.eq (g2 := F0 m 73 ls [.int (iv ((bl (U1 * mu + mo) : Int)))]) rfl ?_
              refine lv_sipush (v := iv (4800)) hx hb rd_M_digit_73 (by decide) ?_
              refine iw_icmp_le (tgt := 82) hx hb rd_M_digit_76 (by decide) ⟨by omega, by omega⟩ ⟨by omega, by omega⟩ (fun c5 => ?_) (fun c5 => ?_)
              ·
                exact absurd c5 (by omega)
              ·
                refine lv_bipush (v := iv (-2)) hx hb rd_M_digit_79 (by decide) ?_
                exact ef_iret hx hb hr hlocks hP hD hS rd_M_digit_81 (⟨fun i => [((V 0)), ((V 1)), (U1 * mu + mo), ((V 3)), ((V 4)), ((V 5)), ((V 6))].getD i 0, fun i => [((J 0)), ((J 1)), (g_3), ((J 3)), ((J 4)), ((J 5)), ((J 6)), ((J 7)), ((J 8)), ((J 9)), ((J 10))].getD i (fun _ => 0), _, _, _, _, rfl, rfl, rJ_of (hJ 0 (by decide)) (hJ 1 (by decide)) hg_4 (hJ 3 (by decide)) (hJ 4 (by decide)) (hJ 5 (by decide)) (hJ 6 (by decide)), kA1, kU1, kA2, kU2⟩)
            ·
              exact absurd c3 (by omega)

set_option maxRecDepth 100000 in
set_option maxHeartbeats 4000000 in
/-- digit -/
theorem r_digit01K (l : Launch) (dC : Nat → ClassId) (dI : Nat → Nat → Nat) {cI : ClassId} {tys : List (ClassId × FieldType)} (ht : tys[0]? = some (cI, .int)) (r : Nat → Nat) {V : Nat → Nat} {J : Nat → Nat → Nat} {A1 U1 A2 U2 : Nat} {pb pe ob oe b1 e1 b2 e2 : Int} (hJ : rJ V J) (kA1 : bk A1 (J 7)) (kU1 : bk U1 (J 8)) (kA2 : bk A2 (J 9)) (kU2 : bk U2 (J 10)) (mA1 : dn A1 ≤ 300) (mU1 : dn U1 ≤ 300) (mA2 : dn A2 ≤ 300) (mU2 : dn U2 ≤ 300) (mu mo : Nat) (hm1 : 1 ≤ mu) (hmu : mu ≤ 1000000) (hmo : mo ≤ 1000000) (hb4 : bl (U1 * mu + mo) ≤ 4800) : ef_C l ry_M_digit rw_M_digit ({ frames := 1, cells := 0, slots := 0, locals := 27 } : Room) [.ref (r 0), .int (iv (0)), .int (iv (1)), .int (iv ((mu : Int))), .int (iv ((mo : Int)))] (dC, dI) vwCl tys (rC cI r ((V 0)) ((V 1)) ((V 2)) ((V 3)) ((V 4)) ((V 5)) ((V 6)) (A1) (U1) (A2) (U2) ((J 0)) ((J 1)) ((J 2)) ((J 3)) ((J 4)) ((J 5)) ((J 6)) ((J 7)) ((J 8)) ((J 9)) ((J 10)) (pb) (pe) (ob) (oe) (b1) (e1) (b2) (e2)) (fun o w1 => ∃ (V2 : Nat → Nat) (J2 : Nat → Nat → Nat) (pb2 pe2 ob2 oe2 : Int), o = some (.int (iv (bl (U1 * mu + mo) : Int))) ∧ w1 = rC cI r (V2 0) (V2 1) (V2 2) (V2 3) (V2 4) (V2 5) (V2 6) (A1) (U1 * mu + mo) (A2) (U2) (J2 0) (J2 1) (J2 2) (J2 3) (J2 4) (J2 5) (J2 6) (J2 7) (J2 8) (J2 9) (J2 10) (pb2) (pe2) (ob2) (oe2) (b1) (e1) (b2) (e2) ∧ rJ V2 J2 ∧ bk (A1) (J2 7) ∧ bk (U1 * mu + mo) (J2 8) ∧ bk (A2) (J2 9) ∧ bk (U2) (J2 10)) := by
  refine ef_C.of (cc := rc_M_digit) (maxL := 6) (ret := (some .int)) (by decide) rfl (Nat.le_of_ble_eq_true rfl) ?_
  intro p e s m below meth c ls hx hb hml hr hts hown hlocks hK hNX hP hD hS hl
  have hl : lv_has ls 6 [(0, .ref (r 0)), (1, .int (iv (0))), (2, .int (iv (1))), (3, .int (iv ((mu : Int)))), (4, .int (iv ((mo : Int))))] := hl
  have hown : s.vm.findClass rR5 = some m.cls := hown
  generalize hH : s.heap = H at hP ⊢
  have hS : va_S (ef_A (rC cI r ((V 0)) ((V 1)) ((V 2)) ((V 3)) ((V 4)) ((V 5)) ((V 6)) (A1) (U1) (A2) (U2) ((J 0)) ((J 1)) ((J 2)) ((J 3)) ((J 4)) ((J 5)) ((J 6)) ((J 7)) ((J 8)) ((J 9)) ((J 10)) (pb) (pe) (ob) (oe) (b1) (e1) (b2) (e2))) s.heap H [] := by rw [← hH]; exact hS
  generalize ([] : List Loc) = locs at hS ⊢
  have hdm := dn_mul mU1 hmu hmo
  have hbd : bl (U1 * mu + mo) ≤ 16 * 304 := bl_le (Nat.lt_of_lt_of_le (dn_lt _) (Nat.pow_le_pow_right (by decide) (by omega)))
  refine lv_iload_n hx hb rd_M_digit_0 rfl (lv_at hl 1 rfl) ?_
  refine ef_callS (As := [.int (iv (0))]) (rest := []) ⟨hx, hb, hml, hown, hts⟩ (r_isNumber0 l dC dI ht r) (cwS 1 hts (ef_goodS rm_336 rm_337 rm_24 rm_338) rfl rfl rfl (by decide +kernel) ⟨Nat.le_of_ble_eq_true rfl, Nat.le_of_ble_eq_true rfl⟩) hK hNX hP hD hS rfl hl.1 rfl (Nat.le_of_ble_eq_true rfl) rd_M_digit_1 ⟨Nat.zero_le _, Nat.zero_le _⟩ (fun o w1 H locs hq hP hD hS => ?_)
  obtain ⟨rfl, e9⟩ := hq
  rw [e9] at hP hD
  refine W.eq (g2 := F0 m 4 ls [.int (iv (1))]) rfl ?_
  refine iw_if_eq (tgt := 37) hx hb rd_M_digit_4 (by decide) ⟨by omega, by omega⟩ (fun k1 => ?_) (fun k1 => ?_)
  ·
    exact absurd k1 (by decide)
  ·
    refine lv_iload_n hx hb rd_M_digit_7 rfl (lv_at hl 2 rfl) ?_
    refine ef_callS (As := [.int (iv (1))]) (rest := []) ⟨hx, hb, hml, hown, hts⟩ (r_isNumber1 l dC dI ht r) (cwS 1 hts (ef_goodS rm_336 rm_337 rm_24 rm_338) rfl rfl rfl (by decide +kernel) ⟨Nat.le_of_ble_eq_true rfl, Nat.le_of_ble_eq_true rfl⟩) hK hNX hP hD hS rfl hl.1 rfl (Nat.le_of_ble_eq_true rfl) rd_M_digit_8 ⟨Nat.zero_le _, Nat.zero_le _⟩ (fun o w1 H locs hq hP hD hS => ?_)
    obtain ⟨rfl, e9⟩ := hq
    rw [e9] at hP hD
    refine W.eq (g2 := F0 m 11 ls [.int (iv (1))]) rfl ?_
    refine iw_if_eq (tgt := 37) hx hb rd_M_digit_11 (by decide) ⟨by omega, by omega⟩ (fun k2 => ?_) (fun k2 => ?_)
    ·
      exact absurd k2 (by decide)
    ·
      refine lv_iload_n hx hb rd_M_digit_14 rfl (lv_at hl 3 rfl) ?_
      refine lv_iconst (v := iv (1)) hx hb rd_M_digit_15 (by decide) ?_
      refine iw_icmp_lt (tgt := 37) hx hb rd_M_digit_16 (by decide) ⟨by omega, by omega⟩ ⟨by omega, by omega⟩ (fun c0 => ?_) (fun c0 => ?_)
      ·
        exact absurd c0 (by omega)
      ·
        refine lv_iload_n hx hb rd_M_digit_19 rfl (lv_at hl 3 rfl) ?_
        refine lv_ldc (v := iv (1000000)) hx hb hown (hts _ (List.mem_cons_of_mem _ rm_347)) rd_M_digit_20 ?_
        refine iw_icmp_gt (tgt := 37) hx hb rd_M_digit_22 (by decide) ⟨by omega, by omega⟩ ⟨by omega, by omega⟩ (fun c1 => ?_) (fun c1 => ?_)
        ·
          exact absurd c1 (by omega)
        ·
          refine lv_iload hx hb rd_M_digit_25 (lv_at hl 4 rfl) ?_
          refine iw_if_lt (tgt := 37) hx hb rd_M_digit_27 (by decide) ⟨by omega, by omega⟩ (fun c2 => ?_) (fun c2 => ?_)
          ·
            exact absurd c2 (by omega)
          ·
            refine lv_iload hx hb rd_M_digit_30 (lv_at hl 4 rfl) ?_
            refine lv_ldc (v := iv (1000000)) hx hb hown (hts _ (List.mem_cons_of_mem _ rm_347)) rd_M_digit_32 ?_
            refine iw_icmp_le (tgt := 39) hx hb rd_M_digit_34 (by decide) ⟨by omega, by omega⟩ ⟨by omega, by omega⟩ (fun c3 => ?_) (fun c3 => ?_)
            ·
              refine lv_aload_n hx hb rd_M_digit_39 rfl (lv_at hl 0 rfl) ?_
              refine lv_iload_n hx hb rd_M_digit_40 rfl (lv_at hl 1 rfl) ?_
              refine lv_iload_n hx hb rd_M_digit_41 rfl (lv_at hl 2 rfl) ?_
              refine ef_callV (As := [.int (iv (0)), .int (iv (1))]) (rest := []) ⟨hx, hb, hml, hown, hts⟩ (r_partOf01 l dC dI ht r) (cwV 2 hts (ef_goodV rm_348 rm_350 rm_13 rm_24 rm_351) rfl rfl rfl (by decide +kernel) ⟨Nat.le_of_ble_eq_true rfl, Nat.le_of_ble_eq_true rfl⟩) hK hNX hP hD hS 0 rfl rfl rfl rfl hl.1 rfl (Nat.le_of_ble_eq_true rfl) rd_M_digit_42 ⟨Nat.zero_le _, Nat.zero_le _⟩ (fun o w1 H locs hq hP hD hS => ?_)
              obtain ⟨rfl, e9⟩ := hq
              rw [e9] at hP hD
              refine W.eq (g2 := F0 m 45 ls [.ref (r 21)]) rfl ?_
              refine lv_astore (lv' := [(5, .ref (r 21)), (0, .ref (r 0)), (1, .int (iv (0))), (2, .int (iv (1))), (3, .int (iv ((mu : Int)))), (4, .int (iv ((mo : Int))))]) hx hb rd_M_digit_45 hl (by decide) rfl (fun ls hl => ?_)
              refine lv_aload_n hx hb rd_M_digit_47 rfl (lv_at hl 1 rfl) ?_
              refine va_get (D := (dC, dI)) (ci := 5) (v := .ref (r 9)) (C := rR5) (T := rT5) (N := 7) hx hb hts (fun w h => List.mem_cons_of_mem _ (rin5 w h)) hown hK hP 0 rfl rfl 6 (by decide) (hts _ (List.mem_cons_of_mem _ rm_316)) (fun _ h9 => h9) rfl rd_M_digit_48 ?_
              refine lv_aload hx hb rd_M_digit_51 (lv_at hl 0 rfl) ?_
              refine ef_callV (As := [.ref (r 21)]) (rest := []) ⟨hx, hb, hml, hown, hts⟩ (b_copy l dC dI ht (isB_c (X := (V 2)) (F := (J 2)) (ws := rC cI r ((V 0)) ((V 1)) ((V 2)) ((V 3)) ((V 4)) ((V 5)) ((V 6)) (A1) (U1) (A2) (U2) ((J 0)) ((J 1)) ((J 2)) ((J 3)) ((J 4)) ((J 5)) ((J 6)) ((J 7)) ((J 8)) ((J 9)) ((J 10)) (pb) (pe) (ob) (oe) (b1) (e1) (b2) (e2)) (k0 := 9) (k1 := 10) (by decide) rfl rfl) (isB_c (X := U1) (F := (J 8)) (ws := rC cI r ((V 0)) ((V 1)) ((V 2)) ((V 3)) ((V 4)) ((V 5)) ((V 6)) (A1) (U1) (A2) (U2) ((J 0)) ((J 1)) ((J 2)) ((J 3)) ((J 4)) ((J 5)) ((J 6)) ((J 7)) ((J 8)) ((J 9)) ((J 10)) (pb) (pe) (ob) (oe) (b1) (e1) (b2) (e2)) (k0 := 21) (k1 := 22) (by decide) rfl rfl) kU1.1 kU1.2 (apt_c (k0 := 9) (k1 := 10) (j0 := 21) (j1 := 22) rfl)) (cwV 1 hts (ef_goodV rm_352 rm_353 rm_354 rm_25 rm_355) rfl rfl rfl (by decide +kernel) ⟨Nat.le_of_ble_eq_true rfl, Nat.le_of_ble_eq_true rfl⟩) hK hNX hP hD hS 9 rfl rfl rfl rfl hl.1 rfl (Nat.le_of_ble_eq_true rfl) rd_M_digit_53 ⟨Nat.zero_le _, Nat.zero_le _⟩ (fun o w1 H locs hq hP hD hS => ?_)
              obtain ⟨rfl, g_1, rfl, hg_2⟩ := hq
              have hP : va_P (dC, dI) vwCl (rC cI r ((V 0)) ((V 1)) (U1) ((V 3)) ((V 4)) ((V 5)) ((V 6)) (A1) (U1) (A2) (U2) ((J 0)) ((J 1)) (g_1) ((J 3)) ((J 4)) ((J 5)) ((J 6)) ((J 7)) ((J 8)) ((J 9)) ((J 10)) (pb) (pe) (ob) (oe) (b1) (e1) (b2) (e2)) H := hP
              have hD : va_D (ef_A (rC cI r ((V 0)) ((V 1)) ((V 2)) ((V 3)) ((V 4)) ((V 5)) ((V 6)) (A1) (U1) (A2) (U2) ((J 0)) ((J 1)) ((J 2)) ((J 3)) ((J 4)) ((J 5)) ((J 6)) ((J 7)) ((J 8)) ((J 9)) ((J 10)) (pb) (pe) (ob) (oe) (b1) (e1) (b2) (e2))) (rC cI r ((V 0)) ((V 1)) (U1) ((V 3)) ((V 4)) ((V 5)) ((V 6)) (A1) (U1) (A2) (U2) ((J 0)) ((J 1)) (g_1) ((J 3)) ((J 4)) ((J 5)) ((J 6)) ((J 7)) ((J 8)) ((J 9)) ((J 10)) (pb) (pe) (ob) (oe) (b1) (e1) (b2) (e2)) := hD
              have hg_2 : bk (U1) g_1 := ⟨hg_2, kU1.2⟩
              refine W.eq (g2 := F0 m 56 ls []) rfl ?_
              refine lv_aload_n hx hb rd_M_digit_56 rfl (lv_at hl 1 rfl) ?_
              refine va_get (D := (dC, dI)) (ci := 5) (v := .ref (r 9)) (C := rR5) (T := rT5) (N := 7) hx hb hts (fun w h => List.mem_cons_of_mem _ (rin5 w h)) hown hK hP 0 rfl rfl 6 (by decide) (hts _ (List.mem_cons_of_mem _ rm_316)) (fun _ h9 => h9) rfl rd_M_digit_57 ?_
              refine lv_iload_n hx hb rd_M_digit_60 rfl (lv_at hl 4 rfl) ?_
              refine lv_iload hx hb rd_M_digit_61 (lv_at hl 5 rfl) ?_
              refine ef_callV (As := [.int (iv ((mu : Int))), .int (iv ((mo : Int)))]) (rest := []) ⟨hx, hb, hml, hown, hts⟩ (b_grow l dC dI ht (isB_c (X := U1) (F := g_1) (ws := rC cI r ((V 0)) ((V 1)) (U1) ((V 3)) ((V 4)) ((V 5)) ((V 6)) (A1) (U1) (A2) (U2) ((J 0)) ((J 1)) (g_1) ((J 3)) ((J 4)) ((J 5)) ((J 6)) ((J 7)) ((J 8)) ((J 9)) ((J 10)) (pb) (pe) (ob) (oe) (b1) (e1) (b2) (e2)) (k0 := 9) (k1 := 10) (by decide) rfl rfl) hg_2.1 (by omega) mu mo hm1 hmu hmo) (cwV 2 hts (ef_goodV rm_356 rm_357 rm_358 rm_25 rm_359) rfl rfl rfl (by decide +kernel) ⟨Nat.le_of_ble_eq_true rfl, Nat.le_of_ble_eq_true rfl⟩) hK hNX hP hD hS 9 rfl rfl rfl rfl hl.1 rfl (Nat.le_of_ble_eq_true rfl) rd_M_digit_63 ⟨Nat.zero_le _, Nat.zero_le _⟩ (fun o w1 H locs hq hP hD hS => ?_)
              obtain ⟨rfl, g_3, rfl, hg_4⟩ := hq
              have hP : va_P (dC, dI) vwCl (rC cI r ((V 0)) ((V 1)) (U1 * mu + mo) ((V 3)) ((V 4)) ((V 5)) ((V 6)) (A1) (U1) (A2) (U2) ((J 0)) ((J 1)) (g_3) ((J 3)) ((J 4)) ((J 5)) ((J 6)) ((J 7)) ((J 8)) ((J 9)) ((J 10)) (pb) (pe) (ob) (oe) (b1) (e1) (b2) (e2)) H := hP
              have hD : va_D (ef_A (rC cI r ((V 0)) ((V 1)) ((V 2)) ((V 3)) ((V 4)) ((V 5)) ((V 6)) (A1) (U1) (A2) (U2) ((J 0)) ((J 1)) ((J 2)) ((J 3)) ((J 4)) ((J 5)) ((J 6)) ((J 7)) ((J 8)) ((J 9)) ((J 10)) (pb) (pe) (ob) (oe) (b1) (e1) (b2) (e2))) (rC cI r ((V 0)) ((V 1)) (U1 * mu + mo) ((V 3)) ((V 4)) ((V 5)) ((V 6)) (A1) (U1) (A2) (U2) ((J 0)) ((J 1)) (g_3) ((J 3)) ((J 4)) ((J 5)) ((J 6)) ((J 7)) ((J 8)) ((J 9)) ((J 10)) (pb) (pe) (ob) (oe) (b1) (e1) (b2) (e2)) := hD
              have hg_4 : bk (U1 * mu + mo) g_3 := ⟨hg_4, by omega⟩
              refine W.eq (g2 := F0 m 66 ls []) rfl ?_
              refine lv_aload_n hx hb rd_M_digit_66 rfl (lv_at hl 1 rfl) ?_
              refine va_get (D := (dC, dI)) (ci := 5) (v := .ref (r 9)) (C := rR5) (T := rT5) (N := 7) hx hb hts (fun w h => List.mem_cons_of_mem _ (rin5 w h)) hown hK hP 0 rfl rfl 6 (by decide) (hts _ (List.mem_cons_of_mem _ rm_316)) (fun _ h9 => h9) rfl rd_M_digit_67 ?_
              refine ef_callV (As := []) (rest := []) ⟨hx, hb, hml, hown, hts⟩ (b_bits l dC dI ht (isB_c (X := U1 * mu + mo) (F := g_3) (ws := rC cI r ((V 0)) ((V 1)) (U1 * mu + mo) ((V 3)) ((V 4)) ((V 5)) ((V 6)) (A1) (U1) (A2) (U2) ((J 0)) ((J 1)) (g_3) ((J 3)) ((J 4)) ((J 5)) ((J 6)) ((J 7)) ((J 8)) ((J 9)) ((J 10)) (pb) (pe) (ob) (oe) (b1) (e1) (b2) (e2)) (k0 := 9) (k1 := 10) (by decide) rfl rfl) hg_4.1 hg_4.2) (cwV 0 hts (ef_goodV rm_360 rm_361 rm_362 rm_25 rm_363) rfl rfl rfl (by decide +kernel) ⟨Nat.le_of_ble_eq_true rfl, Nat.le_of_ble_eq_true rfl⟩) hK hNX hP hD hS 9 rfl rfl rfl rfl hl.1 rfl (Nat.le_of_ble_eq_true rfl) rd_M_digit_70 ⟨Nat.zero_le _, Nat.zero_le _⟩ (fun o w1 H locs hq hP hD hS => ?_)
              obtain ⟨rfl, e9⟩ := hq
              rw [e9] at hP hD
              refine W.eq (g2 := F0 m 73 ls [.int (iv ((bl (U1 * mu + mo) : Int)))]) rfl ?_
              refine lv_sipush (v := iv (4800)) hx hb rd_M_digit_73 (by decide) ?_
              refine iw_icmp_le (tgt := 82) hx hb rd_M_digit_76 (by decide) ⟨by omega, by omega⟩ ⟨by omega, by omega⟩ (fun c5 => ?_) (fun c5 => ?_)
              ·
                refine lv_aload hx hb rd_M_digit_82 (lv_at hl 0 rfl) ?_
                refine lv_aload_n hx hb rd_M_digit_84 rfl (lv_at hl 1 rfl) ?_
                refine va_get (D := (dC, dI)) (ci := 5) (v := .ref (r 9)) (C := rR5) (T := rT5) (N := 7) hx hb hts (fun w h => List.mem_cons_of_mem _ (rin5 w h)) hown hK hP 0 rfl rfl 6 (by decide) (hts _ (List.mem_cons_of_mem _ rm_316)) (fun _ h9 => h9) rfl rd_M_digit_85 ?_
                refine ef_callV (As := [.ref (r 9)]) (rest := []) ⟨hx, hb, hml, hown, hts⟩ (b_copy l dC dI ht (isB_c (X := U1) (F := (J 8)) (ws := rC cI r ((V 0)) ((V 1)) (U1 * mu + mo) ((V 3)) ((V 4)) ((V 5)) ((V 6)) (A1) (U1) (A2) (U2) ((J 0)) ((J 1)) (g_3) ((J 3)) ((J 4)) ((J 5)) ((J 6)) ((J 7)) ((J 8)) ((J 9)) ((J 10)) (pb) (pe) (ob) (oe) (b1) (e1) (b2) (e2)) (k0 := 21) (k1 := 22) (by decide) rfl rfl) (isB_c (X := U1 * mu + mo) (F := g_3) (ws := rC cI r ((V 0)) ((V 1)) (U1 * mu + mo) ((V 3)) ((V 4)) ((V 5)) ((V 6)) (A1) (U1) (A2) (U2) ((J 0)) ((J 1)) (g_3) ((J 3)) ((J 4)) ((J 5)) ((J 6)) ((J 7)) ((J 8)) ((J 9)) ((J 10)) (pb) (pe) (ob) (oe) (b1) (e1) (b2) (e2)) (k0 := 9) (k1 := 10) (by decide) rfl rfl) hg_4.1 hg_4.2 (apt_c (k0 := 21) (k1 := 22) (j0 := 9) (j1 := 10) rfl)) (cwV 1 hts (ef_goodV rm_352 rm_353 rm_354 rm_25 rm_355) rfl rfl rfl (by decide +kernel) ⟨Nat.le_of_ble_eq_true rfl, Nat.le_of_ble_eq_true rfl⟩) hK hNX hP hD hS 21 rfl rfl rfl rfl hl.1 rfl (Nat.le_of_ble_eq_true rfl) rd_M_digit_88 ⟨Nat.zero_le _, Nat.zero_le _⟩ (fun o w1 H locs hq hP hD hS => ?_)
                obtain ⟨rfl, g_5, rfl, hg_6⟩ := hq
                have hP : va_P (dC, dI) vwCl (rC cI r ((V 0)) ((V 1)) (U1 * mu + mo) ((V 3)) ((V 4)) ((V 5)) ((V 6)) (A1) (U1 * mu + mo) (A2) (U2) ((J 0)) ((J 1)) (g_3) ((J 3)) ((J 4)) ((J 5)) ((J 6)) ((J 7)) (g_5) ((J 9)) ((J 10)) (pb) (pe) (ob) (oe) (b1) (e1) (b2) (e2)) H := hP
                have hD : va_D (ef_A (rC cI r ((V 0)) ((V 1)) ((V 2)) ((V 3)) ((V 4)) ((V 5)) ((V 6)) (A1) (U1) (A2) (U2) ((J 0)) ((J 1)) ((J 2)) ((J 3)) ((J 4)) ((J 5)) ((J 6)) ((J 7)) ((J 8)) ((J 9)) ((J 10)) (pb) (pe) (ob) (oe) (b1) (e1) (b2) (e2))) (rC cI r ((V 0)) ((V 1)) (U1 * mu + mo) ((V 3)) ((V 4)) ((V 5)) ((V 6)) (A1) (U1 * mu + mo) (A2) (U2) ((J 0)) ((J 1)) (g_3) ((J 3)) ((J 4)) ((J 5)) ((J 6)) ((J 7)) (g_5) ((J 9)) ((J 10)) (pb) (pe) (ob) (oe) (b1) (e1) (b2) (e2)) := hD
                have hg_6 : bk (U1 * mu + mo) g_5 := ⟨hg_6, hg_4.2⟩
                refine W.eq (g2 := F0 m 91 ls []) rfl ?_
                refine lv_aload hx hb rd_M_digit_91 (lv_at hl 0 rfl) ?_
                refine ef_callV (As := []) (rest := []) ⟨hx, hb, hml, hown, hts⟩ (b_bits l dC dI ht (isB_c (X := U1 * mu + mo) (F := g_5) (ws := rC cI r ((V 0)) ((V 1)) (U1 * mu + mo) ((V 3)) ((V 4)) ((V 5)) ((V 6)) (A1) (U1 * mu + mo) (A2) (U2) ((J 0)) ((J 1)) (g_3) ((J 3)) ((J 4)) ((J 5)) ((J 6)) ((J 7)) (g_5) ((J 9)) ((J 10)) (pb) (pe) (ob) (oe) (b1) (e1) (b2) (e2)) (k0 := 21) (k1 := 22) (by decide) rfl rfl) hg_6.1 hg_6.2) (cwV 0 hts (ef_goodV rm_360 rm_361 rm_362 rm_25 rm_363) rfl rfl rfl (by decide +kernel) ⟨Nat.le_of_ble_eq_true rfl, Nat.le_of_ble_eq_true rfl⟩) hK hNX hP hD hS 21 rfl rfl rfl rfl hl.1 rfl (Nat.le_of_ble_eq_true rfl) rd_M_digit_93 ⟨Nat.zero_le _, Nat.zero_le _⟩ (fun o w1 H locs hq hP hD hS => ?_)
                obtain ⟨rfl, e9⟩ := hq
                rw [e9] at hP hD
                refine W.eq (g2 := F0 m 96 ls [.int (iv ((bl (U1 * mu + mo) : Int)))]) rfl ?_
                exact ef_iret hx hb hr hlocks hP hD hS rd_M_digit_96 (⟨fun i => [((V 0)), ((V 1)), (U1 * mu + mo), ((V 3)), ((V 4)), ((V 5)), ((V 6))].getD i 0, fun i => [((J 0)), ((J 1)), (g_3), ((J 3)), ((J 4)), ((J 5)), ((J 6)), ((J 7)), (g_5), ((J 9)), ((J 10))].getD i (fun _ => 0), _, _, _, _, rfl, rfl, rJ_of (hJ 0 (by decide)) (hJ 1 (by decide)) hg_4 (hJ 3 (by decide)) (hJ 4 (by decide)) (hJ 5 (by decide)) (hJ 6 (by decide)), kA1, hg_6, kA2, kU2⟩)
              ·
                exact absurd c5 (by omega)
            ·
              exact absurd c3 (by omega)

set_option maxRecDepth 100000 in
set_option maxHeartbeats 4000000 in
/-- digit refused -/
theorem r_digit01B (l : Launch) (dC : Nat → ClassId) (dI : Nat → Nat → Nat) {cI : ClassId} {tys : List (ClassId × FieldType)} (ht : tys[0]? = some (cI, .int)) (r : Nat → Nat) {V : Nat → Nat} {J : Nat → Nat → Nat} {A1 U1 A2 U2 : Nat} {pb pe ob oe b1 e1 b2 e2 : Int} (hJ : rJ V J) (kA1 : bk A1 (J 7)) (kU1 : bk U1 (J 8)) (kA2 : bk A2 (J 9)) (kU2 : bk U2 (J 10)) (mA1 : dn A1 ≤ 300) (mU1 : dn U1 ≤ 300) (mA2 : dn A2 ≤ 300) (mU2 : dn U2 ≤ 300) (mu mo : Int) (hm : ir mu) (ho : ir mo) (hbad : mu < 1 ∨ 1000000 < mu ∨ mo < 0 ∨ 1000000 < mo) : ef_C l ry_M_digit rw_M_digit ({ frames := 1, cells := 0, slots := 0, locals := 27 } : Room) [.ref (r 0), .int (iv (0)), .int (iv (1)), .int (iv (mu)), .int (iv (mo))] (dC, dI) vwCl tys (rC cI r ((V 0)) ((V 1)) ((V 2)) ((V 3)) ((V 4)) ((V 5)) ((V 6)) (A1) (U1) (A2) (U2) ((J 0)) ((J 1)) ((J 2)) ((J 3)) ((J 4)) ((J 5)) ((J 6)) ((J 7)) ((J 8)) ((J 9)) ((J 10)) (pb) (pe) (ob) (oe) (b1) (e1) (b2) (e2)) (fun o w1 => ∃ (V2 : Nat → Nat) (J2 : Nat → Nat → Nat) (pb2 pe2 ob2 oe2 : Int), o = some (.int (iv (-1))) ∧ w1 = rC cI r (V2 0) (V2 1) (V2 2) (V2 3) (V2 4) (V2 5) (V2 6) (A1) (U1) (A2) (U2) (J2 0) (J2 1) (J2 2) (J2 3) (J2 4) (J2 5) (J2 6) (J2 7) (J2 8) (J2 9) (J2 10) (pb2) (pe2) (ob2) (oe2) (b1) (e1) (b2) (e2) ∧ rJ V2 J2 ∧ bk (A1) (J2 7) ∧ bk (U1) (J2 8) ∧ bk (A2) (J2 9) ∧ bk (U2) (J2 10)) := by
  refine ef_C.of (cc := rc_M_digit) (maxL := 6) (ret := (some .int)) (by decide) rfl (Nat.le_of_ble_eq_true rfl) ?_
  intro p e s m below meth c ls hx hb hml hr hts hown hlocks hK hNX hP hD hS hl
  have hl : lv_has ls 6 [(0, .ref (r 0)), (1, .int (iv (0))), (2, .int (iv (1))), (3, .int (iv (mu))), (4, .int (iv (mo)))] := hl
  have hown : s.vm.findClass rR5 = some m.cls := hown
  generalize hH : s.heap = H at hP ⊢
  have hS : va_S (ef_A (rC cI r ((V 0)) ((V 1)) ((V 2)) ((V 3)) ((V 4)) ((V 5)) ((V 6)) (A1) (U1) (A2) (U2) ((J 0)) ((J 1)) ((J 2)) ((J 3)) ((J 4)) ((J 5)) ((J 6)) ((J 7)) ((J 8)) ((J 9)) ((J 10)) (pb) (pe) (ob) (oe) (b1) (e1) (b2) (e2))) s.heap H [] := by rw [← hH]; exact hS
  generalize ([] : List Loc) = locs at hS ⊢
  refine lv_iload_n hx hb rd_M_digit_0 rfl (lv_at hl 1 rfl) ?_
  refine ef_callS (As := [.int (iv (0))]) (rest := []) ⟨hx, hb, hml, hown, hts⟩ (r_isNumber0 l dC dI ht r) (cwS 1 hts (ef_goodS rm_336 rm_337 rm_24 rm_338) rfl rfl rfl (by decide +kernel) ⟨Nat.le_of_ble_eq_true rfl, Nat.le_of_ble_eq_true rfl⟩) hK hNX hP hD hS rfl hl.1 rfl (Nat.le_of_ble_eq_true rfl) rd_M_digit_1 ⟨Nat.zero_le _, Nat.zero_le _⟩ (fun o w1 H locs hq hP hD hS => ?_)
  obtain ⟨rfl, e9⟩ := hq
  rw [e9] at hP hD
  refine W.eq (g2 := F0 m 4 ls [.int (iv (1))]) rfl ?_
  refine iw_if_eq (tgt := 37) hx hb rd_M_digit_4 (by decide) ⟨by omega, by omega⟩ (fun k1 => ?_) (fun k1 => ?_)
  ·
    exact absurd k1 (by decide)
  ·
    refine lv_iload_n hx hb rd_M_digit_7 rfl (lv_at hl 2 rfl) ?_
    refine ef_callS (As := [.int (iv (1))]) (rest := []) ⟨hx, hb, hml, hown, hts⟩ (r_isNumber1 l dC dI ht r) (cwS 1 hts (ef_goodS rm_336 rm_337 rm_24 rm_338) rfl rfl rfl (by decide +kernel) ⟨Nat.le_of_ble_eq_true rfl, Nat.le_of_ble_eq_true rfl⟩) hK hNX hP hD hS rfl hl.1 rfl (Nat.le_of_ble_eq_true rfl) rd_M_digit_8 ⟨Nat.zero_le _, Nat.zero_le _⟩ (fun o w1 H locs hq hP hD hS => ?_)
    obtain ⟨rfl, e9⟩ := hq
    rw [e9] at hP hD
    refine W.eq (g2 := F0 m 11 ls [.int (iv (1))]) rfl ?_
    refine iw_if_eq (tgt := 37) hx hb rd_M_digit_11 (by decide) ⟨by omega, by omega⟩ (fun k2 => ?_) (fun k2 => ?_)
    ·
      exact absurd k2 (by decide)
    ·
      refine lv_iload_n hx hb rd_M_digit_14 rfl (lv_at hl 3 rfl) ?_
      refine lv_iconst (v := iv (1)) hx hb rd_M_digit_15 (by decide) ?_
      refine iw_icmp_lt (tgt := 37) hx hb rd_M_digit_16 (by decide) (hm) ⟨by omega, by omega⟩ (fun c0 => ?_) (fun c0 => ?_)
      ·
        refine lv_iconst (v := iv (-1)) hx hb rd_M_digit_37 (by decide) ?_
        exact ef_iret hx hb hr hlocks hP hD hS rd_M_digit_38 (⟨fun i => [((V 0)), ((V 1)), ((V 2)), ((V 3)), ((V 4)), ((V 5)), ((V 6))].getD i 0, fun i => [((J 0)), ((J 1)), ((J 2)), ((J 3)), ((J 4)), ((J 5)), ((J 6)), ((J 7)), ((J 8)), ((J 9)), ((J 10))].getD i (fun _ => 0), _, _, _, _, rfl, rfl, rJ_of (hJ 0 (by decide)) (hJ 1 (by decide)) (hJ 2 (by decide)) (hJ 3 (by decide)) (hJ 4 (by decide)) (hJ 5 (by decide)) (hJ 6 (by decide)), kA1, kU1, kA2, kU2⟩)
      ·
        refine lv_iload_n hx hb rd_M_digit_19 rfl (lv_at hl 3 rfl) ?_
        refine lv_ldc (v := iv (1000000)) hx hb hown (hts _ (List.mem_cons_of_mem _ rm_347)) rd_M_digit_20 ?_
        refine iw_icmp_gt (tgt := 37) hx hb rd_M_digit_22 (by decide) (hm) ⟨by omega, by omega⟩ (fun c1 => ?_) (fun c1 => ?_)
        ·
          refine lv_iconst (v := iv (-1)) hx hb rd_M_digit_37 (by decide) ?_
          exact ef_iret hx hb hr hlocks hP hD hS rd_M_digit_38 (⟨fun i => [((V 0)), ((V 1)), ((V 2)), ((V 3)), ((V 4)), ((V 5)), ((V 6))].getD i 0, fun i => [((J 0)), ((J 1)), ((J 2)), ((J 3)), ((J 4)), ((J 5)), ((J 6)), ((J 7)), ((J 8)), ((J 9)), ((J 10))].getD i (fun _ => 0), _, _, _, _, rfl, rfl, rJ_of (hJ 0 (by decide)) (hJ 1 (by decide)) (hJ 2 (by decide)) (hJ 3 (by decide)) (hJ 4 (by decide)) (hJ 5 (by decide)) (hJ 6 (by decide)), kA1, kU1, kA2, kU2⟩)
        ·
          refine lv_iload hx hb rd_M_digit_25 (lv_at hl 4 rfl) ?_
          refine iw_if_lt (tgt := 37) hx hb rd_M_digit_27 (by decide) (ho) (fun c2 => ?_) (fun c2 => ?_)
          ·
            refine lv_iconst (v := iv (-1)) hx hb rd_M_digit_37 (by decide) ?_
            exact ef_iret hx hb hr hlocks hP hD hS rd_M_digit_38 (⟨fun i => [((V 0)), ((V 1)), ((V 2)), ((V 3)), ((V 4)), ((V 5)), ((V 6))].getD i 0, fun i => [((J 0)), ((J 1)), ((J 2)), ((J 3)), ((J 4)), ((J 5)), ((J 6)), ((J 7)), ((J 8)), ((J 9)), ((J 10))].getD i (fun _ => 0), _, _, _, _, rfl, rfl, rJ_of (hJ 0 (by decide)) (hJ 1 (by decide)) (hJ 2 (by decide)) (hJ 3 (by decide)) (hJ 4 (by decide)) (hJ 5 (by decide)) (hJ 6 (by decide)), kA1, kU1, kA2, kU2⟩)
          ·
            refine lv_iload hx hb rd_M_digit_30 (lv_at hl 4 rfl) ?_
            refine lv_ldc (v := iv (1000000)) hx hb hown (hts _ (List.mem_cons_of_mem _ rm_347)) rd_M_digit_32 ?_
            refine iw_icmp_le (tgt := 39) hx hb rd_M_digit_34 (by decide) (ho) ⟨by omega, by omega⟩ (fun c3 => ?_) (fun c3 => ?_)
            ·
              exact absurd hbad (by omega)
            ·
              refine lv_iconst (v := iv (-1)) hx hb rd_M_digit_37 (by decide) ?_
              exact ef_iret hx hb hr hlocks hP hD hS rd_M_digit_38 (⟨fun i => [((V 0)), ((V 1)), ((V 2)), ((V 3)), ((V 4)), ((V 5)), ((V 6))].getD i 0, fun i => [((J 0)), ((J 1)), ((J 2)), ((J 3)), ((J 4)), ((J 5)), ((J 6)), ((J 7)), ((J 8)), ((J 9)), ((J 10))].getD i (fun _ => 0), _, _, _, _, rfl, rfl, rJ_of (hJ 0 (by decide)) (hJ 1 (by decide)) (hJ 2 (by decide)) (hJ 3 (by decide)) (hJ 4 (by decide)) (hJ 5 (by decide)) (hJ 6 (by decide)), kA1, kU1, kA2, kU2⟩)

set_option maxRecDepth 100000 in
set_option maxHeartbeats 4000000 in
/-- digit -/
theorem r_digit10F (l : Launch) (dC : Nat → ClassId) (dI : Nat → Nat → Nat) {cI : ClassId} {tys : List (ClassId × FieldType)} (ht : tys[0]? = some (cI, .int)) (r : Nat → Nat) {V : Nat → Nat} {J : Nat → Nat → Nat} {A1 U1 A2 U2 : Nat} {pb pe ob oe b1 e1 b2 e2 : Int} (hJ : rJ V J) (kA1 : bk A1 (J 7)) (kU1 : bk U1 (J 8)) (kA2 : bk A2 (J 9)) (kU2 : bk U2 (J 10)) (mA1 : dn A1 ≤ 300) (mU1 : dn U1 ≤ 300) (mA2 : dn A2 ≤ 300) (mU2 : dn U2 ≤ 300) (mu mo : Nat) (hm1 : 1 ≤ mu) (hmu : mu ≤ 1000000) (hmo : mo ≤ 1000000) (hb4 : 4800 < bl (A2 * mu + mo)) : ef_C l ry_M_digit rw_M_digit ({ frames := 1, cells := 0, slots := 0, locals := 27 } : Room) [.ref (r 0), .int (iv (1)), .int (iv (0)), .int (iv ((mu : Int))), .int (iv ((mo : Int)))] (dC, dI) vwCl tys (rC cI r ((V 0)) ((V 1)) ((V 2)) ((V 3)) ((V 4)) ((V 5)) ((V 6)) (A1) (U1) (A2) (U2) ((J 0)) ((J 1)) ((J 2)) ((J 3)) ((J 4)) ((J 5)) ((J 6)) ((J 7)) ((J 8)) ((J 9)) ((J 10)) (pb) (pe) (ob) (oe) (b1) (e1) (b2) (e2)) (fun o w1 => ∃ (V2 : Nat → Nat) (J2 : Nat → Nat → Nat) (pb2 pe2 ob2 oe2 : Int), o = some (.int (iv (-2))) ∧ w1 = rC cI r (V2 0) (V2 1) (V2 2) (V2 3) (V2 4) (V2 5) (V2 6) (A1) (U1) (A2) (U2) (J2 0) (J2 1) (J2 2) (J2 3) (J2 4) (J2 5) (J2 6) (J2 7) (J2 8) (J2 9) (J2 10) (pb2) (pe2) (ob2) (oe2) (b1) (e1) (b2) (e2) ∧ rJ V2 J2 ∧ bk (A1) (J2 7) ∧ bk (U1) (J2 8) ∧ bk (A2) (J2 9) ∧ bk (U2) (J2 10)) := by
  refine ef_C.of (cc := rc_M_digit) (maxL := 6) (ret := (some .int)) (by decide) rfl (Nat.le_of_ble_eq_true rfl) ?_
  intro p e s m below meth c ls hx hb hml hr hts hown hlocks hK hNX hP hD hS hl
  have hl : lv_has ls 6 [(0, .ref (r 0)), (1, .int (iv (1))), (2, .int (iv (0))), (3, .int (iv ((mu : Int)))), (4, .int (iv ((mo : Int))))] := hl
  have hown : s.vm.findClass rR5 = some m.cls := hown
  generalize hH : s.heap = H at hP ⊢
  have hS : va_S (ef_A (rC cI r ((V 0)) ((V 1)) ((V 2)) ((V 3)) ((V 4)) ((V 5)) ((V 6)) (A1) (U1) (A2) (U2) ((J 0)) ((J 1)) ((J 2)) ((J 3)) ((J 4)) ((J 5)) ((J 6)) ((J 7)) ((J 8)) ((J 9)) ((J 10)) (pb) (pe) (ob) (oe) (b1) (e1) (b2) (e2))) s.heap H [] := by rw [← hH]; exact hS
  generalize ([] : List Loc) = locs at hS ⊢
  have hdm := dn_mul mA2 hmu hmo
  have hbd : bl (A2 * mu + mo) ≤ 16 * 304 := bl_le (Nat.lt_of_lt_of_le (dn_lt _) (Nat.pow_le_pow_right (by decide) (by omega)))
  refine lv_iload_n hx hb rd_M_digit_0 rfl (lv_at hl 1 rfl) ?_
  refine ef_callS (As := [.int (iv (1))]) (rest := []) ⟨hx, hb, hml, hown, hts⟩ (r_isNumber1 l dC dI ht r) (cwS 1 hts (ef_goodS rm_336 rm_337 rm_24 rm_338) rfl rfl rfl (by decide +kernel) ⟨Nat.le_of_ble_eq_true rfl, Nat.le_of_ble_eq_true rfl⟩) hK hNX hP hD hS rfl hl.1 rfl (Nat.le_of_ble_eq_true rfl) rd_M_digit_1 ⟨Nat.zero_le _, Nat.zero_le _⟩ (fun o w1 H locs hq hP hD hS => ?_)
  obtain ⟨rfl, e9⟩ := hq
  rw [e9] at hP hD
  refine W.eq (g2 := F0 m 4 ls [.int (iv (1))]) rfl ?_
  refine iw_if_eq (tgt := 37) hx hb rd_M_digit_4 (by decide) ⟨by omega, by omega⟩ (fun k1 => ?_) (fun k1 => ?_)
  ·
    exact absurd k1 (by decide)
  ·
    refine lv_iload_n hx hb rd_M_digit_7 rfl (lv_at hl 2 rfl) ?_
    refine ef_callS (As := [.int (iv (0))]) (rest := []) ⟨hx, hb, hml, hown, hts⟩ (r_isNumber0 l dC dI ht r) (cwS 1 hts (ef_goodS rm_336 rm_337 rm_24 rm_338) rfl rfl rfl (by decide +kernel) ⟨Nat.le_of_ble_eq_true rfl, Nat.le_of_ble_eq_true rfl⟩) hK hNX hP hD hS rfl hl.1 rfl (Nat.le_of_ble_eq_true rfl) rd_M_digit_8 ⟨Nat.zero_le _, Nat.zero_le _⟩ (fun o w1 H locs hq hP hD hS => ?_)
    obtain ⟨rfl, e9⟩ := hq
    rw [e9] at hP hD
    refine W.eq (g2 := F0 m 11 ls [.int (iv (1))]) rfl ?_
    refine iw_if_eq (tgt := 37) hx hb rd_M_digit_11 (by decide) ⟨by omega, by omega⟩ (fun k2 => ?_) (fun k2 => ?_)
    ·
      exact absurd k2 (by decide)
    ·
      refine lv_iload_n hx hb rd_M_digit_14 rfl (lv_at hl 3 rfl) ?_
      refine lv_iconst (v := iv (1)) hx hb rd_M_digit_15 (by decide) ?_
      refine iw_icmp_lt (tgt := 37) hx hb rd_M_digit_16 (by decide) ⟨by omega, by omega⟩ ⟨by omega, by omega⟩ (fun c0 => ?_) (fun c0 => ?_)
      ·
        exact absurd c0 (by omega)
      ·
        refine lv_iload_n hx hb rd_M_digit_19 rfl (lv_at hl 3 rfl) ?_
        refine lv_ldc (v := iv (1000000)) hx hb hown (hts _ (List.mem_cons_of_mem _ rm_347)) rd_M_digit_20 ?_
        refine iw_icmp_gt (tgt := 37) hx hb rd_M_digit_22 (by decide) ⟨by omega, by omega⟩ ⟨by omega, by omega⟩ (fun c1 => ?_) (fun c1 => ?_)
        ·
          exact absurd c1 (by omega)
        ·
          refine lv_iload hx hb rd_M_digit_25 (lv_at hl 4 rfl) ?_
          refine iw_if_lt (tgt := 37) hx hb rd_M_digit_27 (by decide) ⟨by omega, by omega⟩ (fun c2 => ?_) (fun c2 => ?_)
          ·
            exact absurd c2 (by omega)
          ·
            refine lv_iload hx hb rd_M_digit_30 (lv_at hl 4 rfl) ?_
            refine lv_ldc (v := iv (1000000)) hx hb hown (hts _ (List.mem_cons_of_mem _ rm_347)) rd_M_digit_32 ?_
            refine iw_icmp_le (tgt := 39) hx hb rd_M_digit_34 (by decide) ⟨by omega, by omega⟩ ⟨by omega, by omega⟩ (fun c3 => ?_) (fun c3 => ?_)
            ·
              refine lv_aload_n hx hb rd_M_digit_39 rfl (lv_at hl 0 rfl) ?_
              refine lv_iload_n hx hb rd_M_digit_40 rfl (lv_at hl 1 rfl) ?_
              refine lv_iload_n hx hb rd_M_digit_41 rfl (lv_at hl 2 rfl) ?_
              refine ef_callV (As := [.int (iv (1)), .int (iv (0))]) (rest := []) ⟨hx, hb, hml, hown, hts⟩ (r_partOf10 l dC dI ht r) (cwV 2 hts (ef_goodV rm_348 rm_350 rm_13 rm_24 rm_351) rfl rfl rfl (by decide +kernel) ⟨Nat.le_of_ble_eq_true rfl, Nat.le_of_ble_eq_true rfl⟩) hK hNX hP hD hS 0 rfl rfl rfl rfl hl.1 rfl (Nat.le_of_ble_eq_true rfl) rd_M_digit_42 ⟨Nat.zero_le _, Nat.zero_le _⟩ (fun o w1 H locs hq hP hD hS => ?_)
              obtain ⟨rfl, e9⟩ := hq
              rw [e9] at hP hD
              refine W.eq (g2 := F0 m 45 ls [.ref (r 23)]) rfl ?_
              refine lv_astore (lv' := [(5, .ref (r 23)), (0, .ref (r 0)), (1, .int (iv (1))), (2, .int (iv (0))), (3, .int (iv ((mu : Int)))), (4, .int (iv ((mo : Int))))]) hx hb rd_M_digit_45 hl (by decide) rfl (fun ls hl => ?_)
              refine lv_aload_n hx hb rd_M_digit_47 rfl (lv_at hl 1 rfl) ?_
              refine va_get (D := (dC, dI)) (ci := 5) (v := .ref (r 9)) (C := rR5) (T := rT5) (N := 7) hx hb hts (fun w h => List.mem_cons_of_mem _ (rin5 w h)) hown hK hP 0 rfl rfl 6 (by decide) (hts _ (List.mem_cons_of_mem _ rm_316)) (fun _ h9 => h9) rfl rd_M_digit_48 ?_
              refine lv_aload hx hb rd_M_digit_51 (lv_at hl 0 rfl) ?_
              refine ef_callV (As := [.ref (r 23)]) (rest := []) ⟨hx, hb, hml, hown, hts⟩ (b_copy l dC dI ht (isB_c (X := (V 2)) (F := (J 2)) (ws := rC cI r ((V 0)) ((V 1)) ((V 2)) ((V 3)) ((V 4)) ((V 5)) ((V 6)) (A1) (U1) (A2) (U2) ((J 0)) ((J 1)) ((J 2)) ((J 3)) ((J 4)) ((J 5)) ((J 6)) ((J 7)) ((J 8)) ((J 9)) ((J 10)) (pb) (pe) (ob) (oe) (b1) (e1) (b2) (e2)) (k0 := 9) (k1 := 10) (by decide) rfl rfl) (isB_c (X := A2) (F := (J 9)) (ws := rC cI r ((V 0)) ((V 1)) ((V 2)) ((V 3)) ((V 4)) ((V 5)) ((V 6)) (A1) (U1) (A2) (U2) ((J 0)) ((J 1)) ((J 2)) ((J 3)) ((J 4)) ((J 5)) ((J 6)) ((J 7)) ((J 8)) ((J 9)) ((J 10)) (pb) (pe) (ob) (oe) (b1) (e1) (b2) (e2)) (k0 := 23) (k1 := 24) (by decide) rfl rfl) kA2.1 kA2.2 (apt_c (k0 := 9) (k1 := 10) (j0 := 23) (j1 := 24) rfl)) (cwV 1 hts (ef_goodV rm_352 rm_353 rm_354 rm_25 rm_355) rfl rfl rfl (by decide +kernel) ⟨Nat.le_of_ble_eq_true rfl, Nat.le_of_ble_eq_true rfl⟩) hK hNX hP hD hS 9 rfl rfl rfl rfl hl.1 rfl (Nat.le_of_ble_eq_true rfl) rd_M_digit_53 ⟨Nat.zero_le _, Nat.zero_le _⟩ (fun o w1 H locs hq hP hD hS => ?_)
              obtain ⟨rfl, g_1, rfl, hg_2⟩ := hq
              have hP : va_P (dC, dI) vwCl (rC cI r ((V 0)) ((V 1)) (A2) ((V 3)) ((V 4)) ((V 5)) ((V 6)) (A1) (U1) (A2) (U2) ((J 0)) ((J 1)) (g_1) ((J 3)) ((J 4)) ((J 5)) ((J 6)) ((J 7)) ((J 8)) ((J 9)) ((J 10)) (pb) (pe) (ob) (oe) (b1) (e1) (b2) (e2)) H := hP
              have hD : va_D (ef_A (rC cI r ((V 0)) ((V 1)) ((V 2)) ((V 3)) ((V 4)) ((V 5)) ((V 6)) (A1) (U1) (A2) (U2) ((J 0)) ((J 1)) ((J 2)) ((J 3)) ((J 4)) ((J 5)) ((J 6)) ((J 7)) ((J 8)) ((J 9)) ((J 10)) (pb) (pe) (ob) (oe) (b1) (e1) (b2) (e2))) (rC cI r ((V 0)) ((V 1)) (A2) ((V 3)) ((V 4)) ((V 5)) ((V 6)) (A1) (U1) (A2) (U2) ((J 0)) ((J 1)) (g_1) ((J 3)) ((J 4)) ((J 5)) ((J 6)) ((J 7)) ((J 8)) ((J 9)) ((J 10)) (pb) (pe) (ob) (oe) (b1) (e1) (b2) (e2)) := hD
              have hg_2 : bk (A2) g_1 := ⟨hg_2, kA2.2⟩
              refine W.eq (g2 := F0 m 56 ls []) rfl ?_
              refine lv_aload_n hx hb rd_M_digit_56 rfl (lv_at hl 1 rfl) ?_
              refine va_get (D := (dC, dI)) (ci := 5) (v := .ref (r 9)) (C := rR5) (T := rT5) (N := 7) hx hb hts (fun w h => List.mem_cons_of_mem _ (rin5 w h)) hown hK hP 0 rfl rfl 6 (by decide) (hts _ (List.mem_cons_of_mem _ rm_316)) (fun _ h9 => h9) rfl rd_M_digit_57 ?_
              refine lv_iload_n hx hb rd_M_digit_60 rfl (lv_at hl 4 rfl) ?_
              refine lv_iload hx hb rd_M_digit_61 (lv_at hl 5 rfl) ?_
              refine ef_callV (As := [.int (iv ((mu : Int))), .int (iv ((mo : Int)))]) (rest := []) ⟨hx, hb, hml, hown, hts⟩ (b_grow l dC dI ht (isB_c (X := A2) (F := g_1) (ws := rC cI r ((V 0)) ((V 1)) (A2) ((V 3)) ((V 4)) ((V 5)) ((V 6)) (A1) (U1) (A2) (U2) ((J 0)) ((J 1)) (g_1) ((J 3)) ((J 4)) ((J 5)) ((J 6)) ((J 7)) ((J 8)) ((J 9)) ((J 10)) (pb) (pe) (ob) (oe) (b1) (e1) (b2) (e2)) (k0 := 9) (k1 := 10) (by decide) rfl rfl) hg_2.1 (by omega) mu mo hm1 hmu hmo) (cwV 2 hts (ef_goodV rm_356 rm_357 rm_358 rm_25 rm_359) rfl rfl rfl (by decide +kernel) ⟨Nat.le_of_ble_eq_true rfl, Nat.le_of_ble_eq_true rfl⟩) hK hNX hP hD hS 9 rfl rfl rfl rfl hl.1 rfl (Nat.le_of_ble_eq_true rfl) rd_M_digit_63 ⟨Nat.zero_le _, Nat.zero_le _⟩ (fun o w1 H locs hq hP hD hS => ?_)
              obtain ⟨rfl, g_3, rfl, hg_4⟩ := hq
              have hP : va_P (dC, dI) vwCl (rC cI r ((V 0)) ((V 1)) (A2 * mu + mo) ((V 3)) ((V 4)) ((V 5)) ((V 6)) (A1) (U1) (A2) (U2) ((J 0)) ((J 1)) (g_3) ((J 3)) ((J 4)) ((J 5)) ((J 6)) ((J 7)) ((J 8)) ((J 9)) ((J 10)) (pb) (pe) (ob) (oe) (b1) (e1) (b2) (e2)) H := hP
              have hD : va_D (ef_A (rC cI r ((V 0)) ((V 1)) ((V 2)) ((V 3)) ((V 4)) ((V 5)) ((V 6)) (A1) (U1) (A2) (U2) ((J 0)) ((J 1)) ((J 2)) ((J 3)) ((J 4)) ((J 5)) ((J 6)) ((J 7)) ((J 8)) ((J 9)) ((J 10)) (pb) (pe) (ob) (oe) (b1) (e1) (b2) (e2))) (rC cI r ((V 0)) ((V 1)) (A2 * mu + mo) ((V 3)) ((V 4)) ((V 5)) ((V 6)) (A1) (U1) (A2) (U2) ((J 0)) ((J 1)) (g_3) ((J 3)) ((J 4)) ((J 5)) ((J 6)) ((J 7)) ((J 8)) ((J 9)) ((J 10)) (pb) (pe) (ob) (oe) (b1) (e1) (b2) (e2)) := hD
              have hg_4 : bk (A2 * mu + mo) g_3 := ⟨hg_4, by omega⟩
              refine W.eq (g2 := F0 m 66 ls []) rfl ?_
              refine lv_aload_n hx hb rd_M_digit_66 rfl (lv_at hl 1 rfl) ?_
              refine va_get (D := (dC, dI)) (ci := 5) (v := .ref (r 9)) (C := rR5) (T := rT5) (N := 7) hx hb hts (fun w h => List.mem_cons_of_mem _ (rin5 w h)) hown hK hP 0 rfl rfl 6 (by decide) (hts _ (List.mem_cons_of_mem _ rm_316)) (fun _ h9 => h9) rfl rd_M_digit_67 ?_
              refine ef_callV (As := []) (rest := []) ⟨hx, hb, hml, hown, hts⟩ (b_bits l dC dI ht (isB_c (X := A2 * mu + mo) (F := g_3) (ws := rC cI r ((V 0)) ((V 1)) (A2 * mu + mo) ((V 3)) ((V 4)) ((V 5)) ((V 6)) (A1) (U1) (A2) (U2) ((J 0)) ((J 1)) (g_3) ((J 3)) ((J 4)) ((J 5)) ((J 6)) ((J 7)) ((J 8)) ((J 9)) ((J 10)) (pb) (pe) (ob) (oe) (b1) (e1) (b2) (e2)) (k0 := 9) (k1 := 10) (by decide) rfl rfl) hg_4.1 hg_4.2) (cwV 0 hts (ef_goodV rm_360 rm_361 rm_362 rm_25 rm_363) rfl rfl rfl (by decide +kernel) ⟨Nat.le_of_ble_eq_true rfl, Nat.le_of_ble_eq_true rfl⟩) hK hNX hP hD hS 9 rfl rfl rfl rfl hl.1 rfl (Nat.le_of_ble_eq_true rfl) rd_M_digit_70 ⟨Nat.zero_le _, Nat.zero_le _⟩ (fun o w1 H locs hq hP hD hS => ?_)
              obtain ⟨rfl, e9⟩ := hq
              rw [e9] at hP hD
              refine W.eq (g2 := F0 m 73 ls [.int (iv ((bl (A2 * mu + mo) : Int)))]) rfl ?_
              refine lv_sipush (v := iv (4800)) hx hb rd_M_digit_73 (by decide) ?_
              refine iw_icmp_le (tgt := 82) hx hb rd_M_digit_76 (by decide) ⟨by omega, by omega⟩ ⟨by omega, by omega⟩ (fun c5 => ?_) (fun c5 => ?_)
              ·
                exact absurd c5 (by omega)
              ·
                refine lv_bipush (v := iv (-2)) hx hb rd_M_digit_79 (by decide) ?_
                exact ef_iret hx hb hr hlocks hP hD hS rd_M_digit_81 (⟨fun i => [((V 0)), ((V 1)), (A2 * mu + mo), ((V 3)), ((V 4)), ((V 5)), ((V 6))].getD i 0, fun i => [((J 0)), ((J 1)), (g_3), ((J 3)), ((J 4)), ((J 5)), ((J 6)), ((J 7)), ((J 8)), ((J 9)), ((J 10))].getD i (fun _ => 0), _, _, _, _, rfl, rfl, rJ_of (hJ 0 (by decide)) (hJ 1 (by decide)) hg_4 (hJ 3 (by decide)) (hJ 4 (by decide)) (hJ 5 (by decide)) (hJ 6 (by decide)), kA1, kU1, kA2, kU2⟩)
            ·
              exact absurd c3 (by omega)

set_option maxRecDepth 100000 in
set_option maxHeartbeats 4000000 in
/-- digit -/
theorem r_digit10K (l : Launch) (dC : Nat → ClassId) (dI : Nat → Nat → Nat) {cI : ClassId} {tys : List (ClassId × FieldType)} (ht : tys[0]? = some (cI, .int)) (r : Nat → Nat) {V : Nat → Nat} {J : Nat → Nat → Nat} {A1 U1 A2 U2 : Nat} {pb pe ob oe b1 e1 b2 e2 : Int} (hJ : rJ V J) (kA1 : bk A1 (J 7)) (kU1 : bk U1 (J 8)) (kA2 : bk A2 (J 9)) (kU2 : bk U2 (J 10)) (mA1 : dn A1 ≤ 300) (mU1 : dn U1 ≤ 300) (mA2 : dn A2 ≤ 300) (mU2 : dn U2 ≤ 300) (mu mo : Nat) (hm1 : 1 ≤ mu) (hmu : mu ≤ 1000000) (hmo : mo ≤ 1000000) (hb4 : bl (A2 * mu + mo) ≤ 4800) : ef_C l ry_M_digit rw_M_digit ({ frames := 1, cells := 0, slots := 0, locals := 27 } : Room) [.ref (r 0), .int (iv (1)), .int (iv (0)), .int (iv ((mu : Int))), .int (iv ((mo : Int)))] (dC, dI) vwCl tys (rC cI r ((V 0)) ((V 1)) ((V 2)) ((V 3)) ((V 4)) ((V 5)) ((V 6)) (A1) (U1) (A2) (U2) ((J 0)) ((J 1)) ((J 2)) ((J 3)) ((J 4)) ((J 5)) ((J 6)) ((J 7)) ((J 8)) ((J 9)) ((J 10)) (pb) (pe) (ob) (oe) (b1) (e1) (b2) (e2)) (fun o w1 => ∃ (V2 : Nat → Nat) (J2 : Nat → Nat → Nat) (pb2 pe2 ob2 oe2 : Int), o = some (.int (iv (bl (A2 * mu + mo) : Int))) ∧ w1 = rC cI r (V2 0) (V2 1) (V2 2) (V2 3) (V2 4) (V2 5) (V2 6) (A1) (U1) (A2 * mu + mo) (U2) (J2 0) (J2 1) (J2 2) (J2 3) (J2 4) (J2 5) (J2 6) (J2 7) (J2 8) (J2 9) (J2 10) (pb2) (pe2) (ob2) (oe2) (b1) (e1) (b2) (e2) ∧ rJ V2 J2 ∧ bk (A1) (J2 7) ∧ bk (U1) (J2 8) ∧ bk (A2 * mu + mo) (J2 9) ∧ bk (U2) (J2 10)) := by
  refine ef_C.of (cc := rc_M_digit) (maxL := 6) (ret := (some .int)) (by decide) rfl (Nat.le_of_ble_eq_true rfl) ?_
  intro p e s m below meth c ls hx hb hml hr hts hown hlocks hK hNX hP hD hS hl
  have hl : lv_has ls 6 [(0, .ref (r 0)), (1, .int (iv (1))), (2, .int (iv (0))), (3, .int (iv ((mu : Int)))), (4, .int (iv ((mo : Int))))] := hl
  have hown : s.vm.findClass rR5 = some m.cls := hown
  generalize hH : s.heap = H at hP ⊢
  have hS : va_S (ef_A (rC cI r ((V 0)) ((V 1)) ((V 2)) ((V 3)) ((V 4)) ((V 5)) ((V 6)) (A1) (U1) (A2) (U2) ((J 0)) ((J 1)) ((J 2)) ((J 3)) ((J 4)) ((J 5)) ((J 6)) ((J 7)) ((J 8)) ((J 9)) ((J 10)) (pb) (pe) (ob) (oe) (b1) (e1) (b2) (e2))) s.heap H [] := by rw [← hH]; exact hS
  generalize ([] : List Loc) = locs at hS ⊢
  have hdm := dn_mul mA2 hmu hmo
  have hbd : bl (A2 * mu + mo) ≤ 16 * 304 := bl_le (Nat.lt_of_lt_of_le (dn_lt _) (Nat.pow_le_pow_right (by decide) (by omega)))
  refine lv_iload_n hx hb rd_M_digit_0 rfl (lv_at hl 1 rfl) ?_
  refine ef_callS (As := [.int (iv (1))]) (rest := []) ⟨hx, hb, hml, hown, hts⟩ (r_isNumber1 l dC dI ht r) (cwS 1 hts (ef_goodS rm_336 rm_337 rm_24 rm_338) rfl rfl rfl (by decide +kernel) ⟨Nat.le_of_ble_eq_true rfl, Nat.le_of_ble_eq_true rfl⟩) hK hNX hP hD hS rfl hl.1 rfl (Nat.le_of_ble_eq_true rfl) rd_M_digit_1 ⟨Nat.zero_le _, Nat.zero_le _⟩ (fun o w1 H locs hq hP hD hS => ?_)
  obtain ⟨rfl, e9⟩ := hq
  rw [e9] at hP hD
  refine W.eq (g2 := F0 m 4 ls [.int (iv (1))]) rfl ?_
  refine iw_if_eq (tgt := 37) hx hb rd_M_digit_4 (by decide) ⟨by omega, by omega⟩ (fun k1 => ?_) (fun k1 => ?_)
  ·
    exact absurd k1 (by decide)
  ·
    refine lv_iload_n hx hb rd_M_digit_7 rfl (lv_at hl 2 rfl) ?_
    refine ef_callS (As := [.int (iv (0))]) (rest := []) ⟨hx, hb, hml, hown, hts⟩ (r_isNumber0 l dC dI ht r) (cwS 1 hts (ef_goodS rm_336 rm_337 rm_24 rm_338) rfl rfl rfl (by decide +kernel) ⟨Nat.le_of_ble_eq_true rfl, Nat.le_of_ble_eq_true rfl⟩) hK hNX hP hD hS rfl hl.1 rfl (Nat.le_of_ble_eq_true rfl) rd_M_digit_8 ⟨Nat.zero_le _, Nat.zero_le _⟩ (fun o w1 H locs hq hP hD hS => ?_)
    obtain ⟨rfl, e9⟩ := hq
    rw [e9] at hP hD
    refine W.eq (g2 := F0 m 11 ls [.int (iv (1))]) rfl ?_
    refine iw_if_eq (tgt := 37) hx hb rd_M_digit_11 (by decide) ⟨by omega, by omega⟩ (fun k2 => ?_) (fun k2 => ?_)
    ·
      exact absurd k2 (by decide)
    ·
      refine lv_iload_n hx hb rd_M_digit_14 rfl (lv_at hl 3 rfl) ?_
      refine lv_iconst (v := iv (1)) hx hb rd_M_digit_15 (by decide) ?_
      refine iw_icmp_lt (tgt := 37) hx hb rd_M_digit_16 (by decide) ⟨by omega, by omega⟩ ⟨by omega, by omega⟩ (fun c0 => ?_) (fun c0 => ?_)
      ·
        exact absurd c0 (by omega)
      ·
        refine lv_iload_n hx hb rd_M_digit_19 rfl (lv_at hl 3 rfl) ?_
        refine lv_ldc (v := iv (1000000)) hx hb hown (hts _ (List.mem_cons_of_mem _ rm_347)) rd_M_digit_20 ?_
        refine iw_icmp_gt (tgt := 37) hx hb rd_M_digit_22 (by decide) ⟨by omega, by omega⟩ ⟨by omega, by omega⟩ (fun c1 => ?_) (fun c1 => ?_)
        ·
          exact absurd c1 (by omega)
        ·
          refine lv_iload hx hb rd_M_digit_25 (lv_at hl 4 rfl) ?_
          refine iw_if_lt (tgt := 37) hx hb rd_M_digit_27 (by decide) ⟨by omega, by omega⟩ (fun c2 => ?_) (fun c2 => ?_)
          ·
            exact absurd c2 (by omega)
          ·
            refine lv_iload hx hb rd_M_digit_30 (lv_at hl 4 rfl) ?_
            refine lv_ldc (v := iv (1000000)) hx hb hown (hts _ (List.mem_cons_of_mem _ rm_347)) rd_M_digit_32 ?_
            refine iw_icmp_le (tgt := 39) hx hb rd_M_digit_34 (by decide) ⟨by omega, by omega⟩ ⟨by omega, by omega⟩ (fun c3 => ?_) (fun c3 => ?_)
            ·
              refine lv_aload_n hx hb rd_M_digit_39 rfl (lv_at hl 0 rfl) ?_
              refine lv_iload_n hx hb rd_M_digit_40 rfl (lv_at hl 1 rfl) ?_
              refine lv_iload_n hx hb rd_M_digit_41 rfl (lv_at hl 2 rfl) ?_
              refine ef_callV (As := [.int (iv (1)), .int (iv (0))]) (rest := []) ⟨hx, hb, hml, hown, hts⟩ (r_partOf10 l dC dI ht r) (cwV 2 hts (ef_goodV rm_348 rm_350 rm_13 rm_24 rm_351) rfl rfl rfl (by decide +kernel) ⟨Nat.le_of_ble_eq_true rfl, Nat.le_of_ble_eq_true rfl⟩) hK hNX hP hD hS 0 rfl rfl rfl rfl hl.1 rfl (Nat.le_of_ble_eq_true rfl) rd_M_digit_42 ⟨Nat.zero_le _, Nat.zero_le _⟩ (fun o w1 H locs hq hP hD hS => ?_)
              obtain ⟨rfl, e9⟩ := hq
              rw [e9] at hP hD
              refine W.eq (g2 := F0 m 45 ls [.ref (r 23)]) rfl ?_
              refine lv_astore (lv' := [(5, .ref (r 23)), (0, .ref (r 0)), (1, .int (iv (1))), (2, .int (iv (0))), (3, .int (iv ((mu : Int)))), (4, .int (iv ((mo : Int))))]) hx hb rd_M_digit_45 hl (by decide) rfl (fun ls hl => ?_)
              refine lv_aload_n hx hb rd_M_digit_47 rfl (lv_at hl 1 rfl) ?_
              refine va_get (D := (dC, dI)) (ci := 5) (v := .ref (r 9)) (C := rR5) (T := rT5) (N := 7) hx hb hts (fun w h => List.mem_cons_of_mem _ (rin5 w h)) hown hK hP 0 rfl rfl 6 (by decide) (hts _ (List.mem_cons_of_mem _ rm_316)) (fun _ h9 => h9) rfl rd_M_digit_48 ?_
              refine lv_aload hx hb rd_M_digit_51 (lv_at hl 0 rfl) ?_
              refine ef_callV (As := [.ref (r 23)]) (rest := []) ⟨hx, hb, hml, hown, hts⟩ (b_copy l dC dI ht (isB_c (X := (V 2)) (F := (J 2)) (ws := rC cI r ((V 0)) ((V 1)) ((V 2)) ((V 3)) ((V 4)) ((V 5)) ((V 6)) (A1) (U1) (A2) (U2) ((J 0)) ((J 1)) ((J 2)) ((J 3)) ((J 4)) ((J 5)) ((J 6)) ((J 7)) ((J 8)) ((J 9)) ((J 10)) (pb) (pe) (ob) (oe) (b1) (e1) (b2) (e2)) (k0 := 9) (k1 := 10) (by decide) rfl rfl) (isB_c (X := A2) (F := (J 9)) (ws := rC cI r ((V 0)) ((V 1)) ((V 2)) ((V 3)) ((V 4)) ((V 5)) ((V 6)) (A1) (U1) (A2) (U2) ((J 0)) ((J 1)) ((J 2)) ((J 3)) ((J 4)) ((J 5)) ((J 6)) ((J 7)) ((J 8)) ((J 9)) ((J 10)) (pb) (pe) (ob) (oe) (b1) (e1) (b2) (e2)) (k0 := 23) (k1 := 24) (by decide) rfl rfl) kA2.1 kA2.2 (apt_c (k0 := 9) (k1 := 10) (j0 := 23) (j1 := 24) rfl)) (cwV 1 hts (ef_goodV rm_352 rm_353 rm_354 rm_25 rm_355) rfl rfl rfl (by decide +kernel) ⟨Nat.le_of_ble_eq_true rfl, Nat.le_of_ble_eq_true rfl⟩) hK hNX hP hD hS 9 rfl rfl rfl rfl hl.1 rfl (Nat.le_of_ble_eq_true rfl) rd_M_digit_53 ⟨Nat.zero_le _, Nat.zero_le _⟩ (fun o w1 H locs hq hP hD hS => ?_)
              obtain ⟨rfl, g_1, rfl, hg_2⟩ := hq
              have hP : va_P (dC, dI) vwCl (rC cI r ((V 0)) ((V 1)) (A2) ((V 3)) ((V 4)) ((V 5)) ((V 6)) (A1) (U1) (A2) (U2) ((J 0)) ((J 1)) (g_1) ((J 3)) ((J 4)) ((J 5)) ((J 6)) ((J 7)) ((J 8)) ((J 9)) ((J 10)) (pb) (pe) (ob) (oe) (b1) (e1) (b2) (e2)) H := hP
              have hD : va_D (ef_A (rC cI r ((V 0)) ((V 1)) ((V 2)) ((V 3)) ((V 4)) ((V 5)) ((V 6)) (A1) (U1) (A2) (U2) ((J 0)) ((J 1)) ((J 2)) ((J 3)) ((J 4)) ((J 5)) ((J 6)) ((J 7)) ((J 8)) ((J 9)) ((J 10)) (pb) (pe) (ob) (oe) (b1) (e1) (b2) (e2))) (rC cI r ((V 0)) ((V 1)) (A2) ((V 3)) ((V 4)) ((V 5)) ((V 6)) (A1) (U1) (A2) (U2) ((J 0)) ((J 1)) (g_1) ((J 3)) ((J 4)) ((J 5)) ((J 6)) ((J 7)) ((J 8)) ((J 9)) ((J 10)) (pb) (pe) (ob) (oe) (b1) (e1) (b2) (e2)) := hD
              have hg_2 : bk (A2) g_1 := ⟨hg_2, kA2.2⟩
              refine W.eq (g2 := F0 m 56 ls []) rfl ?_
              refine lv_aload_n hx hb rd_M_digit_56 rfl (lv_at hl 1 rfl) ?_
              refine va_get (D := (dC, dI)) (ci := 5) (v := .ref (r 9)) (C := rR5) (T := rT5) (N := 7) hx hb hts (fun w h => List.mem_cons_of_mem _ (rin5 w h)) hown hK hP 0 rfl rfl 6 (by decide) (hts _ (List.mem_cons_of_mem _ rm_316)) (fun _ h9 => h9) rfl rd_M_digit_57 ?_
              refine lv_iload_n hx hb rd_M_digit_60 rfl (lv_at hl 4 rfl) ?_
              refine lv_iload hx hb rd_M_digit_61 (lv_at hl 5 rfl) ?_
              refine ef_callV (As := [.int (iv ((mu : Int))), .int (iv ((mo : Int)))]) (rest := []) ⟨hx, hb, hml, hown, hts⟩ (b_grow l dC dI ht (isB_c (X := A2) (F := g_1) (ws := rC cI r ((V 0)) ((V 1)) (A2) ((V 3)) ((V 4)) ((V 5)) ((V 6)) (A1) (U1) (A2) (U2) ((J 0)) ((J 1)) (g_1) ((J 3)) ((J 4)) ((J 5)) ((J 6)) ((J 7)) ((J 8)) ((J 9)) ((J 10)) (pb) (pe) (ob) (oe) (b1) (e1) (b2) (e2)) (k0 := 9) (k1 := 10) (by decide) rfl rfl) hg_2.1 (by omega) mu mo hm1 hmu hmo) (cwV 2 hts (ef_goodV rm_356 rm_357 rm_358 rm_25 rm_359) rfl rfl rfl (by decide +kernel) ⟨Nat.le_of_ble_eq_true rfl, Nat.le_of_ble_eq_true rfl⟩) hK hNX hP hD hS 9 rfl rfl rfl rfl hl.1 rfl (Nat.le_of_ble_eq_true rfl) rd_M_digit_63 ⟨Nat.zero_le _, Nat.zero_le _⟩ (fun o w1 H locs hq hP hD hS => ?_)
              obtain ⟨rfl, g_3, rfl, hg_4⟩ := hq
              have hP : va_P (dC, dI) vwCl (rC cI r ((V 0)) ((V 1)) (A2 * mu + mo) ((V 3)) ((V 4)) ((V 5)) ((V 6)) (A1) (U1) (A2) (U2) ((J 0)) ((J 1)) (g_3) ((J 3)) ((J 4)) ((J 5)) ((J 6)) ((J 7)) ((J 8)) ((J 9)) ((J 10)) (pb) (pe) (ob) (oe) (b1) (e1) (b2) (e2)) H := hP
              have hD : va_D (ef_A (rC cI r ((V 0)) ((V 1)) ((V 2)) ((V 3)) ((V 4)) ((V 5)) ((V 6)) (A1) (U1) (A2) (U2) ((J 0)) ((J 1)) ((J 2)) ((J 3)) ((J 4)) ((J 5)) ((J 6)) ((J 7)) ((J 8)) ((J 9)) ((J 10)) (pb) (pe) (ob) (oe) (b1) (e1) (b2) (e2))) (rC cI r ((V 0)) ((V 1)) (A2 * mu + mo) ((V 3)) ((V 4)) ((V 5)) ((V 6)) (A1) (U1) (A2) (U2) ((J 0)) ((J 1)) (g_3) ((J 3)) ((J 4)) ((J 5)) ((J 6)) ((J 7)) ((J 8)) ((J 9)) ((J 10)) (pb) (pe) (ob) (oe) (b1) (e1) (b2) (e2)) := hD
              have hg_4 : bk (A2 * mu + mo) g_3 := ⟨hg_4, by omega⟩
              refine W.eq (g2 := F0 m 66 ls []) rfl ?_
              refine lv_aload_n hx hb rd_M_digit_66 rfl (lv_at hl 1 rfl) ?_
              refine va_get (D := (dC, dI)) (ci := 5) (v := .ref (r 9)) (C := rR5) (T := rT5) (N := 7) hx hb hts (fun w h => List.mem_cons_of_mem _ (rin5 w h)) hown hK hP 0 rfl rfl 6 (by decide) (hts _ (List.mem_cons_of_mem _ rm_316)) (fun _ h9 => h9) rfl rd_M_digit_67 ?_
              refine ef_callV (As := []) (rest := []) ⟨hx, hb, hml, hown, hts⟩ (b_bits l dC dI ht (isB_c (X := A2 * mu + mo) (F := g_3) (ws := rC cI r ((V 0)) ((V 1)) (A2 * mu + mo) ((V 3)) ((V 4)) ((V 5)) ((V 6)) (A1) (U1) (A2) (U2) ((J 0)) ((J 1)) (g_3) ((J 3)) ((J 4)) ((J 5)) ((J 6)) ((J 7)) ((J 8)) ((J 9)) ((J 10)) (pb) (pe) (ob) (oe) (b1) (e1) (b2) (e2)) (k0 := 9) (k1 := 10) (by decide) rfl rfl) hg_4.1 hg_4.2) (cwV 0 hts (ef_goodV rm_360 rm_361 rm_362 rm_25 rm_363) rfl rfl rfl (by decide +kernel) ⟨Nat.le_of_ble_eq_true rfl, Nat.le_of_ble_eq_true rfl⟩) hK hNX hP hD hS 9 rfl rfl rfl rfl hl.1 rfl (Nat.le_of_ble_eq_true rfl) rd_M_digit_70 ⟨Nat.zero_le _, Nat.zero_le _⟩ (fun o w1 H locs hq hP hD hS => ?_)
              obtain ⟨rfl, e9⟩ := hq
              rw [e9] at hP hD
              refine W.eq (g2 := F0 m 73 ls [.int (iv ((bl (A2 * mu + mo) : Int)))]) rfl ?_
              refine lv_sipush (v := iv (4800)) hx hb rd_M_digit_73 (by decide) ?_
              refine iw_icmp_le (tgt := 82) hx hb rd_M_digit_76 (by decide) ⟨by omega, by omega⟩ ⟨by omega, by omega⟩ (fun c5 => ?_) (fun c5 => ?_)
              ·
                refine lv_aload hx hb rd_M_digit_82 (lv_at hl 0 rfl) ?_
                refine lv_aload_n hx hb rd_M_digit_84 rfl (lv_at hl 1 rfl) ?_
                refine va_get (D := (dC, dI)) (ci := 5) (v := .ref (r 9)) (C := rR5) (T := rT5) (N := 7) hx hb hts (fun w h => List.mem_cons_of_mem _ (rin5 w h)) hown hK hP 0 rfl rfl 6 (by decide) (hts _ (List.mem_cons_of_mem _ rm_316)) (fun _ h9 => h9) rfl rd_M_digit_85 ?_
                refine ef_callV (As := [.ref (r 9)]) (rest := []) ⟨hx, hb, hml, hown, hts⟩ (b_copy l dC dI ht (isB_c (X := A2) (F := (J 9)) (ws := rC cI r ((V 0)) ((V 1)) (A2 * mu + mo) ((V 3)) ((V 4)) ((V 5)) ((V 6)) (A1) (U1) (A2) (U2) ((J 0)) ((J 1)) (g_3) ((J 3)) ((J 4)) ((J 5)) ((J 6)) ((J 7)) ((J 8)) ((J 9)) ((J 10)) (pb) (pe) (ob) (oe) (b1) (e1) (b2) (e2)) (k0 := 23) (k1 := 24) (by decide) rfl rfl) (isB_c (X := A2 * mu + mo) (F := g_3) (ws := rC cI r ((V 0)) ((V 1)) (A2 * mu + mo) ((V 3)) ((V 4)) ((V 5)) ((V 6)) (A1) (U1) (A2) (U2) ((J 0)) ((J 1)) (g_3) ((J 3)) ((J 4)) ((J 5)) ((J 6)) ((J 7)) ((J 8)) ((J 9)) ((J 10)) (pb) (pe) (ob) (oe) (b1) (e1) (b2) (e2)) (k0 := 9) (k1 := 10) (by decide) rfl rfl) hg_4.1 hg_4.2 (apt_c (k0 := 23) (k1 := 24) (j0 := 9) (j1 := 10) rfl)) (cwV 1 hts (ef_goodV rm_352 rm_353 rm_354 rm_25 rm_355) rfl rfl rfl (by decide +kernel) ⟨Nat.le_of_ble_eq_true rfl, Nat.le_of_ble_eq_true rfl⟩) hK hNX hP hD hS 23 rfl rfl rfl rfl hl.1 rfl (Nat.le_of_ble_eq_true rfl) rd_M_digit_88 ⟨Nat.zero_le _, Nat.zero_le _⟩ (fun o w1 H locs hq hP hD hS => ?_)
                obtain ⟨rfl, g_5, rfl, hg_6⟩ := hq
                have hP : va_P (dC, dI) vwCl (rC cI r ((V 0)) ((V 1)) (A2 * mu + mo) ((V 3)) ((V 4)) ((V 5)) ((V 6)) (A1) (U1) (A2 * mu + mo) (U2) ((J 0)) ((J 1)) (g_3) ((J 3)) ((J 4)) ((J 5)) ((J 6)) ((J 7)) ((J 8)) (g_5) ((J 10)) (pb) (pe) (ob) (oe) (b1) (e1) (b2) (e2)) H := hP
                have hD : va_D (ef_A (rC cI r ((V 0)) ((V 1)) ((V 2)) ((V 3)) ((V 4)) ((V 5)) ((V 6)) (A1) (U1) (A2) (U2) ((J 0)) ((J 1)) ((J 2)) ((J 3)) ((J 4)) ((J 5)) ((J 6)) ((J 7)) ((J 8)) ((J 9)) ((J 10)) (pb) (pe) (ob) (oe) (b1) (e1) (b2) (e2))) (rC cI r ((V 0)) ((V 1)) (A2 * mu + mo) ((V 3)) ((V 4)) ((V 5)) ((V 6)) (A1) (U1) (A2 * mu + mo) (U2) ((J 0)) ((J 1)) (g_3) ((J 3)) ((J 4)) ((J 5)) ((J 6)) ((J 7)) ((J 8)) (g_5) ((J 10)) (pb) (pe) (ob) (oe) (b1) (e1) (b2) (e2)) := hD
                have hg_6 : bk (A2 * mu + mo) g_5 := ⟨hg_6, hg_4.2⟩
                refine W.eq (g2 := F0 m 91 ls []) rfl ?_
                refine lv_aload hx hb rd_M_digit_91 (lv_at hl 0 rfl) ?_
                refine ef_callV (As := []) (rest := []) ⟨hx, hb, hml, hown, hts⟩ (b_bits l dC dI ht (isB_c (X := A2 * mu + mo) (F := g_5) (ws := rC cI r ((V 0)) ((V 1)) (A2 * mu + mo) ((V 3)) ((V 4)) ((V 5)) ((V 6)) (A1) (U1) (A2 * mu + mo) (U2) ((J 0)) ((J 1)) (g_3) ((J 3)) ((J 4)) ((J 5)) ((J 6)) ((J 7)) ((J 8)) (g_5) ((J 10)) (pb) (pe) (ob) (oe) (b1) (e1) (b2) (e2)) (k0 := 23) (k1 := 24) (by decide) rfl rfl) hg_6.1 hg_6.2) (cwV 0 hts (ef_goodV rm_360 rm_361 rm_362 rm_25 rm_363) rfl rfl rfl (by decide +kernel) ⟨Nat.le_of_ble_eq_true rfl, Nat.le_of_ble_eq_true rfl⟩) hK hNX hP hD hS 23 rfl rfl rfl rfl hl.1 rfl (Nat.le_of_ble_eq_true rfl) rd_M_digit_93 ⟨Nat.zero_le _, Nat.zero_le _⟩ (fun o w1 H locs hq hP hD hS => ?_)
                obtain ⟨rfl, e9⟩ := hq
                rw [e9] at hP hD
                refine W.eq (g2 := F0 m 96 ls [.int (iv ((bl (A2 * mu + mo) : Int)))]) rfl ?_
                exact ef_iret hx hb hr hlocks hP hD hS rd_M_digit_96 (⟨fun i => [((V 0)), ((V 1)), (A2 * mu + mo), ((V 3)), ((V 4)), ((V 5)), ((V 6))].getD i 0, fun i => [((J 0)), ((J 1)), (g_3), ((J 3)), ((J 4)), ((J 5)), ((J 6)), ((J 7)), ((J 8)), (g_5), ((J 10))].getD i (fun _ => 0), _, _, _, _, rfl, rfl, rJ_of (hJ 0 (by decide)) (hJ 1 (by decide)) hg_4 (hJ 3 (by decide)) (hJ 4 (by decide)) (hJ 5 (by decide)) (hJ 6 (by decide)), kA1, kU1, hg_6, kU2⟩)
              ·
                exact absurd c5 (by omega)
            ·
              exact absurd c3 (by omega)

set_option maxRecDepth 100000 in
set_option maxHeartbeats 4000000 in
/-- digit refused -/
theorem r_digit10B (l : Launch) (dC : Nat → ClassId) (dI : Nat → Nat → Nat) {cI : ClassId} {tys : List (ClassId × FieldType)} (ht : tys[0]? = some (cI, .int)) (r : Nat → Nat) {V : Nat → Nat} {J : Nat → Nat → Nat} {A1 U1 A2 U2 : Nat} {pb pe ob oe b1 e1 b2 e2 : Int} (hJ : rJ V J) (kA1 : bk A1 (J 7)) (kU1 : bk U1 (J 8)) (kA2 : bk A2 (J 9)) (kU2 : bk U2 (J 10)) (mA1 : dn A1 ≤ 300) (mU1 : dn U1 ≤ 300) (mA2 : dn A2 ≤ 300) (mU2 : dn U2 ≤ 300) (mu mo : Int) (hm : ir mu) (ho : ir mo) (hbad : mu < 1 ∨ 1000000 < mu ∨ mo < 0 ∨ 1000000 < mo) : ef_C l ry_M_digit rw_M_digit ({ frames := 1, cells := 0, slots := 0, locals := 27 } : Room) [.ref (r 0), .int (iv (1)), .int (iv (0)), .int (iv (mu)), .int (iv (mo))] (dC, dI) vwCl tys (rC cI r ((V 0)) ((V 1)) ((V 2)) ((V 3)) ((V 4)) ((V 5)) ((V 6)) (A1) (U1) (A2) (U2) ((J 0)) ((J 1)) ((J 2)) ((J 3)) ((J 4)) ((J 5)) ((J 6)) ((J 7)) ((J 8)) ((J 9)) ((J 10)) (pb) (pe) (ob) (oe) (b1) (e1) (b2) (e2)) (fun o w1 => ∃ (V2 : Nat → Nat) (J2 : Nat → Nat → Nat) (pb2 pe2 ob2 oe2 : Int), o = some (.int (iv (-1))) ∧ w1 = rC cI r (V2 0) (V2 1) (V2 2) (V2 3) (V2 4) (V2 5) (V2 6) (A1) (U1) (A2) (U2) (J2 0) (J2 1) (J2 2) (J2 3) (J2 4) (J2 5) (J2 6) (J2 7) (J2 8) (J2 9) (J2 10) (pb2) (pe2) (ob2) (oe2) (b1) (e1) (b2) (e2) ∧ rJ V2 J2 ∧ bk (A1) (J2 7) ∧ bk (U1) (J2 8) ∧ bk (A2) (J2 9) ∧ bk (U2) (J2 10)) := by
  refine ef_C.of (cc := rc_M_digit) (maxL := 6) (ret := (some .int)) (by decide) rfl (Nat.le_of_ble_eq_true rfl) ?_
  intro p e s m below meth c ls hx hb hml hr hts hown hlocks hK hNX hP hD hS hl
  have hl : lv_has ls 6 [(0, .ref (r 0)), (1, .int (iv (1))), (2, .int (iv (0))), (3, .int (iv (mu))), (4, .int (iv (mo)))] := hl
  have hown : s.vm.findClass rR5 = some m.cls := hown
  generalize hH : s.heap = H at hP ⊢
  have hS : va_S (ef_A (rC cI r ((V 0)) ((V 1)) ((V 2)) ((V 3)) ((V 4)) ((V 5)) ((V 6)) (A1) (U1) (A2) (U2) ((J 0)) ((J 1)) ((J 2)) ((J 3)) ((J 4)) ((J 5)) ((J 6)) ((J 7)) ((J 8)) ((J 9)) ((J 10)) (pb) (pe) (ob) (oe) (b1) (e1) (b2) (e2))) s.heap H [] := by rw [← hH]; exact hS
  generalize ([] : List Loc) = locs at hS ⊢
  refine lv_iload_n hx hb rd_M_digit_0 rfl (lv_at hl 1 rfl) ?_
  refine ef_callS (As := [.int (iv (1))]) (rest := []) ⟨hx, hb, hml, hown, hts⟩ (r_isNumber1 l dC dI ht r) (cwS 1 hts (ef_goodS rm_336 rm_337 rm_24 rm_338) rfl rfl rfl (by decide +kernel) ⟨Nat.le_of_ble_eq_true rfl, Nat.le_of_ble_eq_true rfl⟩) hK hNX hP hD hS rfl hl.1 rfl (Nat.le_of_ble_eq_true rfl) rd_M_digit_1 ⟨Nat.zero_le _, Nat.zero_le _⟩ (fun o w1 H locs hq hP hD hS => ?_)
  obtain ⟨rfl, e9⟩ := hq
  rw [e9] at hP hD
  refine W.eq (g2 := F0 m 4 ls [.int (iv (1))]) rfl ?_
  refine iw_if_eq (tgt := 37) hx hb rd_M_digit_4 (by decide) ⟨by omega, by omega⟩ (fun k1 => ?_) (fun k1 => ?_)
  ·
    exact absurd k1 (by decide)
  ·
    refine lv_iload_n hx hb rd_M_digit_7 rfl (lv_at hl 2 rfl) ?_
    refine ef_callS (As := [.int (iv (0))]) (rest := []) ⟨hx, hb, hml, hown, hts⟩ (r_isNumber0 l dC dI ht r) (cwS 1 hts (ef_goodS rm_336 rm_337 rm_24 rm_338) rfl rfl rfl (by decide +kernel) ⟨Nat.le_of_ble_eq_true rfl, Nat.le_of_ble_eq_true rfl⟩) hK hNX hP hD hS rfl hl.1 rfl (Nat.le_of_ble_eq_true rfl) rd_M_digit_8 ⟨Nat.zero_le _, Nat.zero_le _⟩ (fun o w1 H locs hq hP hD hS => ?_)
    obtain ⟨rfl, e9⟩ := hq
    rw [e9] at hP hD
    refine W.eq (g2 := F0 m 11 ls [.int (iv (1))]) rfl ?_
    refine iw_if_eq (tgt := 37) hx hb rd_M_digit_11 (by decide) ⟨by omega, by omega⟩ (fun k2 => ?_) (fun k2 => ?_)
    ·
      exact absurd k2 (by decide)
    ·
      refine lv_iload_n hx hb rd_M_digit_14 rfl (lv_at hl 3 rfl) ?_
      refine lv_iconst (v := iv (1)) hx hb rd_M_digit_15 (by decide) ?_
      refine iw_icmp_lt (tgt := 37) hx hb rd_M_digit_16 (by decide) (hm) ⟨by omega, by omega⟩ (fun c0 => ?_) (fun c0 => ?_)
      ·
        refine lv_iconst (v := iv (-1)) hx hb rd_M_digit_37 (by decide) ?_
        exact ef_iret hx hb hr hlocks hP hD hS rd_M_digit_38 (⟨fun i => [((V 0)), ((V 1)), ((V 2)), ((V 3)), ((V 4)), ((V 5)), ((V 6))].getD i 0, fun i => [((J 0)), ((J 1)), ((J 2)), ((J 3)), ((J 4)), ((J 5)), ((J 6)), ((J 7)), ((J 8)), ((J 9)), ((J 10))].getD i (fun _ => 0), _, _, _, _, rfl, rfl, rJ_of (hJ 0 (by decide)) (hJ 1 (by decide)) (hJ 2 (by decide)) (hJ 3 (by decide)) (hJ 4 (by decide)) (hJ 5 (by decide)) (hJ 6 (by decide)), kA1, kU1, kA2, kU2⟩)
      ·
        refine lv_iload_n hx hb rd_M_digit_19 rfl (lv_at hl 3 rfl) ?_
        refine lv_ldc (v := iv (1000000)) hx hb hown (hts _ (List.mem_cons_of_mem _ rm_347)) rd_M_digit_20 ?_
        refine iw_icmp_gt (tgt := 37) hx hb rd_M_digit_22 (by decide) (hm) ⟨by omega, by omega⟩ (fun c1 => ?_) (fun c1 => ?_)
        ·
          refine lv_iconst (v := iv (-1)) hx hb rd_M_digit_37 (by decide) ?_
          exact ef_iret hx hb hr hlocks hP hD hS rd_M_digit_38 (⟨fun i => [((V 0)), ((V 1)), ((V 2)), ((V 3)), ((V 4)), ((V 5)), ((V 6))].getD i 0, fun i => [((J 0)), ((J 1)), ((J 2)), ((J 3)), ((J 4)), ((J 5)), ((J 6)), ((J 7)), ((J 8)), ((J 9)), ((J 10))].getD i (fun _ => 0), _, _, _, _, rfl, rfl, rJ_of (hJ 0 (by decide)) (hJ 1 (by decide)) (hJ 2 (by decide)) (hJ 3 (by decide)) (hJ 4 (by decide)) (hJ 5 (by decide)) (hJ 6 (by decide)), kA1, kU1, kA2, kU2⟩)
        ·
          refine lv_iload hx hb rd_M_digit_25 (lv_at hl 4 rfl) ?_
          refine iw_if_lt (tgt := 37) hx hb rd_M_digit_27 (by decide) (ho) (fun c2 => ?_) (fun c2 => ?_)
          ·
            refine lv_iconst (v := iv (-1)) hx hb rd_M_digit_37 (by decide) ?_
            exact ef_iret hx hb hr hlocks hP hD hS rd_M_digit_38 (⟨fun i => [((V 0)), ((V 1)), ((V 2)), ((V 3)), ((V 4)), ((V 5)), ((V 6))].getD i 0, fun i => [((J 0)), ((J 1)), ((J 2)), ((J 3)), ((J 4)), ((J 5)), ((J 6)), ((J 7)), ((J 8)), ((J 9)), ((J 10))].getD i (fun _ => 0), _, _, _, _, rfl, rfl, rJ_of (hJ 0 (by decide)) (hJ 1 (by decide)) (hJ 2 (by decide)) (hJ 3 (by decide)) (hJ 4 (by decide)) (hJ 5 (by decide)) (hJ 6 (by decide)), kA1, kU1, kA2, kU2⟩)
          ·
            refine lv_iload hx hb rd_M_digit_30 (lv_at hl 4 rfl) ?_
            refine lv_ldc (v := iv (1000000)) hx hb hown (hts _ (List.mem_cons_of_mem _ rm_347)) rd_M_digit_32 ?_
            refine iw_icmp_le (tgt := 39) hx hb rd_M_digit_34 (by decide) (ho) ⟨by omega, by omega⟩ (fun c3 => ?_) (fun c3 => ?_)
            ·
              exact absurd hbad (by omega)
            ·
              refine lv_iconst (v := iv (-1)) hx hb rd_M_digit_37 (by decide) ?_
              exact ef_iret hx hb hr hlocks hP hD hS rd_M_digit_38 (⟨fun i => [((V 0)), ((V 1)), ((V 2)), ((V 3)), ((V 4)), ((V 5)), ((V 6))].getD i 0, fun i => [((J 0)), ((J 1)), ((J 2)), ((J 3)), ((J 4)), ((J 5)), ((J 6)), ((J 7)), ((J 8)), ((J 9)), ((J 10))].getD i (fun _ => 0), _, _, _, _, rfl, rfl, rJ_of (hJ 0 (by decide)) (hJ 1 (by decide)) (hJ 2 (by decide)) (hJ 3 (by decide)) (hJ 4 (by decide)) (hJ 5 (by decide)) (hJ 6 (by decide)), kA1, kU1, kA2, kU2⟩)

set_option maxRecDepth 100000 in
set_option maxHeartbeats 4000000 in
/-- digit -/
theorem r_digit11F (l : Launch) (dC : Nat → ClassId) (dI : Nat → Nat → Nat) {cI : ClassId} {tys : List (ClassId × FieldType)} (ht : tys[0]? = some (cI, .int)) (r : Nat → Nat) {V : Nat → Nat} {J : Nat → Nat → Nat} {A1 U1 A2 U2 : Nat} {pb pe ob oe b1 e1 b2 e2 : Int} (hJ : rJ V J) (kA1 : bk A1 (J 7)) (kU1 : bk U1 (J 8)) (kA2 : bk A2 (J 9)) (kU2 : bk U2 (J 10)) (mA1 : dn A1 ≤ 300) (mU1 : dn U1 ≤ 300) (mA2 : dn A2 ≤ 300) (mU2 : dn U2 ≤ 300) (mu mo : Nat) (hm1 : 1 ≤ mu) (hmu : mu ≤ 1000000) (hmo : mo ≤ 1000000) (hb4 : 4800 < bl (U2 * mu + mo)) : ef_C l ry_M_digit rw_M_digit ({ frames := 1, cells := 0, slots := 0, locals := 27 } : Room) [.ref (r 0), .int (iv (1)), .int (iv (1)), .int (iv ((mu : Int))), .int (iv ((mo : Int)))] (dC, dI) vwCl tys (rC cI r ((V 0)) ((V 1)) ((V 2)) ((V 3)) ((V 4)) ((V 5)) ((V 6)) (A1) (U1) (A2) (U2) ((J 0)) ((J 1)) ((J 2)) ((J 3)) ((J 4)) ((J 5)) ((J 6)) ((J 7)) ((J 8)) ((J 9)) ((J 10)) (pb) (pe) (ob) (oe) (b1) (e1) (b2) (e2)) (fun o w1 => ∃ (V2 : Nat → Nat) (J2 : Nat → Nat → Nat) (pb2 pe2 ob2 oe2 : Int), o = some (.int (iv (-2))) ∧ w1 = rC cI r (V2 0) (V2 1) (V2 2) (V2 3) (V2 4) (V2 5) (V2 6) (A1) (U1) (A2) (U2) (J2 0) (J2 1) (J2 2) (J2 3) (J2 4) (J2 5) (J2 6) (J2 7) (J2 8) (J2 9) (J2 10) (pb2) (pe2) (ob2) (oe2) (b1) (e1) (b2) (e2) ∧ rJ V2 J2 ∧ bk (A1) (J2 7) ∧ bk (U1) (J2 8) ∧ bk (A2) (J2 9) ∧ bk (U2) (J2 10)) := by
  refine ef_C.of (cc := rc_M_digit) (maxL := 6) (ret := (some .int)) (by decide) rfl (Nat.le_of_ble_eq_true rfl) ?_
  intro p e s m below meth c ls hx hb hml hr hts hown hlocks hK hNX hP hD hS hl
  have hl : lv_has ls 6 [(0, .ref (r 0)), (1, .int (iv (1))), (2, .int (iv (1))), (3, .int (iv ((mu : Int)))), (4, .int (iv ((mo : Int))))] := hl
  have hown : s.vm.findClass rR5 = some m.cls := hown
  generalize hH : s.heap = H at hP ⊢
  have hS : va_S (ef_A (rC cI r ((V 0)) ((V 1)) ((V 2)) ((V 3)) ((V 4)) ((V 5)) ((V 6)) (A1) (U1) (A2) (U2) ((J 0)) ((J 1)) ((J 2)) ((J 3)) ((J 4)) ((J 5)) ((J 6)) ((J 7)) ((J 8)) ((J 9)) ((J 10)) (pb) (pe) (ob) (oe) (b1) (e1) (b2) (e2))) s.heap H [] := by rw [← hH]; exact hS
  generalize ([] : List Loc) = locs at hS ⊢
  have hdm := dn_mul mU2 hmu hmo
  have hbd : bl (U2 * mu + mo) ≤ 16 * 304 := bl_le (Nat.lt_of_lt_of_le (dn_lt _) (Nat.pow_le_pow_right (by decide) (by omega)))
  refine lv_iload_n hx hb rd_M_digit_0 rfl (lv_at hl 1 rfl) ?_
  refine ef_callS (As := [.int (iv (1))]) (rest := []) ⟨hx, hb, hml, hown, hts⟩ (r_isNumber1 l dC dI ht r) (cwS 1 hts (ef_goodS rm_336 rm_337 rm_24 rm_338) rfl rfl rfl (by decide +kernel) ⟨Nat.le_of_ble_eq_true rfl, Nat.le_of_ble_eq_true rfl⟩) hK hNX hP hD hS rfl hl.1 rfl (Nat.le_of_ble_eq_true rfl) rd_M_digit_1 ⟨Nat.zero_le _, Nat.zero_le _⟩ (fun o w1 H locs hq hP hD hS => ?_)
  obtain ⟨rfl, e9⟩ := hq
  rw [e9] at hP hD
  refine W.eq (g2 := F0 m 4 ls [.int (iv (1))]) rfl ?_
  refine iw_if_eq (tgt := 37) hx hb rd_M_digit_4 (by decide) ⟨by omega, by omega⟩ (fun k1 => ?_) (fun k1 => ?_)
  ·
    exact absurd k1 (by decide)
  ·
    refine lv_iload_n hx hb rd_M_digit_7 rfl (lv_at hl 2 rfl) ?_
    refine ef_callS (As := [.int (iv (1))]) (rest := []) ⟨hx, hb, hml, hown, hts⟩ (r_isNumber1 l dC dI ht r) (cwS 1 hts (ef_goodS rm_336 rm_337 rm_24 rm_338) rfl rfl rfl (by decide +kernel) ⟨Nat.le_of_ble_eq_true rfl, Nat.le_of_ble_eq_true rfl⟩) hK hNX hP hD hS rfl hl.1 rfl (Nat.le_of_ble_eq_true rfl) rd_M_digit_8 ⟨Nat.zero_le _, Nat.zero_le _⟩ (fun o w1 H locs hq hP hD hS => ?_)
    obtain ⟨rfl, e9⟩ := hq
    rw [e9] at hP hD
    refine W.eq (g2 := F0 m 11 ls [.int (iv (1))]) rfl ?_
    refine iw_if_eq (tgt := 37) hx hb rd_M_digit_11 (by decide) ⟨by omega, by omega⟩ (fun k2 => ?_) (fun k2 => ?_)
    ·
      exact absurd k2 (by decide)
    ·
      refine lv_iload_n hx hb rd_M_digit_14 rfl (lv_at hl 3 rfl) ?_
      refine lv_iconst (v := iv (1)) hx hb rd_M_digit_15 (by decide) ?_
      refine iw_icmp_lt (tgt := 37) hx hb rd_M_digit_16 (by decide) ⟨by omega, by omega⟩ ⟨by omega, by omega⟩ (fun c0 => ?_) (fun c0 => ?_)
      ·
        exact absurd c0 (by omega)
      ·
        refine lv_iload_n hx hb rd_M_digit_19 rfl (lv_at hl 3 rfl) ?_
        refine lv_ldc (v := iv (1000000)) hx hb hown (hts _ (List.mem_cons_of_mem _ rm_347)) rd_M_digit_20 ?_
        refine iw_icmp_gt (tgt := 37) hx hb rd_M_digit_22 (by decide) ⟨by omega, by omega⟩ ⟨by omega, by omega⟩ (fun c1 => ?_) (fun c1 => ?_)
        ·
          exact absurd c1 (by omega)
        ·
          refine lv_iload hx hb rd_M_digit_25 (lv_at hl 4 rfl) ?_
          refine iw_if_lt (tgt := 37) hx hb rd_M_digit_27 (by decide) ⟨by omega, by omega⟩ (fun c2 => ?_) (fun c2 => ?_)
          ·
            exact absurd c2 (by omega)
          ·
            refine lv_iload hx hb rd_M_digit_30 (lv_at hl 4 rfl) ?_
            refine lv_ldc (v := iv (1000000)) hx hb hown (hts _ (List.mem_cons_of_mem _ rm_347)) rd_M_digit_32 ?_
            refine iw_icmp_le (tgt := 39) hx hb rd_M_digit_34 (by decide) ⟨by omega, by omega⟩ ⟨by omega, by omega⟩ (fun c3 => ?_) (fun c3 => ?_)
            ·
              refine lv_aload_n hx hb rd_M_digit_39 rfl (lv_at hl 0 rfl) ?_
              refine lv_iload_n hx hb rd_M_digit_40 rfl (lv_at hl 1 rfl) ?_
              refine lv_iload_n hx hb rd_M_digit_41 rfl (lv_at hl 2 rfl) ?_
              refine ef_callV (As := [.int (iv (1)), .int (iv (1))]) (rest := []) ⟨hx, hb, hml, hown, hts⟩ (r_partOf11 l dC dI ht r) (cwV 2 hts (ef_goodV rm_348 rm_350 rm_13 rm_24 rm_351) rfl rfl rfl (by decide +kernel) ⟨Nat.le_of_ble_eq_true rfl, Nat.le_of_ble_eq_true rfl⟩) hK hNX hP hD hS 0 rfl rfl rfl rfl hl.1 rfl (Nat.le_of_ble_eq_true rfl) rd_M_digit_42 ⟨Nat.zero_le _, Nat.zero_le _⟩ (fun o w1 H locs hq hP hD hS => ?_)
              obtain ⟨rfl, e9⟩ := hq
              rw [e9] at hP hD
              refine W.eq (g2 := F0 m 45 ls [.ref (r 25)]) rfl ?_
              refine lv_astore (lv' := [(5, .ref (r 25)), (0, .ref (r 0)), (1, .int (iv (1))), (2, .int (iv (1))), (3, .int (iv ((mu : Int)))), (4, .int (iv ((mo : Int))))]) hx hb rd_M_digit_45 hl (by decide) rfl (fun ls hl => ?_)
              refine lv_aload_n hx hb rd_M_digit_47 rfl (lv_at hl 1 rfl) ?_
              refine va_get (D := (dC, dI)) (ci := 5) (v := .ref (r 9)) (C := rR5) (T := rT5) (N := 7) hx hb hts (fun w h => List.mem_cons_of_mem _ (rin5 w h)) hown hK hP 0 rfl rfl 6 (by decide) (hts _ (List.mem_cons_of_mem _ rm_316)) (fun _ h9 => h9) rfl rd_M_digit_48 ?_
              refine lv_aload hx hb rd_M_digit_51 (lv_at hl 0 rfl) ?_
              refine ef_callV (As := [.ref (r 25)]) (rest := []) ⟨hx, hb, hml, hown, hts⟩ (b_copy l dC dI ht (isB_c (X := (V 2)) (F := (J 2)) (ws := rC cI r ((V 0)) ((V 1)) ((V 2)) ((V 3)) ((V 4)) ((V 5)) ((V 6)) (A1) (U1) (A2) (U2) ((J 0)) ((J 1)) ((J 2)) ((J 3)) ((J 4)) ((J 5)) ((J 6)) ((J 7)) ((J 8)) ((J 9)) ((J 10)) (pb) (pe) (ob) (oe) (b1) (e1) (b2) (e2)) (k0 := 9) (k1 := 10) (by decide) rfl rfl) (isB_c (X := U2) (F := (J 10)) (ws := rC cI r ((V 0)) ((V 1)) ((V 2)) ((V 3)) ((V 4)) ((V 5)) ((V 6)) (A1) (U1) (A2) (U2) ((J 0)) ((J 1)) ((J 2)) ((J 3)) ((J 4)) ((J 5)) ((J 6)) ((J 7)) ((J 8)) ((J 9)) ((J 10)) (pb) (pe) (ob) (oe) (b1) (e1) (b2) (e2)) (k0 := 25) (k1 := 26) (by decide) rfl rfl) kU2.1 kU2.2 (apt_c (k0 := 9) (k1 := 10) (j0 := 25) (j1 := 26) rfl)) (cwV 1 hts (ef_goodV rm_352 rm_353 rm_354 rm_25 rm_355) rfl rfl rfl (by decide +kernel) ⟨Nat.le_of_ble_eq_true rfl, Nat.le_of_ble_eq_true rfl⟩) hK hNX hP hD hS 9 rfl rfl rfl rfl hl.1 rfl (Nat.le_of_ble_eq_true rfl) rd_M_digit_53 ⟨Nat.zero_le _, Nat.zero_le _⟩ (fun o w1 H locs hq hP hD hS => ?_)
              obtain ⟨rfl, g_1, rfl, hg_2⟩ := hq
              have hP : va_P (dC, dI) vwCl (rC cI r ((V 0)) ((V 1)) (U2) ((V 3)) ((V 4)) ((V 5)) ((V 6)) (A1) (U1) (A2) (U2) ((J 0)) ((J 1)) (g_1) ((J 3)) ((J 4)) ((J 5)) ((J 6)) ((J 7)) ((J 8)) ((J 9)) ((J 10)) (pb) (pe) (ob) (oe) (b1) (e1) (b2) (e2)) H := hP
              have hD : va_D (ef_A (rC cI r ((V 0)) ((V 1)) ((V 2)) ((V 3)) ((V 4)) ((V 5)) ((V 6)) (A1) (U1) (A2) (U2) ((J 0)) ((J 1)) ((J 2)) ((J 3)) ((J 4)) ((J 5)) ((J 6)) ((J 7)) ((J 8)) ((J 9)) ((J 10)) (pb) (pe) (ob) (oe) (b1) (e1) (b2) (e2))) (rC cI r ((V 0)) ((V 1)) (U2) ((V 3)) ((V 4)) ((V 5)) ((V 6)) (A1) (U1) (A2) (U2) ((J 0)) ((J 1)) (g_1) ((J 3)) ((J 4)) ((J 5)) ((J 6)) ((J 7)) ((J 8)) ((J 9)) ((J 10)) (pb) (pe) (ob) (oe) (b1) (e1) (b2) (e2)) := hD
              have hg_2 : bk (U2) g_1 := ⟨hg_2, kU2.2⟩
              refine W.eq (g2 := F0 m 56 ls []) rfl ?_
              refine lv_aload_n hx hb rd_M_digit_56 rfl (lv_at hl 1 rfl) ?_
              refine va_get (D := (dC, dI)) (ci := 5) (v := .ref (r 9)) (C := rR5) (T := rT5) (N := 7) hx hb hts (fun w h => List.mem_cons_of_mem _ (rin5 w h)) hown hK hP 0 rfl rfl 6 (by decide) (hts _ (List.mem_cons_of_mem _ rm_316)) (fun _ h9 => h9) rfl rd_M_digit_57 ?_
              refine lv_iload_n hx hb rd_M_digit_60 rfl (lv_at hl 4 rfl) ?_
              refine lv_iload hx hb rd_M_digit_61 (lv_at hl 5 rfl) ?_
              refine ef_callV (As := [.int (iv ((mu : Int))), .int (iv ((mo : Int)))]) (rest := []) ⟨hx, hb, hml, hown, hts⟩ (b_grow l dC dI ht (isB_c (X := U2) (F := g_1) (ws := rC cI r ((V 0)) ((V 1)) (U2) ((V 3)) ((V 4)) ((V 5)) ((V 6)) (A1) (U1) (A2) (U2) ((J 0)) ((J 1)) (g_1) ((J 3)) ((J 4)) ((J 5)) ((J 6)) ((J 7)) ((J 8)) ((J 9)) ((J 10)) (pb) (pe) (ob) (oe) (b1) (e1) (b2) (e2)) (k0 := 9) (k1 := 10) (by decide) rfl rfl) hg_2.1 (by omega) mu mo hm1 hmu hmo) (cwV 2 hts (ef_goodV rm_356 rm_357 rm_358 rm_25 rm_359) rfl rfl rfl (by decide +kernel) ⟨Nat.le_of_ble_eq_true rfl, Nat.le_of_ble_eq_true rfl⟩) hK hNX hP hD hS 9 rfl rfl rfl rfl hl.1 rfl (Nat.le_of_ble_eq_true rfl) rd_M_digit_63 ⟨Nat.zero_le _, Nat.zero_le _⟩ (fun o w1 H locs hq hP hD hS => ?_)
              obtain ⟨rfl, g_3, rfl, hg_4⟩ := hq
              have hP : va_P (dC, dI) vwCl (rC cI r ((V 0)) ((V 1)) (U2 * mu + mo) ((V 3)) ((V 4)) ((V 5)) ((V 6)) (A1) (U1) (A2) (U2) ((J 0)) ((J 1)) (g_3) ((J 3)) ((J 4)) ((J 5)) ((J 6)) ((J 7)) ((J 8)) ((J 9)) ((J 10)) (pb) (pe) (ob) (oe) (b1) (e1) (b2) (e2)) H := hP
              have hD : va_D (ef_A (rC cI r ((V 0)) ((V 1)) ((V 2)) ((V 3)) ((V 4)) ((V 5)) ((V 6)) (A1) (U1) (A2) (U2) ((J 0)) ((J 1)) ((J 2)) ((J 3)) ((J 4)) ((J 5)) ((J 6)) ((J 7)) ((J 8)) ((J 9)) ((J 10)) (pb) (pe) (ob) (oe) (b1) (e1) (b2) (e2))) (rC cI r ((V 0)) ((V 1)) (U2 * mu + mo) ((V 3)) ((V 4)) ((V 5)) ((V 6)) (A1) (U1) (A2) (U2) ((J 0)) ((J 1)) (g_3) ((J 3)) ((J 4)) ((J 5)) ((J 6)) ((J 7)) ((J 8)) ((J 9)) ((J 10)) (pb) (pe) (ob) (oe) (b1) (e1) (b2) (e2)) := hD
              have hg_4 : bk (U2 * mu + mo) g_3 := ⟨hg_4, by omega⟩
              refine W.eq (g2 := F0 m 66 ls []) rfl ?_
              refine lv_aload_n hx hb rd_M_digit_66 rfl (lv_at hl 1 rfl) ?_
              refine va_get (D := (dC, dI)) (ci := 5) (v := .ref (r 9)) (C := rR5) (T := rT5) (N := 7) hx hb hts (fun w h => List.mem_cons_of_mem _ (rin5 w h)) hown hK hP 0 rfl rfl 6 (by decide) (hts _ (List.mem_cons_of_mem _ rm_316)) (fun _ h9 => h9) rfl rd_M_digit_67 ?_
              refine ef_callV (As := []) (rest := []) ⟨hx, hb, hml, hown, hts⟩ (b_bits l dC dI ht (isB_c (X := U2 * mu + mo) (F := g_3) (ws := rC cI r ((V 0)) ((V 1)) (U2 * mu + mo) ((V 3)) ((V 4)) ((V 5)) ((V 6)) (A1) (U1) (A2) (U2) ((J 0)) ((J 1)) (g_3) ((J 3)) ((J 4)) ((J 5)) ((J 6)) ((J 7)) ((J 8)) ((J 9)) ((J 10)) (pb) (pe) (ob) (oe) (b1) (e1) (b2) (e2)) (k0 := 9) (k1 := 10) (by decide) rfl rfl) hg_4.1 hg_4.2) (cwV 0 hts (ef_goodV rm_360 rm_361 rm_362 rm_25 rm_363) rfl rfl rfl (by decide +kernel) ⟨Nat.le_of_ble_eq_true rfl, Nat.le_of_ble_eq_true rfl⟩) hK hNX hP hD hS 9 rfl rfl rfl rfl hl.1 rfl (Nat.le_of_ble_eq_true rfl) rd_M_digit_70 ⟨Nat.zero_le _, Nat.zero_le _⟩ (fun o w1 H locs hq hP hD hS => ?_)
              obtain ⟨rfl, e9⟩ := hq
              rw [e9] at hP hD
              refine W.eq (g2 := F0 m 73 ls [.int (iv ((bl (U2 * mu + mo) : Int)))]) rfl ?_
              refine lv_sipush (v := iv (4800)) hx hb rd_M_digit_73 (by decide) ?_
              refine iw_icmp_le (tgt := 82) hx hb rd_M_digit_76 (by decide) ⟨by omega, by omega⟩ ⟨by omega, by omega⟩ (fun c5 => ?_) (fun c5 => ?_)
              ·
                exact absurd c5 (by omega)
              ·
                refine lv_bipush (v := iv (-2)) hx hb rd_M_digit_79 (by decide) ?_
                exact ef_iret hx hb hr hlocks hP hD hS rd_M_digit_81 (⟨fun i => [((V 0)), ((V 1)), (U2 * mu + mo), ((V 3)), ((V 4)), ((V 5)), ((V 6))].getD i 0, fun i => [((J 0)), ((J 1)), (g_3), ((J 3)), ((J 4)), ((J 5)), ((J 6)), ((J 7)), ((J 8)), ((J 9)), ((J 10))].getD i (fun _ => 0), _, _, _, _, rfl, rfl, rJ_of (hJ 0 (by decide)) (hJ 1 (by decide)) hg_4 (hJ 3 (by decide)) (hJ 4 (by decide)) (hJ 5 (by decide)) (hJ 6 (by decide)), kA1, kU1, kA2, kU2⟩)
            ·
              exact absurd c3 (by omega)

set_option maxRecDepth 100000 in
set_option maxHeartbeats 4000000 in
/-- digit -/
theorem r_digit11K (l : Launch) (dC : Nat → ClassId) (dI : Nat → Nat → Nat) {cI : ClassId} {tys : List (ClassId × FieldType)} (ht : tys[0]? = some (cI, .int)) (r : Nat → Nat) {V : Nat → Nat} {J : Nat → Nat → Nat} {A1 U1 A2 U2 : Nat} {pb pe ob oe b1 e1 b2 e2 : Int} (hJ : rJ V J) (kA1 : bk A1 (J 7)) (kU1 : bk U1 (J 8)) (kA2 : bk A2 (J 9)) (kU2 : bk U2 (J 10)) (mA1 : dn A1 ≤ 300) (mU1 : dn U1 ≤ 300) (mA2 : dn A2 ≤ 300) (mU2 : dn U2 ≤ 300) (mu mo : Nat) (hm1 : 1 ≤ mu) (hmu : mu ≤ 1000000) (hmo : mo ≤ 1000000) (hb4 : bl (U2 * mu + mo) ≤ 4800) : ef_C l ry_M_digit rw_M_digit ({ frames := 1, cells := 0, slots := 0, locals := 27 } : Room) [.ref (r 0), .int (iv (1)), .int (iv (1)), .int (iv ((mu : Int))), .int (iv ((mo : Int)))] (dC, dI) vwCl tys (rC cI r ((V 0)) ((V 1)) ((V 2)) ((V 3)) ((V 4)) ((V 5)) ((V 6)) (A1) (U1) (A2) (U2) ((J 0)) ((J 1)) ((J 2)) ((J 3)) ((J 4)) ((J 5)) ((J 6)) ((J 7)) ((J 8)) ((J 9)) ((J 10)) (pb) (pe) (ob) (oe) (b1) (e1) (b2) (e2)) (fun o w1 => ∃ (V2 : Nat → Nat) (J2 : Nat → Nat → Nat) (pb2 pe2 ob2 oe2 : Int), o = some (.int (iv (bl (U2 * mu + mo) : Int))) ∧ w1 = rC cI r (V2 0) (V2 1) (V2 2) (V2 3) (V2 4) (V2 5) (V2 6) (A1) (U1) (A2) (U2 * mu + mo) (J2 0) (J2 1) (J2 2) (J2 3) (J2 4) (J2 5) (J2 6) (J2 7) (J2 8) (J2 9) (J2 10) (pb2) (pe2) (ob2) (oe2) (b1) (e1) (b2) (e2) ∧ rJ V2 J2 ∧ bk (A1) (J2 7) ∧ bk (U1) (J2 8) ∧ bk (A2) (J2 9) ∧ bk (U2 * mu + mo) (J2 10)) := by
  refine ef_C.of (cc := rc_M_digit) (maxL := 6) (ret := (some .int)) (by decide) rfl (Nat.le_of_ble_eq_true rfl) ?_
  intro p e s m below meth c ls hx hb hml hr hts hown hlocks hK hNX hP hD hS hl
  have hl : lv_has ls 6 [(0, .ref (r 0)), (1, .int (iv (1))), (2, .int (iv (1))), (3, .int (iv ((mu : Int)))), (4, .int (iv ((mo : Int))))] := hl
  have hown : s.vm.findClass rR5 = some m.cls := hown
  generalize hH : s.heap = H at hP ⊢
  have hS : va_S (ef_A (rC cI r ((V 0)) ((V 1)) ((V 2)) ((V 3)) ((V 4)) ((V 5)) ((V 6)) (A1) (U1) (A2) (U2) ((J 0)) ((J 1)) ((J 2)) ((J 3)) ((J 4)) ((J 5)) ((J 6)) ((J 7)) ((J 8)) ((J 9)) ((J 10)) (pb) (pe) (ob) (oe) (b1) (e1) (b2) (e2))) s.heap H [] := by rw [← hH]; exact hS
  generalize ([] : List Loc) = locs at hS ⊢
  have hdm := dn_mul mU2 hmu hmo
  have hbd : bl (U2 * mu + mo) ≤ 16 * 304 := bl_le (Nat.lt_of_lt_of_le (dn_lt _) (Nat.pow_le_pow_right (by decide) (by omega)))
  refine lv_iload_n hx hb rd_M_digit_0 rfl (lv_at hl 1 rfl) ?_
  refine ef_callS (As := [.int (iv (1))]) (rest := []) ⟨hx, hb, hml, hown, hts⟩ (r_isNumber1 l dC dI ht r) (cwS 1 hts (ef_goodS rm_336 rm_337 rm_24 rm_338) rfl rfl rfl (by decide +kernel) ⟨Nat.le_of_ble_eq_true rfl, Nat.le_of_ble_eq_true rfl⟩) hK hNX hP hD hS rfl hl.1 rfl (Nat.le_of_ble_eq_true rfl) rd_M_digit_1 ⟨Nat.zero_le _, Nat.zero_le _⟩ (fun o w1 H locs hq hP hD hS => ?_)
  obtain ⟨rfl, e9⟩ := hq
  rw [e9] at hP hD
  refine W.eq (g2 := F0 m 4 ls [.int (iv (1))]) rfl ?_
  refine iw_if_eq (tgt := 37) hx hb rd_M_digit_4 (by decide) ⟨by omega, by omega⟩ (fun k1 => ?_) (fun k1 => ?_)
  ·
    exact absurd k1 (by decide)
  ·
    refine lv_iload_n hx hb rd_M_digit_7 rfl (lv_at hl 2 rfl) ?_
    refine ef_callS (As := [.int (iv (1))]) (rest := []) ⟨hx, hb, hml, hown, hts⟩ (r_isNumber1 l dC dI ht r) (cwS 1 hts (ef_goodS rm_336 rm_337 rm_24 rm_338) rfl rfl rfl (by decide +kernel) ⟨Nat.le_of_ble_eq_true rfl, Nat.le_of_ble_eq_true rfl⟩) hK hNX hP hD hS rfl hl.1 rfl (Nat.le_of_ble_eq_true rfl) rd_M_digit_8 ⟨Nat.zero_le _, Nat.zero_le _⟩ (fun o w1 H locs hq hP hD hS => ?_)
    obtain ⟨rfl, e9⟩ := hq
    rw [e9] at hP hD
    refine W.eq (g2 := F0 m 11 ls [.int (iv (1))]) rfl ?_
    refine iw_if_eq (tgt := 37) hx hb rd_M_digit_11 (by decide) ⟨by omega, by omega⟩ (fun k2 => ?_) (fun k2 => ?_)
    ·
      exact absurd k2 (by decide)
    ·
      refine lv_iload_n hx hb rd_M_digit_14 rfl (lv_at hl 3 rfl) ?_
      refine lv_iconst (v := iv (1)) hx hb rd_M_digit_15 (by decide) ?_
      refine iw_icmp_lt (tgt := 37) hx hb rd_M_digit_16 (by decide) ⟨by omega, by omega⟩ ⟨by omega, by omega⟩ (fun c0 => ?_) (fun c0 => ?_)
      ·
        exact absurd c0 (by omega)
      ·
        refine lv_iload_n hx hb rd_M_digit_19 rfl (lv_at hl 3 rfl) ?_
        refine lv_ldc (v := iv (1000000)) hx hb hown (hts _ (List.mem_cons_of_mem _ rm_347)) rd_M_digit_20 ?_
        refine iw_icmp_gt (tgt := 37) hx hb rd_M_digit_22 (by decide) ⟨by omega, by omega⟩ ⟨by omega, by omega⟩ (fun c1 => ?_) (fun c1 => ?_)
        ·
          exact absurd c1 (by omega)
        ·
          refine lv_iload hx hb rd_M_digit_25 (lv_at hl 4 rfl) ?_
          refine iw_if_lt (tgt := 37) hx hb rd_M_digit_27 (by decide) ⟨by omega, by omega⟩ (fun c2 => ?_) (fun c2 => ?_)
          ·
            exact absurd c2 (by omega)
          ·
            refine lv_iload hx hb rd_M_digit_30 (lv_at hl 4 rfl) ?_
            refine lv_ldc (v := iv (1000000)) hx hb hown (hts _ (List.mem_cons_of_mem _ rm_347)) rd_M_digit_32 ?_
            refine iw_icmp_le (tgt := 39) hx hb rd_M_digit_34 (by decide) ⟨by omega, by omega⟩ ⟨by omega, by omega⟩ (fun c3 => ?_) (fun c3 => ?_)
            ·
              refine lv_aload_n hx hb rd_M_digit_39 rfl (lv_at hl 0 rfl) ?_
              refine lv_iload_n hx hb rd_M_digit_40 rfl (lv_at hl 1 rfl) ?_
              refine lv_iload_n hx hb rd_M_digit_41 rfl (lv_at hl 2 rfl) ?_
              refine ef_callV (As := [.int (iv (1)), .int (iv (1))]) (rest := []) ⟨hx, hb, hml, hown, hts⟩ (r_partOf11 l dC dI ht r) (cwV 2 hts (ef_goodV rm_348 rm_350 rm_13 rm_24 rm_351) rfl rfl rfl (by decide +kernel) ⟨Nat.le_of_ble_eq_true rfl, Nat.le_of_ble_eq_true rfl⟩) hK hNX hP hD hS 0 rfl rfl rfl rfl hl.1 rfl (Nat.le_of_ble_eq_true rfl) rd_M_digit_42 ⟨Nat.zero_le _, Nat.zero_le _⟩ (fun o w1 H locs hq hP hD hS => ?_)
              obtain ⟨rfl, e9⟩ := hq
              rw [e9] at hP hD
              refine W.eq (g2 := F0 m 45 ls [.ref (r 25)]) rfl ?_
              refine lv_astore (lv' := [(5, .ref (r 25)), (0, .ref (r 0)), (1, .int (iv (1))), (2, .int (iv (1))), (3, .int (iv ((mu : Int)))), (4, .int (iv ((mo : Int))))]) hx hb rd_M_digit_45 hl (by decide) rfl (fun ls hl => ?_)
              refine lv_aload_n hx hb rd_M_digit_47 rfl (lv_at hl 1 rfl) ?_
              refine va_get (D := (dC, dI)) (ci := 5) (v := .ref (r 9)) (C := rR5) (T := rT5) (N := 7) hx hb hts (fun w h => List.mem_cons_of_mem _ (rin5 w h)) hown hK hP 0 rfl rfl 6 (by decide) (hts _ (List.mem_cons_of_mem _ rm_316)) (fun _ h9 => h9) rfl rd_M_digit_48 ?_
              refine lv_aload hx hb rd_M_digit_51 (lv_at hl 0 rfl) ?_
              refine ef_callV (As := [.ref (r 25)]) (rest := []) ⟨hx, hb, hml, hown, hts⟩ (b_copy l dC dI ht (isB_c (X := (V 2)) (F := (J 2)) (ws := rC cI r ((V 0)) ((V 1)) ((V 2)) ((V 3)) ((V 4)) ((V 5)) ((V 6)) (A1) (U1) (A2) (U2) ((J 0)) ((J 1)) ((J 2)) ((J 3)) ((J 4)) ((J 5)) ((J 6)) ((J 7)) ((J 8)) ((J 9)) ((J 10)) (pb) (pe) (ob) (oe) (b1) (e1) (b2) (e2)) (k0 := 9) (k1 := 10) (by decide) rfl rfl) (isB_c (X := U2) (F := (J 10)) (ws := rC cI r ((V 0)) ((V 1)) ((V 2)) ((V 3)) ((V 4)) ((V 5)) ((V 6)) (A1) (U1) (A2) (U2) ((J 0)) ((J 1)) ((J 2)) ((J 3)) ((J 4)) ((J 5)) ((J 6)) ((J 7)) ((J 8)) ((J 9)) ((J 10)) (pb) (pe) (ob) (oe) (b1) (e1) (b2) (e2)) (k0 := 25) (k1 := 26) (by decide) rfl rfl) kU2.1 kU2.2 (apt_c (k0 := 9) (k1 := 10) (j0 := 25) (j1 := 26) rfl)) (cwV 1 hts (ef_goodV rm_352 rm_353 rm_354 rm_25 rm_355) rfl rfl rfl (by decide +kernel) ⟨Nat.le_of_ble_eq_true rfl, Nat.le_of_ble_eq_true rfl⟩) hK hNX hP hD hS 9 rfl rfl rfl rfl hl.1 rfl (Nat.le_of_ble_eq_true rfl) rd_M_digit_53 ⟨Nat.zero_le _, Nat.zero_le _⟩ (fun o w1 H locs hq hP hD hS => ?_)
              obtain ⟨rfl, g_1, rfl, hg_2⟩ := hq
              have hP : va_P (dC, dI) vwCl (rC cI r ((V 0)) ((V 1)) (U2) ((V 3)) ((V 4)) ((V 5)) ((V 6)) (A1) (U1) (A2) (U2) ((J 0)) ((J 1)) (g_1) ((J 3)) ((J 4)) ((J 5)) ((J 6)) ((J 7)) ((J 8)) ((J 9)) ((J 10)) (pb) (pe) (ob) (oe) (b1) (e1) (b2) (e2)) H := hP
              have hD : va_D (ef_A (rC cI r ((V 0)) ((V 1)) ((V 2)) ((V 3)) ((V 4)) ((V 5)) ((V 6)) (A1) (U1) (A2) (U2) ((J 0)) ((J 1)) ((J 2)) ((J 3)) ((J 4)) ((J 5)) ((J 6)) ((J 7)) ((J 8)) ((J 9)) ((J 10)) (pb) (pe) (ob) (oe) (b1) (e1) (b2) (e2))) (rC cI r ((V 0)) ((V 1)) (U2) ((V 3)) ((V 4)) ((V 5)) ((V 6)) (A1) (U1) (A2) (U2) ((J 0)) ((J 1)) (g_1) ((J 3)) ((J 4)) ((J 5)) ((J 6)) ((J 7)) ((J 8)) ((J 9)) ((J 10)) (pb) (pe) (ob) (oe) (b1) (e1) (b2) (e2)) := hD
              have hg_2 : bk (U2) g_1 := ⟨hg_2, kU2.2⟩
              refine W.eq (g2 := F0 m 56 ls []) rfl ?_
              refine lv_aload_n hx hb rd_M_digit_56 rfl (lv_at hl 1 rfl) ?_
              refine va_get (D := (dC, dI)) (ci := 5) (v := .ref (r 9)) (C := rR5) (T := rT5) (N := 7) hx hb hts (fun w h => List.mem_cons_of_mem _ (rin5 w h)) hown hK hP 0 rfl rfl 6 (by decide) (hts _ (List.mem_cons_of_mem _ rm_316)) (fun _ h9 => h9) rfl rd_M_digit_57 ?_
              refine lv_iload_n hx hb rd_M_digit_60 rfl (lv_at hl 4 rfl) ?_
              refine lv_iload hx hb rd_M_digit_61 (lv_at hl 5 rfl) ?_
              refine ef_callV (As := [.int (iv ((mu : Int))), .int (iv ((mo : Int)))]) (rest := []) ⟨hx, hb, hml, hown, hts⟩ (b_grow l dC dI ht (isB_c (X := U2) (F := g_1) (ws := rC cI r ((V 0)) ((V 1)) (U2) ((V 3)) ((V 4)) ((V 5)) ((V 6)) (A1) (U1) (A2) (U2) ((J 0)) ((J 1)) (g_1) ((J 3)) ((J 4)) ((J 5)) ((J 6)) ((J 7)) ((J 8)) ((J 9)) ((J 10)) (pb) (pe) (ob) (oe) (b1) (e1) (b2) (e2)) (k0 := 9) (k1 := 10) (by decide) rfl rfl) hg_2.1 (by omega) mu mo hm1 hmu hmo) (cwV 2 hts (ef_goodV rm_356 rm_357 rm_358 rm_25 rm_359) rfl rfl rfl (by decide +kernel) ⟨Nat.le_of_ble_eq_true rfl, Nat.le_of_ble_eq_true rfl⟩) hK hNX hP hD hS 9 rfl rfl rfl rfl hl.1 rfl (Nat.le_of_ble_eq_true rfl) rd_M_digit_63 ⟨Nat.zero_le _, Nat.zero_le _⟩ (fun o w1 H locs hq hP hD hS => ?_)
              obtain ⟨rfl, g_3, rfl, hg_4⟩ := hq
              have hP : va_P (dC, dI) vwCl (rC cI r ((V 0)) ((V 1)) (U2 * mu + mo) ((V 3)) ((V 4)) ((V 5)) ((V 6)) (A1) (U1) (A2) (U2) ((J 0)) ((J 1)) (g_3) ((J 3)) ((J 4)) ((J 5)) ((J 6)) ((J 7)) ((J 8)) ((J 9)) ((J 10)) (pb) (pe) (ob) (oe) (b1) (e1) (b2) (e2)) H := hP
              have hD : va_D (ef_A (rC cI r ((V 0)) ((V 1)) ((V 2)) ((V 3)) ((V 4)) ((V 5)) ((V 6)) (A1) (U1) (A2) (U2) ((J 0)) ((J 1)) ((J 2)) ((J 3)) ((J 4)) ((J 5)) ((J 6)) ((J 7)) ((J 8)) ((J 9)) ((J 10)) (pb) (pe) (ob) (oe) (b1) (e1) (b2) (e2))) (rC cI r ((V 0)) ((V 1)) (U2 * mu + mo) ((V 3)) ((V 4)) ((V 5)) ((V 6)) (A1) (U1) (A2) (U2) ((J 0)) ((J 1)) (g_3) ((J 3)) ((J 4)) ((J 5)) ((J 6)) ((J 7)) ((J 8)) ((J 9)) ((J 10)) (pb) (pe) (ob) (oe) (b1) (e1) (b2) (e2)) := hD
              have hg_4 : bk (U2 * mu + mo) g_3 := ⟨hg_4, by omega⟩
              refine W.eq (g2 := F0 m 66 ls []) rfl ?_
              refine lv_aload_n hx hb rd_M_digit_66 rfl (lv_at hl 1 rfl) ?_
              refine va_get (D := (dC, dI)) (ci := 5) (v := .ref (r 9)) (C := rR5) (T := rT5) (N := 7) hx hb hts (fun w h => List.mem_cons_of_mem _ (rin5 w h)) hown hK hP 0 rfl rfl 6 (by decide) (hts _ (List.mem_cons_of_mem _ rm_316)) (fun _ h9 => h9) rfl rd_M_digit_67 ?_
              refine ef_callV (As := []) (rest := []) ⟨hx, hb, hml, hown, hts⟩ (b_bits l dC dI ht (isB_c (X := U2 * mu + mo) (F := g_3) (ws := rC cI r ((V 0)) ((V 1)) (U2 * mu + mo) ((V 3)) ((V 4)) ((V 5)) ((V 6)) (A1) (U1) (A2) (U2) ((J 0)) ((J 1)) (g_3) ((J 3)) ((J 4)) ((J 5)) ((J 6)) ((J 7)) ((J 8)) ((J 9)) ((J 10)) (pb) (pe) (ob) (oe) (b1) (e1) (b2) (e2)) (k0 := 9) (k1 := 10) (by decide) rfl rfl) hg_4.1 hg_4.2) (cwV 0 hts (ef_goodV rm_360 rm_361 rm_362 rm_25 rm_363) rfl rfl rfl (by decide +kernel) ⟨Nat.le_of_ble_eq_true rfl, Nat.le_of_ble_eq_true rfl⟩) hK hNX hP hD hS 9 rfl rfl rfl rfl hl.1 rfl (Nat.le_of_ble_eq_true rfl) rd_M_digit_70 ⟨Nat.zero_le _, Nat.zero_le _⟩ (fun o w1 H locs hq hP hD hS => ?_)
              obtain ⟨rfl, e9⟩ := hq
              rw [e9] at hP hD
              refine W.eq (g2 := F0 m 73 ls [.int (iv ((bl (U2 * mu + mo) : Int)))]) rfl ?_
              refine lv_sipush (v := iv (4800)) hx hb rd_M_digit_73 (by decide) ?_
              refine iw_icmp_le (tgt := 82) hx hb rd_M_digit_76 (by decide) ⟨by omega, by omega⟩ ⟨by omega, by omega⟩ (fun c5 => ?_) (fun c5 => ?_)
              ·
                refine lv_aload hx hb rd_M_digit_82 (lv_at hl 0 rfl) ?_
                refine lv_aload_n hx hb rd_M_digit_84 rfl (lv_at hl 1 rfl) ?_
                refine va_get (D := (dC, dI)) (ci := 5) (v := .ref (r 9)) (C := rR5) (T := rT5) (N := 7) hx hb hts (fun w h => List.mem_cons_of_mem _ (rin5 w h)) hown hK hP 0 rfl rfl 6 (by decide) (hts _ (List.mem_cons_of_mem _ rm_316)) (fun _ h9 => h9) rfl rd_M_digit_85 ?_
                refine ef_callV (As := [.ref (r 9)]) (rest := []) ⟨hx, hb, hml, hown, hts⟩ (b_copy l dC dI ht (isB_c (X := U2) (F := (J 10)) (ws := rC cI r ((V 0)) ((V 1)) (U2 * mu + mo) ((V 3)) ((V 4)) ((V 5)) ((V 6)) (A1) (U1) (A2) (U2) ((J 0)) ((J 1)) (g_3) ((J 3)) ((J 4)) ((J 5)) ((J 6)) ((J 7)) ((J 8)) ((J 9)) ((J 10)) (pb) (pe) (ob) (oe) (b1) (e1) (b2) (e2)) (k0 := 25) (k1 := 26) (by decide) rfl rfl) (isB_c (X := U2 * mu + mo) (F := g_3) (ws := rC cI r ((V 0)) ((V 1)) (U2 * mu + mo) ((V 3)) ((V 4)) ((V 5)) ((V 6)) (A1) (U1) (A2) (U2) ((J 0)) ((J 1)) (g_3) ((J 3)) ((J 4)) ((J 5)) ((J 6)) ((J 7)) ((J 8)) ((J 9)) ((J 10)) (pb) (pe) (ob) (oe) (b1) (e1) (b2) (e2)) (k0 := 9) (k1 := 10) (by decide) rfl rfl) hg_4.1 hg_4.2 (apt_c (k0 := 25) (k1 := 26) (j0 := 9) (j1 := 10) rfl)) (cwV 1 hts (ef_goodV rm_352 rm_353 rm_354 rm_25 rm_355) rfl rfl rfl (by decide +kernel) ⟨Nat.le_of_ble_eq_true rfl, Nat.le_of_ble_eq_true rfl⟩) hK hNX hP hD hS 25 rfl rfl rfl rfl hl.1 rfl (Nat.le_of_ble_eq_true rfl) rd_M_digit_88 ⟨Nat.zero_le _, Nat.zero_le _⟩ (fun o w1 H locs hq hP hD hS => ?_)
                obtain ⟨rfl, g_5, rfl, hg_6⟩ := hq
                have hP : va_P (dC, dI) vwCl (rC cI r ((V 0)) ((V 1)) (U2 * mu + mo) ((V 3)) ((V 4)) ((V 5)) ((V 6)) (A1) (U1) (A2) (U2 * mu + mo) ((J 0)) ((J 1)) (g_3) ((J 3)) ((J 4)) ((J 5)) ((J 6)) ((J 7)) ((J 8)) ((J 9)) (g_5) (pb) (pe) (ob) (oe) (b1) (e1) (b2) (e2)) H := hP
                have hD : va_D (ef_A (rC cI r ((V 0)) ((V 1)) ((V 2)) ((V 3)) ((V 4)) ((V 5)) ((V 6)) (A1) (U1) (A2) (U2) ((J 0)) ((J 1)) ((J 2)) ((J 3)) ((J 4)) ((J 5)) ((J 6)) ((J 7)) ((J 8)) ((J 9)) ((J 10)) (pb) (pe) (ob) (oe) (b1) (e1) (b2) (e2))) (rC cI r ((V 0)) ((V 1)) (U2 * mu + mo) ((V 3)) ((V 4)) ((V 5)) ((V 6)) (A1) (U1) (A2) (U2 * mu + mo) ((J 0)) ((J 1)) (g_3) ((J 3)) ((J 4)) ((J 5)) ((J 6)) ((J 7)) ((J 8)) ((J 9)) (g_5) (pb) (pe) (ob) (oe) (b1) (e1) (b2) (e2)) := hD
                have hg_6 : bk (U2 * mu + mo) g_5 := ⟨hg_6, hg_4.2⟩
                refine W.eq (g2 := F0 m 91 ls []) rfl ?_
                refine lv_aload hx hb rd_M_digit_91 (lv_at hl 0 rfl) ?_
                refine ef_callV (As := []) (rest := []) ⟨hx, hb, hml, hown, hts⟩ (b_bits l dC dI ht (isB_c (X := U2 * mu + mo) (F := g_5) (ws := rC cI r ((V 0)) ((V 1)) (U2 * mu + mo) ((V 3)) ((V 4)) ((V 5)) ((V 6)) (A1) (U1) (A2) (U2 * mu + mo) ((J 0)) ((J 1)) (g_3) ((J 3)) ((J 4)) ((J 5)) ((J 6)) ((J 7)) ((J 8)) ((J 9)) (g_5) (pb) (pe) (ob) (oe) (b1) (e1) (b2) (e2)) (k0 := 25) (k1 := 26) (by decide) rfl rfl) hg_6.1 hg_6.2) (cwV 0 hts (ef_goodV rm_360 rm_361 rm_362 rm_25 rm_363) rfl rfl rfl (by decide +kernel) ⟨Nat.le_of_ble_eq_true rfl, Nat.le_of_ble_eq_true rfl⟩) hK hNX hP hD hS 25 rfl rfl rfl rfl hl.1 rfl (Nat.le_of_ble_eq_true rfl) rd_M_digit_93 ⟨Nat.zero_le _, Nat.zero_le _⟩ (fun o w1 H locs hq hP hD hS => ?_)
                obtain ⟨rfl, e9⟩ := hq
                rw [e9] at hP hD
                refine W.eq (g2 := F0 m 96 ls [.int (iv ((bl (U2 * mu + mo) : Int)))]) rfl ?_
                exact ef_iret hx hb hr hlocks hP hD hS rd_M_digit_96 (⟨fun i => [((V 0)), ((V 1)), (U2 * mu + mo), ((V 3)), ((V 4)), ((V 5)), ((V 6))].getD i 0, fun i => [((J 0)), ((J 1)), (g_3), ((J 3)), ((J 4)), ((J 5)), ((J 6)), ((J 7)), ((J 8)), ((J 9)), (g_5)].getD i (fun _ => 0), _, _, _, _, rfl, rfl, rJ_of (hJ 0 (by decide)) (hJ 1 (by decide)) hg_4 (hJ 3 (by decide)) (hJ 4 (by decide)) (hJ 5 (by decide)) (hJ 6 (by decide)), kA1, kU1, kA2, hg_6⟩)
              ·
                exact absurd c5 (by omega)
            ·
              exact absurd c3 (by omega)

set_option maxRecDepth 100000 in
set_option maxHeartbeats 4000000 in
/-- digit refused -/
theorem r_digit11B (l : Launch) (dC : Nat → ClassId) (dI : Nat → Nat → Nat) {cI : ClassId} {tys : List (ClassId × FieldType)} (ht : tys[0]? = some (cI, .int)) (r : Nat → Nat) {V : Nat → Nat} {J : Nat → Nat → Nat} {A1 U1 A2 U2 : Nat} {pb pe ob oe b1 e1 b2 e2 : Int} (hJ : rJ V J) (kA1 : bk A1 (J 7)) (kU1 : bk U1 (J 8)) (kA2 : bk A2 (J 9)) (kU2 : bk U2 (J 10)) (mA1 : dn A1 ≤ 300) (mU1 : dn U1 ≤ 300) (mA2 : dn A2 ≤ 300) (mU2 : dn U2 ≤ 300) (mu mo : Int) (hm : ir mu) (ho : ir mo) (hbad : mu < 1 ∨ 1000000 < mu ∨ mo < 0 ∨ 1000000 < mo) : ef_C l ry_M_digit rw_M_digit ({ frames := 1, cells := 0, slots := 0, locals := 27 } : Room) [.ref (r 0), .int (iv (1)), .int (iv (1)), .int (iv (mu)), .int (iv (mo))] (dC, dI) vwCl tys (rC cI r ((V 0)) ((V 1)) ((V 2)) ((V 3)) ((V 4)) ((V 5)) ((V 6)) (A1) (U1) (A2) (U2) ((J 0)) ((J 1)) ((J 2)) ((J 3)) ((J 4)) ((J 5)) ((J 6)) ((J 7)) ((J 8)) ((J 9)) ((J 10)) (pb) (pe) (ob) (oe) (b1) (e1) (b2) (e2)) (fun o w1 => ∃ (V2 : Nat → Nat) (J2 : Nat → Nat → Nat) (pb2 pe2 ob2 oe2 : Int), o = some (.int (iv (-1))) ∧ w1 = rC cI r (V2 0) (V2 1) (V2 2) (V2 3) (V2 4) (V2 5) (V2 6) (A1) (U1) (A2) (U2) (J2 0) (J2 1) (J2 2) (J2 3) (J2 4) (J2 5) (J2 6) (J2 7) (J2 8) (J2 9) (J2 10) (pb2) (pe2) (ob2) (oe2) (b1) (e1) (b2) (e2) ∧ rJ V2 J2 ∧ bk (A1) (J2 7) ∧ bk (U1) (J2 8) ∧ bk (A2) (J2 9) ∧ bk (U2) (J2 10)) := by
  refine ef_C.of (cc := rc_M_digit) (maxL := 6) (ret := (some .int)) (by decide) rfl (Nat.le_of_ble_eq_true rfl) ?_
  intro p e s m below meth c ls hx hb hml hr hts hown hlocks hK hNX hP hD hS hl
  have hl : lv_has ls 6 [(0, .ref (r 0)), (1, .int (iv (1))), (2, .int (iv (1))), (3, .int (iv (mu))), (4, .int (iv (mo)))] := hl
  have hown : s.vm.findClass rR5 = some m.cls := hown
  generalize hH : s.heap = H at hP ⊢
  have hS : va_S (ef_A (rC cI r ((V 0)) ((V 1)) ((V 2)) ((V 3)) ((V 4)) ((V 5)) ((V 6)) (A1) (U1) (A2) (U2) ((J 0)) ((J 1)) ((J 2)) ((J 3)) ((J 4)) ((J 5)) ((J 6)) ((J 7)) ((J 8)) ((J 9)) ((J 10)) (pb) (pe) (ob) (oe) (b1) (e1) (b2) (e2))) s.heap H [] := by rw [← hH]; exact hS
  generalize ([] : List Loc) = locs at hS ⊢
  refine lv_iload_n hx hb rd_M_digit_0 rfl (lv_at hl 1 rfl) ?_
  refine ef_callS (As := [.int (iv (1))]) (rest := []) ⟨hx, hb, hml, hown, hts⟩ (r_isNumber1 l dC dI ht r) (cwS 1 hts (ef_goodS rm_336 rm_337 rm_24 rm_338) rfl rfl rfl (by decide +kernel) ⟨Nat.le_of_ble_eq_true rfl, Nat.le_of_ble_eq_true rfl⟩) hK hNX hP hD hS rfl hl.1 rfl (Nat.le_of_ble_eq_true rfl) rd_M_digit_1 ⟨Nat.zero_le _, Nat.zero_le _⟩ (fun o w1 H locs hq hP hD hS => ?_)
  obtain ⟨rfl, e9⟩ := hq
  rw [e9] at hP hD
  refine W.eq (g2 := F0 m 4 ls [.int (iv (1))]) rfl ?_
  refine iw_if_eq (tgt := 37) hx hb rd_M_digit_4 (by decide) ⟨by omega, by omega⟩ (fun k1 => ?_) (fun k1 => ?_)
  ·
    exact absurd k1 (by decide)
  ·
    refine lv_iload_n hx hb rd_M_digit_7 rfl (lv_at hl 2 rfl) ?_
    refine ef_callS (As := [.int (iv (1))]) (rest := []) ⟨hx, hb, hml, hown, hts⟩ (r_isNumber1 l dC dI ht r) (cwS 1 hts (ef_goodS rm_336 rm_337 rm_24 rm_338) rfl rfl rfl (by decide +kernel) ⟨Nat.le_of_ble_eq_true rfl, Nat.le_of_ble_eq_true rfl⟩) hK hNX hP hD hS rfl hl.1 rfl (Nat.le_of_ble_eq_true rfl) rd_M_digit_8 ⟨Nat.zero_le _, Nat.zero_le _⟩ (fun o w1 H locs hq hP hD hS => ?_)
    obtain ⟨rfl, e9⟩ := hq
    rw [e9] at hP hD
    refine W.eq (g2 := F0 m 11 ls [.int (iv (1))]) rfl ?_
    refine iw_if_eq (tgt := 37) hx hb rd_M_digit_11 (by decide) ⟨by omega, by omega⟩ (fun k2 => ?_) (fun k2 => ?_)
    ·
      exact absurd k2 (by decide)
    ·
      refine lv_iload_n hx hb rd_M_digit_14 rfl (lv_at hl 3 rfl) ?_
      refine lv_iconst (v := iv (1)) hx hb rd_M_digit_15 (by decide) ?_
      refine iw_icmp_lt (tgt := 37) hx hb rd_M_digit_16 (by decide) (hm) ⟨by omega, by omega⟩ (fun c0 => ?_) (fun c0 => ?_)
      ·
        refine lv_iconst (v := iv (-1)) hx hb rd_M_digit_37 (by decide) ?_
        exact ef_iret hx hb hr hlocks hP hD hS rd_M_digit_38 (⟨fun i => [((V 0)), ((V 1)), ((V 2)), ((V 3)), ((V 4)), ((V 5)), ((V 6))].getD i 0, fun i => [((J 0)), ((J 1)), ((J 2)), ((J 3)), ((J 4)), ((J 5)), ((J 6)), ((J 7)), ((J 8)), ((J 9)), ((J 10))].getD i (fun _ => 0), _, _, _, _, rfl, rfl, rJ_of (hJ 0 (by decide)) (hJ 1 (by decide)) (hJ 2 (by decide)) (hJ 3 (by decide)) (hJ 4 (by decide)) (hJ 5 (by decide)) (hJ 6 (by decide)), kA1, kU1, kA2, kU2⟩)
      ·
        refine lv_iload_n hx hb rd_M_digit_19 rfl (lv_at hl 3 rfl) ?_
        refine lv_ldc (v := iv (1000000)) hx hb hown (hts _ (List.mem_cons_of_mem _ rm_347)) rd_M_digit_20 ?_
        refine iw_icmp_gt (tgt := 37) hx hb rd_M_digit_22 (by decide) (hm) ⟨by omega, by omega⟩ (fun c1 => ?_) (fun c1 => ?_)
        ·
          refine lv_iconst (v := iv (-1)) hx hb rd_M_digit_37 (by decide) ?_
          exact ef_iret hx hb hr hlocks hP hD hS rd_M_digit_38 (⟨fun i => [((V 0)), ((V 1)), ((V 2)), ((V 3)), ((V 4)), ((V 5)), ((V 6))].getD i 0, fun i => [((J 0)), ((J 1)), ((J 2)), ((J 3)), ((J 4)), ((J 5)), ((J 6)), ((J 7)), ((J 8)), ((J 9)), ((J 10))].getD i (fun _ => 0), _, _, _, _, rfl, rfl, rJ_of (hJ 0 (by decide)) (hJ 1 (by decide)) (hJ 2 (by decide)) (hJ 3 (by decide)) (hJ 4 (by decide)) (hJ 5 (by decide)) (hJ 6 (by decide)), kA1, kU1, kA2, kU2⟩)
        ·
          refine lv_iload hx hb rd_M_digit_25 (lv_at hl 4 rfl) ?_
          refine iw_if_lt (tgt := 37) hx hb rd_M_digit_27 (by decide) (ho) (fun c2 => ?_) (fun c2 => ?_)
          ·
            refine lv_iconst (v := iv (-1)) hx hb rd_M_digit_37 (by decide) ?_
            exact ef_iret hx hb hr hlocks hP hD hS rd_M_digit_38 (⟨fun i => [((V 0)), ((V 1)), ((V 2)), ((V 3)), ((V 4)), ((V 5)), ((V 6))].getD i 0, fun i => [((J 0)), ((J 1)), ((J 2)), ((J 3)), ((J 4)), ((J 5)), ((J 6)), ((J 7)), ((J 8)), ((J 9)), ((J 10))].getD i (fun _ => 0), _, _, _, _, rfl, rfl, rJ_of (hJ 0 (by decide)) (hJ 1 (by decide)) (hJ 2 (by decide)) (hJ 3 (by decide)) (hJ 4 (by decide)) (hJ 5 (by decide)) (hJ 6 (by decide)), kA1, kU1, kA2, kU2⟩)
          ·
            refine lv_iload hx hb rd_M_digit_30 (lv_at hl 4 rfl) ?_
            refine lv_ldc (v := iv (1000000)) hx hb hown (hts _ (List.mem_cons_of_mem _ rm_347)) rd_M_digit_32 ?_
            refine iw_icmp_le (tgt := 39) hx hb rd_M_digit_34 (by decide) (ho) ⟨by omega, by omega⟩ (fun c3 => ?_) (fun c3 => ?_)
            ·
              exact absurd hbad (by omega)
            ·
              refine lv_iconst (v := iv (-1)) hx hb rd_M_digit_37 (by decide) ?_
              exact ef_iret hx hb hr hlocks hP hD hS rd_M_digit_38 (⟨fun i => [((V 0)), ((V 1)), ((V 2)), ((V 3)), ((V 4)), ((V 5)), ((V 6))].getD i 0, fun i => [((J 0)), ((J 1)), ((J 2)), ((J 3)), ((J 4)), ((J 5)), ((J 6)), ((J 7)), ((J 8)), ((J 9)), ((J 10))].getD i (fun _ => 0), _, _, _, _, rfl, rfl, rJ_of (hJ 0 (by decide)) (hJ 1 (by decide)) (hJ 2 (by decide)) (hJ 3 (by decide)) (hJ 4 (by decide)) (hJ 5 (by decide)) (hJ 6 (by decide)), kA1, kU1, kA2, kU2⟩)

set_option maxRecDepth 100000 in
set_option maxHeartbeats 4000000 in
/-- digit of no part -/
theorem r_digit0x (l : Launch) (dC : Nat → ClassId) (dI : Nat → Nat → Nat) {cI : ClassId} {tys : List (ClassId × FieldType)} (ht : tys[0]? = some (cI, .int)) (r : Nat → Nat) {V : Nat → Nat} {J : Nat → Nat → Nat} {A1 U1 A2 U2 : Nat} {pb pe ob oe b1 e1 b2 e2 : Int} (hJ : rJ V J) (kA1 : bk A1 (J 7)) (kU1 : bk U1 (J 8)) (kA2 : bk A2 (J 9)) (kU2 : bk U2 (J 10)) (mA1 : dn A1 ≤ 300) (mU1 : dn U1 ≤ 300) (mA2 : dn A2 ≤ 300) (mU2 : dn U2 ≤ 300) (mu mo : Int) (z : Int) (hz : ir z) (hz0 : z ≠ 0) (hz1 : z ≠ 1) : ef_C l ry_M_digit rw_M_digit ({ frames := 1, cells := 0, slots := 0, locals := 27 } : Room) [.ref (r 0), .int (iv (0)), .int (iv (z)), .int (iv (mu)), .int (iv (mo))] (dC, dI) vwCl tys (rC cI r ((V 0)) ((V 1)) ((V 2)) ((V 3)) ((V 4)) ((V 5)) ((V 6)) (A1) (U1) (A2) (U2) ((J 0)) ((J 1)) ((J 2)) ((J 3)) ((J 4)) ((J 5)) ((J 6)) ((J 7)) ((J 8)) ((J 9)) ((J 10)) (pb) (pe) (ob) (oe) (b1) (e1) (b2) (e2)) (fun o w1 => ∃ (V2 : Nat → Nat) (J2 : Nat → Nat → Nat) (pb2 pe2 ob2 oe2 : Int), o = some (.int (iv (-1))) ∧ w1 = rC cI r (V2 0) (V2 1) (V2 2) (V2 3) (V2 4) (V2 5) (V2 6) (A1) (U1) (A2) (U2) (J2 0) (J2 1) (J2 2) (J2 3) (J2 4) (J2 5) (J2 6) (J2 7) (J2 8) (J2 9) (J2 10) (pb2) (pe2) (ob2) (oe2) (b1) (e1) (b2) (e2) ∧ rJ V2 J2 ∧ bk (A1) (J2 7) ∧ bk (U1) (J2 8) ∧ bk (A2) (J2 9) ∧ bk (U2) (J2 10)) := by
  refine ef_C.of (cc := rc_M_digit) (maxL := 6) (ret := (some .int)) (by decide) rfl (Nat.le_of_ble_eq_true rfl) ?_
  intro p e s m below meth c ls hx hb hml hr hts hown hlocks hK hNX hP hD hS hl
  have hl : lv_has ls 6 [(0, .ref (r 0)), (1, .int (iv (0))), (2, .int (iv (z))), (3, .int (iv (mu))), (4, .int (iv (mo)))] := hl
  have hown : s.vm.findClass rR5 = some m.cls := hown
  generalize hH : s.heap = H at hP ⊢
  have hS : va_S (ef_A (rC cI r ((V 0)) ((V 1)) ((V 2)) ((V 3)) ((V 4)) ((V 5)) ((V 6)) (A1) (U1) (A2) (U2) ((J 0)) ((J 1)) ((J 2)) ((J 3)) ((J 4)) ((J 5)) ((J 6)) ((J 7)) ((J 8)) ((J 9)) ((J 10)) (pb) (pe) (ob) (oe) (b1) (e1) (b2) (e2))) s.heap H [] := by rw [← hH]; exact hS
  generalize ([] : List Loc) = locs at hS ⊢
  refine lv_iload_n hx hb rd_M_digit_0 rfl (lv_at hl 1 rfl) ?_
  refine ef_callS (As := [.int (iv (0))]) (rest := []) ⟨hx, hb, hml, hown, hts⟩ (r_isNumber0 l dC dI ht r) (cwS 1 hts (ef_goodS rm_336 rm_337 rm_24 rm_338) rfl rfl rfl (by decide +kernel) ⟨Nat.le_of_ble_eq_true rfl, Nat.le_of_ble_eq_true rfl⟩) hK hNX hP hD hS rfl hl.1 rfl (Nat.le_of_ble_eq_true rfl) rd_M_digit_1 ⟨Nat.zero_le _, Nat.zero_le _⟩ (fun o w1 H locs hq hP hD hS => ?_)
  obtain ⟨rfl, e9⟩ := hq
  rw [e9] at hP hD
  refine W.eq (g2 := F0 m 4 ls [.int (iv (1))]) rfl ?_
  refine iw_if_eq (tgt := 37) hx hb rd_M_digit_4 (by decide) ⟨by omega, by omega⟩ (fun k1 => ?_) (fun k1 => ?_)
  ·
    exact absurd k1 (by decide)
  ·
    refine lv_iload_n hx hb rd_M_digit_7 rfl (lv_at hl 2 rfl) ?_
    refine ef_callS (As := [.int (iv (z))]) (rest := []) ⟨hx, hb, hml, hown, hts⟩ (r_isNumberx l dC dI ht r z hz hz0 hz1) (cwS 1 hts (ef_goodS rm_336 rm_337 rm_24 rm_338) rfl rfl rfl (by decide +kernel) ⟨Nat.le_of_ble_eq_true rfl, Nat.le_of_ble_eq_true rfl⟩) hK hNX hP hD hS rfl hl.1 rfl (Nat.le_of_ble_eq_true rfl) rd_M_digit_8 ⟨Nat.zero_le _, Nat.zero_le _⟩ (fun o w1 H locs hq hP hD hS => ?_)
    obtain ⟨rfl, e9⟩ := hq
    rw [e9] at hP hD
    refine W.eq (g2 := F0 m 11 ls [.int (iv (0))]) rfl ?_
    refine iw_if_eq (tgt := 37) hx hb rd_M_digit_11 (by decide) ⟨by omega, by omega⟩ (fun k2 => ?_) (fun k2 => ?_)
    ·
      refine lv_iconst (v := iv (-1)) hx hb rd_M_digit_37 (by decide) ?_
      exact ef_iret hx hb hr hlocks hP hD hS rd_M_digit_38 (⟨fun i => [((V 0)), ((V 1)), ((V 2)), ((V 3)), ((V 4)), ((V 5)), ((V 6))].getD i 0, fun i => [((J 0)), ((J 1)), ((J 2)), ((J 3)), ((J 4)), ((J 5)), ((J 6)), ((J 7)), ((J 8)), ((J 9)), ((J 10))].getD i (fun _ => 0), _, _, _, _, rfl, rfl, rJ_of (hJ 0 (by decide)) (hJ 1 (by decide)) (hJ 2 (by decide)) (hJ 3 (by decide)) (hJ 4 (by decide)) (hJ 5 (by decide)) (hJ 6 (by decide)), kA1, kU1, kA2, kU2⟩)
    ·
      exact absurd rfl k2

set_option maxRecDepth 100000 in
set_option maxHeartbeats 4000000 in
/-- digit of no part -/
theorem r_digit1x (l : Launch) (dC : Nat → ClassId) (dI : Nat → Nat → Nat) {cI : ClassId} {tys : List (ClassId × FieldType)} (ht : tys[0]? = some (cI, .int)) (r : Nat → Nat) {V : Nat → Nat} {J : Nat → Nat → Nat} {A1 U1 A2 U2 : Nat} {pb pe ob oe b1 e1 b2 e2 : Int} (hJ : rJ V J) (kA1 : bk A1 (J 7)) (kU1 : bk U1 (J 8)) (kA2 : bk A2 (J 9)) (kU2 : bk U2 (J 10)) (mA1 : dn A1 ≤ 300) (mU1 : dn U1 ≤ 300) (mA2 : dn A2 ≤ 300) (mU2 : dn U2 ≤ 300) (mu mo : Int) (z : Int) (hz : ir z) (hz0 : z ≠ 0) (hz1 : z ≠ 1) : ef_C l ry_M_digit rw_M_digit ({ frames := 1, cells := 0, slots := 0, locals := 27 } : Room) [.ref (r 0), .int (iv (1)), .int (iv (z)), .int (iv (mu)), .int (iv (mo))] (dC, dI) vwCl tys (rC cI r ((V 0)) ((V 1)) ((V 2)) ((V 3)) ((V 4)) ((V 5)) ((V 6)) (A1) (U1) (A2) (U2) ((J 0)) ((J 1)) ((J 2)) ((J 3)) ((J 4)) ((J 5)) ((J 6)) ((J 7)) ((J 8)) ((J 9)) ((J 10)) (pb) (pe) (ob) (oe) (b1) (e1) (b2) (e2)) (fun o w1 => ∃ (V2 : Nat → Nat) (J2 : Nat → Nat → Nat) (pb2 pe2 ob2 oe2 : Int), o = some (.int (iv (-1))) ∧ w1 = rC cI r (V2 0) (V2 1) (V2 2) (V2 3) (V2 4) (V2 5) (V2 6) (A1) (U1) (A2) (U2) (J2 0) (J2 1) (J2 2) (J2 3) (J2 4) (J2 5) (J2 6) (J2 7) (J2 8) (J2 9) (J2 10) (pb2) (pe2) (ob2) (oe2) (b1) (e1) (b2) (e2) ∧ rJ V2 J2 ∧ bk (A1) (J2 7) ∧ bk (U1) (J2 8) ∧ bk (A2) (J2 9) ∧ bk (U2) (J2 10)) := by
  refine ef_C.of (cc := rc_M_digit) (maxL := 6) (ret := (some .int)) (by decide) rfl (Nat.le_of_ble_eq_true rfl) ?_
  intro p e s m below meth c ls hx hb hml hr hts hown hlocks hK hNX hP hD hS hl
  have hl : lv_has ls 6 [(0, .ref (r 0)), (1, .int (iv (1))), (2, .int (iv (z))), (3, .int (iv (mu))), (4, .int (iv (mo)))] := hl
  have hown : s.vm.findClass rR5 = some m.cls := hown
  generalize hH : s.heap = H at hP ⊢
  have hS : va_S (ef_A (rC cI r ((V 0)) ((V 1)) ((V 2)) ((V 3)) ((V 4)) ((V 5)) ((V 6)) (A1) (U1) (A2) (U2) ((J 0)) ((J 1)) ((J 2)) ((J 3)) ((J 4)) ((J 5)) ((J 6)) ((J 7)) ((J 8)) ((J 9)) ((J 10)) (pb) (pe) (ob) (oe) (b1) (e1) (b2) (e2))) s.heap H [] := by rw [← hH]; exact hS
  generalize ([] : List Loc) = locs at hS ⊢
  refine lv_iload_n hx hb rd_M_digit_0 rfl (lv_at hl 1 rfl) ?_
  refine ef_callS (As := [.int (iv (1))]) (rest := []) ⟨hx, hb, hml, hown, hts⟩ (r_isNumber1 l dC dI ht r) (cwS 1 hts (ef_goodS rm_336 rm_337 rm_24 rm_338) rfl rfl rfl (by decide +kernel) ⟨Nat.le_of_ble_eq_true rfl, Nat.le_of_ble_eq_true rfl⟩) hK hNX hP hD hS rfl hl.1 rfl (Nat.le_of_ble_eq_true rfl) rd_M_digit_1 ⟨Nat.zero_le _, Nat.zero_le _⟩ (fun o w1 H locs hq hP hD hS => ?_)
  obtain ⟨rfl, e9⟩ := hq
  rw [e9] at hP hD
  refine W.eq (g2 := F0 m 4 ls [.int (iv (1))]) rfl ?_
  refine iw_if_eq (tgt := 37) hx hb rd_M_digit_4 (by decide) ⟨by omega, by omega⟩ (fun k1 => ?_) (fun k1 => ?_)
  ·
    exact absurd k1 (by decide)
  ·
    refine lv_iload_n hx hb rd_M_digit_7 rfl (lv_at hl 2 rfl) ?_
    refine ef_callS (As := [.int (iv (z))]) (rest := []) ⟨hx, hb, hml, hown, hts⟩ (r_isNumberx l dC dI ht r z hz hz0 hz1) (cwS 1 hts (ef_goodS rm_336 rm_337 rm_24 rm_338) rfl rfl rfl (by decide +kernel) ⟨Nat.le_of_ble_eq_true rfl, Nat.le_of_ble_eq_true rfl⟩) hK hNX hP hD hS rfl hl.1 rfl (Nat.le_of_ble_eq_true rfl) rd_M_digit_8 ⟨Nat.zero_le _, Nat.zero_le _⟩ (fun o w1 H locs hq hP hD hS => ?_)
    obtain ⟨rfl, e9⟩ := hq
    rw [e9] at hP hD
    refine W.eq (g2 := F0 m 11 ls [.int (iv (0))]) rfl ?_
    refine iw_if_eq (tgt := 37) hx hb rd_M_digit_11 (by decide) ⟨by omega, by omega⟩ (fun k2 => ?_) (fun k2 => ?_)
    ·
      refine lv_iconst (v := iv (-1)) hx hb rd_M_digit_37 (by decide) ?_
      exact ef_iret hx hb hr hlocks hP hD hS rd_M_digit_38 (⟨fun i => [((V 0)), ((V 1)), ((V 2)), ((V 3)), ((V 4)), ((V 5)), ((V 6))].getD i 0, fun i => [((J 0)), ((J 1)), ((J 2)), ((J 3)), ((J 4)), ((J 5)), ((J 6)), ((J 7)), ((J 8)), ((J 9)), ((J 10))].getD i (fun _ => 0), _, _, _, _, rfl, rfl, rJ_of (hJ 0 (by decide)) (hJ 1 (by decide)) (hJ 2 (by decide)) (hJ 3 (by decide)) (hJ 4 (by decide)) (hJ 5 (by decide)) (hJ 6 (by decide)), kA1, kU1, kA2, kU2⟩)
    ·
      exact absurd rfl k2

set_option maxRecDepth 100000 in
set_option maxHeartbeats 4000000 in
/-- digit of no part -/
theorem r_digitxx (l : Launch) (dC : Nat → ClassId) (dI : Nat → Nat → Nat) {cI : ClassId} {tys : List (ClassId × FieldType)} (ht : tys[0]? = some (cI, .int)) (r : Nat → Nat) {V : Nat → Nat} {J : Nat → Nat → Nat} {A1 U1 A2 U2 : Nat} {pb pe ob oe b1 e1 b2 e2 : Int} (hJ : rJ V J) (kA1 : bk A1 (J 7)) (kU1 : bk U1 (J 8)) (kA2 : bk A2 (J 9)) (kU2 : bk U2 (J 10)) (mA1 : dn A1 ≤ 300) (mU1 : dn U1 ≤ 300) (mA2 : dn A2 ≤ 300) (mU2 : dn U2 ≤ 300) (mu mo : Int) (z y : Int) (hz : ir z) (hz0 : z ≠ 0) (hz1 : z ≠ 1) : ef_C l ry_M_digit rw_M_digit ({ frames := 1, cells := 0, slots := 0, locals := 27 } : Room) [.ref (r 0), .int (iv (z)), .int (iv (y)), .int (iv (mu)), .int (iv (mo))] (dC, dI) vwCl tys (rC cI r ((V 0)) ((V 1)) ((V 2)) ((V 3)) ((V 4)) ((V 5)) ((V 6)) (A1) (U1) (A2) (U2) ((J 0)) ((J 1)) ((J 2)) ((J 3)) ((J 4)) ((J 5)) ((J 6)) ((J 7)) ((J 8)) ((J 9)) ((J 10)) (pb) (pe) (ob) (oe) (b1) (e1) (b2) (e2)) (fun o w1 => ∃ (V2 : Nat → Nat) (J2 : Nat → Nat → Nat) (pb2 pe2 ob2 oe2 : Int), o = some (.int (iv (-1))) ∧ w1 = rC cI r (V2 0) (V2 1) (V2 2) (V2 3) (V2 4) (V2 5) (V2 6) (A1) (U1) (A2) (U2) (J2 0) (J2 1) (J2 2) (J2 3) (J2 4) (J2 5) (J2 6) (J2 7) (J2 8) (J2 9) (J2 10) (pb2) (pe2) (ob2) (oe2) (b1) (e1) (b2) (e2) ∧ rJ V2 J2 ∧ bk (A1) (J2 7) ∧ bk (U1) (J2 8) ∧ bk (A2) (J2 9) ∧ bk (U2) (J2 10)) := by
  refine ef_C.of (cc := rc_M_digit) (maxL := 6) (ret := (some .int)) (by decide) rfl (Nat.le_of_ble_eq_true rfl) ?_
  intro p e s m below meth c ls hx hb hml hr hts hown hlocks hK hNX hP hD hS hl
  have hl : lv_has ls 6 [(0, .ref (r 0)), (1, .int (iv (z))), (2, .int (iv (y))), (3, .int (iv (mu))), (4, .int (iv (mo)))] := hl
  have hown : s.vm.findClass rR5 = some m.cls := hown
  generalize hH : s.heap = H at hP ⊢
  have hS : va_S (ef_A (rC cI r ((V 0)) ((V 1)) ((V 2)) ((V 3)) ((V 4)) ((V 5)) ((V 6)) (A1) (U1) (A2) (U2) ((J 0)) ((J 1)) ((J 2)) ((J 3)) ((J 4)) ((J 5)) ((J 6)) ((J 7)) ((J 8)) ((J 9)) ((J 10)) (pb) (pe) (ob) (oe) (b1) (e1) (b2) (e2))) s.heap H [] := by rw [← hH]; exact hS
  generalize ([] : List Loc) = locs at hS ⊢
  refine lv_iload_n hx hb rd_M_digit_0 rfl (lv_at hl 1 rfl) ?_
  refine ef_callS (As := [.int (iv (z))]) (rest := []) ⟨hx, hb, hml, hown, hts⟩ (r_isNumberx l dC dI ht r z hz hz0 hz1) (cwS 1 hts (ef_goodS rm_336 rm_337 rm_24 rm_338) rfl rfl rfl (by decide +kernel) ⟨Nat.le_of_ble_eq_true rfl, Nat.le_of_ble_eq_true rfl⟩) hK hNX hP hD hS rfl hl.1 rfl (Nat.le_of_ble_eq_true rfl) rd_M_digit_1 ⟨Nat.zero_le _, Nat.zero_le _⟩ (fun o w1 H locs hq hP hD hS => ?_)
  obtain ⟨rfl, e9⟩ := hq
  rw [e9] at hP hD
  refine W.eq (g2 := F0 m 4 ls [.int (iv (0))]) rfl ?_
  refine iw_if_eq (tgt := 37) hx hb rd_M_digit_4 (by decide) ⟨by omega, by omega⟩ (fun k1 => ?_) (fun k1 => ?_)
  ·
    refine lv_iconst (v := iv (-1)) hx hb rd_M_digit_37 (by decide) ?_
    exact ef_iret hx hb hr hlocks hP hD hS rd_M_digit_38 (⟨fun i => [((V 0)), ((V 1)), ((V 2)), ((V 3)), ((V 4)), ((V 5)), ((V 6))].getD i 0, fun i => [((J 0)), ((J 1)), ((J 2)), ((J 3)), ((J 4)), ((J 5)), ((J 6)), ((J 7)), ((J 8)), ((J 9)), ((J 10))].getD i (fun _ => 0), _, _, _, _, rfl, rfl, rJ_of (hJ 0 (by decide)) (hJ 1 (by decide)) (hJ 2 (by decide)) (hJ 3 (by decide)) (hJ 4 (by decide)) (hJ 5 (by decide)) (hJ 6 (by decide)), kA1, kU1, kA2, kU2⟩)
  ·
    exact absurd rfl k1

set_option maxRecDepth 100000 in
set_option maxHeartbeats 4000000 in
/-- bits -/
theorem r_bits00 (l : Launch) (dC : Nat → ClassId) (dI : Nat → Nat → Nat) {cI : ClassId} {tys : List (ClassId × FieldType)} (ht : tys[0]? = some (cI, .int)) (r : Nat → Nat) {V : Nat → Nat} {J : Nat → Nat → Nat} {A1 U1 A2 U2 : Nat} {pb pe ob oe b1 e1 b2 e2 : Int} (hJ : rJ V J) (kA1 : bk A1 (J 7)) (kU1 : bk U1 (J 8)) (kA2 : bk A2 (J 9)) (kU2 : bk U2 (J 10)) (mA1 : dn A1 ≤ 300) (mU1 : dn U1 ≤ 300) (mA2 : dn A2 ≤ 300) (mU2 : dn U2 ≤ 300) : ef_C l ry_M_bits rw_M_bits ({ frames := 1, cells := 0, slots := 0, locals := 23 } : Room) [.ref (r 0), .int (iv (0)), .int (iv (0))] (dC, dI) vwCl tys (rC cI r ((V 0)) ((V 1)) ((V 2)) ((V 3)) ((V 4)) ((V 5)) ((V 6)) (A1) (U1) (A2) (U2) ((J 0)) ((J 1)) ((J 2)) ((J 3)) ((J 4)) ((J 5)) ((J 6)) ((J 7)) ((J 8)) ((J 9)) ((J 10)) (pb) (pe) (ob) (oe) (b1) (e1) (b2) (e2)) (fun o w1 => ∃ (V2 : Nat → Nat) (J2 : Nat → Nat → Nat) (pb2 pe2 ob2 oe2 : Int), o = some (.int (iv (bl A1 : Int))) ∧ w1 = rC cI r (V2 0) (V2 1) (V2 2) (V2 3) (V2 4) (V2 5) (V2 6) (A1) (U1) (A2) (U2) (J2 0) (J2 1) (J2 2) (J2 3) (J2 4) (J2 5) (J2 6) (J2 7) (J2 8) (J2 9) (J2 10) (pb2) (pe2) (ob2) (oe2) (b1) (e1) (b2) (e2) ∧ rJ V2 J2 ∧ bk (A1) (J2 7) ∧ bk (U1) (J2 8) ∧ bk (A2) (J2 9) ∧ bk (U2) (J2 10)) := by
  refine ef_C.of (cc := rc_M_bits) (maxL := 3) (ret := (some .int)) (by decide) rfl (Nat.le_of_ble_eq_true rfl) ?_
  intro p e s m below meth c ls hx hb hml hr hts hown hlocks hK hNX hP hD hS hl
  have hl : lv_has ls 3 [(0, .ref (r 0)), (1, .int (iv (0))), (2, .int (iv (0)))] := hl
  have hown : s.vm.findClass rR5 = some m.cls := hown
  generalize hH : s.heap = H at hP ⊢
  have hS : va_S (ef_A (rC cI r ((V 0)) ((V 1)) ((V 2)) ((V 3)) ((V 4)) ((V 5)) ((V 6)) (A1) (U1) (A2) (U2) ((J 0)) ((J 1)) ((J 2)) ((J 3)) ((J 4)) ((J 5)) ((J 6)) ((J 7)) ((J 8)) ((J 9)) ((J 10)) (pb) (pe) (ob) (oe) (b1) (e1) (b2) (e2))) s.heap H [] := by rw [← hH]; exact hS
  generalize ([] : List Loc) = locs at hS ⊢
  refine lv_iload_n hx hb rd_M_bits_0 rfl (lv_at hl 1 rfl) ?_
  refine ef_callS (As := [.int (iv (0))]) (rest := []) ⟨hx, hb, hml, hown, hts⟩ (r_isNumber0 l dC dI ht r) (cwS 1 hts (ef_goodS rm_336 rm_337 rm_24 rm_338) rfl rfl rfl (by decide +kernel) ⟨Nat.le_of_ble_eq_true rfl, Nat.le_of_ble_eq_true rfl⟩) hK hNX hP hD hS rfl hl.1 rfl (Nat.le_of_ble_eq_true rfl) rd_M_bits_1 ⟨Nat.zero_le _, Nat.zero_le _⟩ (fun o w1 H locs hq hP hD hS => ?_)
  obtain ⟨rfl, e9⟩ := hq
  rw [e9] at hP hD
  refine W.eq (g2 := F0 m 4 ls [.int (iv (1))]) rfl ?_
  refine iw_if_eq (tgt := 26) hx hb rd_M_bits_4 (by decide) ⟨by omega, by omega⟩ (fun k1 => ?_) (fun k1 => ?_)
  ·
    exact absurd k1 (by decide)
  ·
    refine lv_iload_n hx hb rd_M_bits_7 rfl (lv_at hl 2 rfl) ?_
    refine ef_callS (As := [.int (iv (0))]) (rest := []) ⟨hx, hb, hml, hown, hts⟩ (r_isNumber0 l dC dI ht r) (cwS 1 hts (ef_goodS rm_336 rm_337 rm_24 rm_338) rfl rfl rfl (by decide +kernel) ⟨Nat.le_of_ble_eq_true rfl, Nat.le_of_ble_eq_true rfl⟩) hK hNX hP hD hS rfl hl.1 rfl (Nat.le_of_ble_eq_true rfl) rd_M_bits_8 ⟨Nat.zero_le _, Nat.zero_le _⟩ (fun o w1 H locs hq hP hD hS => ?_)
    obtain ⟨rfl, e9⟩ := hq
    rw [e9] at hP hD
    refine W.eq (g2 := F0 m 11 ls [.int (iv (1))]) rfl ?_
    refine iw_if_eq (tgt := 26) hx hb rd_M_bits_11 (by decide) ⟨by omega, by omega⟩ (fun k2 => ?_) (fun k2 => ?_)
    ·
      exact absurd k2 (by decide)
    ·
      refine lv_aload_n hx hb rd_M_bits_14 rfl (lv_at hl 0 rfl) ?_
      refine lv_iload_n hx hb rd_M_bits_15 rfl (lv_at hl 1 rfl) ?_
      refine lv_iload_n hx hb rd_M_bits_16 rfl (lv_at hl 2 rfl) ?_
      refine ef_callV (As := [.int (iv (0)), .int (iv (0))]) (rest := []) ⟨hx, hb, hml, hown, hts⟩ (r_partOf00 l dC dI ht r) (cwV 2 hts (ef_goodV rm_348 rm_350 rm_13 rm_24 rm_351) rfl rfl rfl (by decide +kernel) ⟨Nat.le_of_ble_eq_true rfl, Nat.le_of_ble_eq_true rfl⟩) hK hNX hP hD hS 0 rfl rfl rfl rfl hl.1 rfl (Nat.le_of_ble_eq_true rfl) rd_M_bits_17 ⟨Nat.zero_le _, Nat.zero_le _⟩ (fun o w1 H locs hq hP hD hS => ?_)
      obtain ⟨rfl, e9⟩ := hq
      rw [e9] at hP hD
      refine W.eq (g2 := F0 m 20 ls [.ref (r 19)]) rfl ?_
      refine ef_callV (As := []) (rest := []) ⟨hx, hb, hml, hown, hts⟩ (b_bits l dC dI ht (isB_c (X := A1) (F := (J 7)) (ws := rC cI r ((V 0)) ((V 1)) ((V 2)) ((V 3)) ((V 4)) ((V 5)) ((V 6)) (A1) (U1) (A2) (U2) ((J 0)) ((J 1)) ((J 2)) ((J 3)) ((J 4)) ((J 5)) ((J 6)) ((J 7)) ((J 8)) ((J 9)) ((J 10)) (pb) (pe) (ob) (oe) (b1) (e1) (b2) (e2)) (k0 := 19) (k1 := 20) (by decide) rfl rfl) kA1.1 kA1.2) (cwV 0 hts (ef_goodV rm_360 rm_361 rm_362 rm_25 rm_363) rfl rfl rfl (by decide +kernel) ⟨Nat.le_of_ble_eq_true rfl, Nat.le_of_ble_eq_true rfl⟩) hK hNX hP hD hS 19 rfl rfl rfl rfl hl.1 rfl (Nat.le_of_ble_eq_true rfl) rd_M_bits_20 ⟨Nat.zero_le _, Nat.zero_le _⟩ (fun o w1 H locs hq hP hD hS => ?_)
      obtain ⟨rfl, e9⟩ := hq
      rw [e9] at hP hD
      refine W.eq (g2 := F0 m 23 ls [.int (iv ((bl (A1) : Int)))]) rfl ?_
      refine lv_goto (tgt := 27) hx hb rd_M_bits_23 (by decide) ?_
      exact ef_iret hx hb hr hlocks hP hD hS rd_M_bits_27 (⟨fun i => [((V 0)), ((V 1)), ((V 2)), ((V 3)), ((V 4)), ((V 5)), ((V 6))].getD i 0, fun i => [((J 0)), ((J 1)), ((J 2)), ((J 3)), ((J 4)), ((J 5)), ((J 6)), ((J 7)), ((J 8)), ((J 9)), ((J 10))].getD i (fun _ => 0), _, _, _, _, rfl, rfl, rJ_of (hJ 0 (by decide)) (hJ 1 (by decide)) (hJ 2 (by decide)) (hJ 3 (by decide)) (hJ 4 (by decide)) (hJ 5 (by decide)) (hJ 6 (by decide)), kA1, kU1, kA2, kU2⟩)

set_option maxRecDepth 100000 in
set_option maxHeartbeats 4000000 in
/-- bits -/
theorem r_bits01 (l : Launch) (dC : Nat → ClassId) (dI : Nat → Nat → Nat) {cI : ClassId} {tys : List (ClassId × FieldType)} (ht : tys[0]? = some (cI, .int)) (r : Nat → Nat) {V : Nat → Nat} {J : Nat → Nat → Nat} {A1 U1 A2 U2 : Nat} {pb pe ob oe b1 e1 b2 e2 : Int} (hJ : rJ V J) (kA1 : bk A1 (J 7)) (kU1 : bk U1 (J 8)) (kA2 : bk A2 (J 9)) (kU2 : bk U2 (J 10)) (mA1 : dn A1 ≤ 300) (mU1 : dn U1 ≤ 300) (mA2 : dn A2 ≤ 300) (mU2 : dn U2 ≤ 300) : ef_C l ry_M_bits rw_M_bits ({ frames := 1, cells := 0, slots := 0, locals := 23 } : Room) [.ref (r 0), .int (iv (0)), .int (iv (1))] (dC, dI) vwCl tys (rC cI r ((V 0)) ((V 1)) ((V 2)) ((V 3)) ((V 4)) ((V 5)) ((V 6)) (A1) (U1) (A2) (U2) ((J 0)) ((J 1)) ((J 2)) ((J 3)) ((J 4)) ((J 5)) ((J 6)) ((J 7)) ((J 8)) ((J 9)) ((J 10)) (pb) (pe) (ob) (oe) (b1) (e1) (b2) (e2)) (fun o w1 => ∃ (V2 : Nat → Nat) (J2 : Nat → Nat → Nat) (pb2 pe2 ob2 oe2 : Int), o = some (.int (iv (bl U1 : Int))) ∧ w1 = rC cI r (V2 0) (V2 1) (V2 2) (V2 3) (V2 4) (V2 5) (V2 6) (A1) (U1) (A2) (U2) (J2 0) (J2 1) (J2 2) (J2 3) (J2 4) (J2 5) (J2 6) (J2 7) (J2 8) (J2 9) (J2 10) (pb2) (pe2) (ob2) (oe2) (b1) (e1) (b2) (e2) ∧ rJ V2 J2 ∧ bk (A1) (J2 7) ∧ bk (U1) (J2 8) ∧ bk (A2) (J2 9) ∧ bk (U2) (J2 10)) := by
  refine ef_C.of (cc := rc_M_bits) (maxL := 3) (ret := (some .int)) (by decide) rfl (Nat.le_of_ble_eq_true rfl) ?_
  intro p e s m below meth c ls hx hb hml hr hts hown hlocks hK hNX hP hD hS hl
  have hl : lv_has ls 3 [(0, .ref (r 0)), (1, .int (iv (0))), (2, .int (iv (1)))] := hl
  have hown : s.vm.findClass rR5 = some m.cls := hown
  generalize hH : s.heap = H at hP ⊢
  have hS : va_S (ef_A (rC cI r ((V 0)) ((V 1)) ((V 2)) ((V 3)) ((V 4)) ((V 5)) ((V 6)) (A1) (U1) (A2) (U2) ((J 0)) ((J 1)) ((J 2)) ((J 3)) ((J 4)) ((J 5)) ((J 6)) ((J 7)) ((J 8)) ((J 9)) ((J 10)) (pb) (pe) (ob) (oe) (b1) (e1) (b2) (e2))) s.heap H [] := by rw [← hH]; exact hS
  generalize ([] : List Loc) = locs at hS ⊢
  refine lv_iload_n hx hb rd_M_bits_0 rfl (lv_at hl 1 rfl) ?_
  refine ef_callS (As := [.int (iv (0))]) (rest := []) ⟨hx, hb, hml, hown, hts⟩ (r_isNumber0 l dC dI ht r) (cwS 1 hts (ef_goodS rm_336 rm_337 rm_24 rm_338) rfl rfl rfl (by decide +kernel) ⟨Nat.le_of_ble_eq_true rfl, Nat.le_of_ble_eq_true rfl⟩) hK hNX hP hD hS rfl hl.1 rfl (Nat.le_of_ble_eq_true rfl) rd_M_bits_1 ⟨Nat.zero_le _, Nat.zero_le _⟩ (fun o w1 H locs hq hP hD hS => ?_)
  obtain ⟨rfl, e9⟩ := hq
  rw [e9] at hP hD
  refine W.eq (g2 := F0 m 4 ls [.int (iv (1))]) rfl ?_
  refine iw_if_eq (tgt := 26) hx hb rd_M_bits_4 (by decide) ⟨by omega, by omega⟩ (fun k1 => ?_) (fun k1 => ?_)
  ·
    exact absurd k1 (by decide)
  ·
    refine lv_iload_n hx hb rd_M_bits_7 rfl (lv_at hl 2 rfl) ?_
    refine ef_callS (As := [.int (iv (1))]) (rest := []) ⟨hx, hb, hml, hown, hts⟩ (r_isNumber1 l dC dI ht r) (cwS 1 hts (ef_goodS rm_336 rm_337 rm_24 rm_338) rfl rfl rfl (by decide +kernel) ⟨Nat.le_of_ble_eq_true rfl, Nat.le_of_ble_eq_true rfl⟩) hK hNX hP hD hS rfl hl.1 rfl (Nat.le_of_ble_eq_true rfl) rd_M_bits_8 ⟨Nat.zero_le _, Nat.zero_le _⟩ (fun o w1 H locs hq hP hD hS => ?_)
    obtain ⟨rfl, e9⟩ := hq
    rw [e9] at hP hD
    refine W.eq (g2 := F0 m 11 ls [.int (iv (1))]) rfl ?_
    refine iw_if_eq (tgt := 26) hx hb rd_M_bits_11 (by decide) ⟨by omega, by omega⟩ (fun k2 => ?_) (fun k2 => ?_)
    ·
      exact absurd k2 (by decide)
    ·
      refine lv_aload_n hx hb rd_M_bits_14 rfl (lv_at hl 0 rfl) ?_
      refine lv_iload_n hx hb rd_M_bits_15 rfl (lv_at hl 1 rfl) ?_
      refine lv_iload_n hx hb rd_M_bits_16 rfl (lv_at hl 2 rfl) ?_
      refine ef_callV (As := [.int (iv (0)), .int (iv (1))]) (rest := []) ⟨hx, hb, hml, hown, hts⟩ (r_partOf01 l dC dI ht r) (cwV 2 hts (ef_goodV rm_348 rm_350 rm_13 rm_24 rm_351) rfl rfl rfl (by decide +kernel) ⟨Nat.le_of_ble_eq_true rfl, Nat.le_of_ble_eq_true rfl⟩) hK hNX hP hD hS 0 rfl rfl rfl rfl hl.1 rfl (Nat.le_of_ble_eq_true rfl) rd_M_bits_17 ⟨Nat.zero_le _, Nat.zero_le _⟩ (fun o w1 H locs hq hP hD hS => ?_)
      obtain ⟨rfl, e9⟩ := hq
      rw [e9] at hP hD
      refine W.eq (g2 := F0 m 20 ls [.ref (r 21)]) rfl ?_
      refine ef_callV (As := []) (rest := []) ⟨hx, hb, hml, hown, hts⟩ (b_bits l dC dI ht (isB_c (X := U1) (F := (J 8)) (ws := rC cI r ((V 0)) ((V 1)) ((V 2)) ((V 3)) ((V 4)) ((V 5)) ((V 6)) (A1) (U1) (A2) (U2) ((J 0)) ((J 1)) ((J 2)) ((J 3)) ((J 4)) ((J 5)) ((J 6)) ((J 7)) ((J 8)) ((J 9)) ((J 10)) (pb) (pe) (ob) (oe) (b1) (e1) (b2) (e2)) (k0 := 21) (k1 := 22) (by decide) rfl rfl) kU1.1 kU1.2) (cwV 0 hts (ef_goodV rm_360 rm_361 rm_362 rm_25 rm_363) rfl rfl rfl (by decide +kernel) ⟨Nat.le_of_ble_eq_true rfl, Nat.le_of_ble_eq_true rfl⟩) hK hNX hP hD hS 21 rfl rfl rfl rfl hl.1 rfl (Nat.le_of_ble_eq_true rfl) rd_M_bits_20 ⟨Nat.zero_le _, Nat.zero_le _⟩ (fun o w1 H locs hq hP hD hS => ?_)
      obtain ⟨rfl, e9⟩ := hq
      rw [e9] at hP hD
      refine W.eq (g2 := F0 m 23 ls [.int (iv ((bl (U1) : Int)))]) rfl ?_
      refine lv_goto (tgt := 27) hx hb rd_M_bits_23 (by decide) ?_
      exact ef_iret hx hb hr hlocks hP hD hS rd_M_bits_27 (⟨fun i => [((V 0)), ((V 1)), ((V 2)), ((V 3)), ((V 4)), ((V 5)), ((V 6))].getD i 0, fun i => [((J 0)), ((J 1)), ((J 2)), ((J 3)), ((J 4)), ((J 5)), ((J 6)), ((J 7)), ((J 8)), ((J 9)), ((J 10))].getD i (fun _ => 0), _, _, _, _, rfl, rfl, rJ_of (hJ 0 (by decide)) (hJ 1 (by decide)) (hJ 2 (by decide)) (hJ 3 (by decide)) (hJ 4 (by decide)) (hJ 5 (by decide)) (hJ 6 (by decide)), kA1, kU1, kA2, kU2⟩)

set_option maxRecDepth 100000 in
set_option maxHeartbeats 4000000 in
/-- bits -/
theorem r_bits10 (l : Launch) (dC : Nat → ClassId) (dI : Nat → Nat → Nat) {cI : ClassId} {tys : List (ClassId × FieldType)} (ht : tys[0]? = some (cI, .int)) (r : Nat → Nat) {V : Nat → Nat} {J : Nat → Nat → Nat} {A1 U1 A2 U2 : Nat} {pb pe ob oe b1 e1 b2 e2 : Int} (hJ : rJ V J) (kA1 : bk A1 (J 7)) (kU1 : bk U1 (J 8)) (kA2 : bk A2 (J 9)) (kU2 : bk U2 (J 10)) (mA1 : dn A1 ≤ 300) (mU1 : dn U1 ≤ 300) (mA2 : dn A2 ≤ 300) (mU2 : dn U2 ≤ 300) : ef_C l ry_M_bits rw_M_bits ({ frames := 1, cells := 0, slots := 0, locals := 23 } : Room) [.ref (r 0), .int (iv (1)), .int (iv (0))] (dC, dI) vwCl tys (rC cI r ((V 0)) ((V 1)) ((V 2)) ((V 3)) ((V 4)) ((V 5)) ((V 6)) (A1) (U1) (A2) (U2) ((J 0)) ((J 1)) ((J 2)) ((J 3)) ((J 4)) ((J 5)) ((J 6)) ((J 7)) ((J 8)) ((J 9)) ((J 10)) (pb) (pe) (ob) (oe) (b1) (e1) (b2) (e2)) (fun o w1 => ∃ (V2 : Nat → Nat) (J2 : Nat → Nat → Nat) (pb2 pe2 ob2 oe2 : Int), o = some (.int (iv (bl A2 : Int))) ∧ w1 = rC cI r (V2 0) (V2 1) (V2 2) (V2 3) (V2 4) (V2 5) (V2 6) (A1) (U1) (A2) (U2) (J2 0) (J2 1) (J2 2) (J2 3) (J2 4) (J2 5) (J2 6) (J2 7) (J2 8) (J2 9) (J2 10) (pb2) (pe2) (ob2) (oe2) (b1) (e1) (b2) (e2) ∧ rJ V2 J2 ∧ bk (A1) (J2 7) ∧ bk (U1) (J2 8) ∧ bk (A2) (J2 9) ∧ bk (U2) (J2 10)) := by
  refine ef_C.of (cc := rc_M_bits) (maxL := 3) (ret := (some .int)) (by decide) rfl (Nat.le_of_ble_eq_true rfl) ?_
  intro p e s m below meth c ls hx hb hml hr hts hown hlocks hK hNX hP hD hS hl
  have hl : lv_has ls 3 [(0, .ref (r 0)), (1, .int (iv (1))), (2, .int (iv (0)))] := hl
  have hown : s.vm.findClass rR5 = some m.cls := hown
  generalize hH : s.heap = H at hP ⊢
  have hS : va_S (ef_A (rC cI r ((V 0)) ((V 1)) ((V 2)) ((V 3)) ((V 4)) ((V 5)) ((V 6)) (A1) (U1) (A2) (U2) ((J 0)) ((J 1)) ((J 2)) ((J 3)) ((J 4)) ((J 5)) ((J 6)) ((J 7)) ((J 8)) ((J 9)) ((J 10)) (pb) (pe) (ob) (oe) (b1) (e1) (b2) (e2))) s.heap H [] := by rw [← hH]; exact hS
  generalize ([] : List Loc) = locs at hS ⊢
  refine lv_iload_n hx hb rd_M_bits_0 rfl (lv_at hl 1 rfl) ?_
  refine ef_callS (As := [.int (iv (1))]) (rest := []) ⟨hx, hb, hml, hown, hts⟩ (r_isNumber1 l dC dI ht r) (cwS 1 hts (ef_goodS rm_336 rm_337 rm_24 rm_338) rfl rfl rfl (by decide +kernel) ⟨Nat.le_of_ble_eq_true rfl, Nat.le_of_ble_eq_true rfl⟩) hK hNX hP hD hS rfl hl.1 rfl (Nat.le_of_ble_eq_true rfl) rd_M_bits_1 ⟨Nat.zero_le _, Nat.zero_le _⟩ (fun o w1 H locs hq hP hD hS => ?_)
  obtain ⟨rfl, e9⟩ := hq
  rw [e9] at hP hD
  refine W.eq (g2 := F0 m 4 ls [.int (iv (1))]) rfl ?_
  refine iw_if_eq (tgt := 26) hx hb rd_M_bits_4 (by decide) ⟨by omega, by omega⟩ (fun k1 => ?_) (fun k1 => ?_)
  ·
    exact absurd k1 (by decide)
  ·
    refine lv_iload_n hx hb rd_M_bits_7 rfl (lv_at hl 2 rfl) ?_
    refine ef_callS (As := [.int (iv (0))]) (rest := []) ⟨hx, hb, hml, hown, hts⟩ (r_isNumber0 l dC dI ht r) (cwS 1 hts (ef_goodS rm_336 rm_337 rm_24 rm_338) rfl rfl rfl (by decide +kernel) ⟨Nat.le_of_ble_eq_true rfl, Nat.le_of_ble_eq_true rfl⟩) hK hNX hP hD hS rfl hl.1 rfl (Nat.le_of_ble_eq_true rfl) rd_M_bits_8 ⟨Nat.zero_le _, Nat.zero_le _⟩ (fun o w1 H locs hq hP hD hS => ?_)
    obtain ⟨rfl, e9⟩ := hq
    rw [e9] at hP hD
    refine W.eq (g2 := F0 m 11 ls [.int (iv (1))]) rfl ?_
    refine iw_if_eq (tgt := 26) hx hb rd_M_bits_11 (by decide) ⟨by omega, by omega⟩ (fun k2 => ?_) (fun k2 => ?_)
    ·
      exact absurd k2 (by decide)
    ·
      refine lv_aload_n hx hb rd_M_bits_14 rfl (lv_at hl 0 rfl) ?_
      refine lv_iload_n hx hb rd_M_bits_15 rfl (lv_at hl 1 rfl) ?_
      refine lv_iload_n hx hb rd_M_bits_16 rfl (lv_at hl 2 rfl) ?_
      refine ef_callV (As := [.int (iv (1)), .int (iv (0))]) (rest := []) ⟨hx, hb, hml, hown, hts⟩ (r_partOf10 l dC dI ht r) (cwV 2 hts (ef_goodV rm_348 rm_350 rm_13 rm_24 rm_351) rfl rfl rfl (by decide +kernel) ⟨Nat.le_of_ble_eq_true rfl, Nat.le_of_ble_eq_true rfl⟩) hK hNX hP hD hS 0 rfl rfl rfl rfl hl.1 rfl (Nat.le_of_ble_eq_true rfl) rd_M_bits_17 ⟨Nat.zero_le _, Nat.zero_le _⟩ (fun o w1 H locs hq hP hD hS => ?_)
      obtain ⟨rfl, e9⟩ := hq
      rw [e9] at hP hD
      refine W.eq (g2 := F0 m 20 ls [.ref (r 23)]) rfl ?_
      refine ef_callV (As := []) (rest := []) ⟨hx, hb, hml, hown, hts⟩ (b_bits l dC dI ht (isB_c (X := A2) (F := (J 9)) (ws := rC cI r ((V 0)) ((V 1)) ((V 2)) ((V 3)) ((V 4)) ((V 5)) ((V 6)) (A1) (U1) (A2) (U2) ((J 0)) ((J 1)) ((J 2)) ((J 3)) ((J 4)) ((J 5)) ((J 6)) ((J 7)) ((J 8)) ((J 9)) ((J 10)) (pb) (pe) (ob) (oe) (b1) (e1) (b2) (e2)) (k0 := 23) (k1 := 24) (by decide) rfl rfl) kA2.1 kA2.2) (cwV 0 hts (ef_goodV rm_360 rm_361 rm_362 rm_25 rm_363) rfl rfl rfl (by decide +kernel) ⟨Nat.le_of_ble_eq_true rfl, Nat.le_of_ble_eq_true rfl⟩) hK hNX hP hD hS 23 rfl rfl rfl rfl hl.1 rfl (Nat.le_of_ble_eq_true rfl) rd_M_bits_20 ⟨Nat.zero_le _, Nat.zero_le _⟩ (fun o w1 H locs hq hP hD hS => ?_)
      obtain ⟨rfl, e9⟩ := hq
      rw [e9] at hP hD
      refine W.eq (g2 := F0 m 23 ls [.int (iv ((bl (A2) : Int)))]) rfl ?_
      refine lv_goto (tgt := 27) hx hb rd_M_bits_23 (by decide) ?_
      exact ef_iret hx hb hr hlocks hP hD hS rd_M_bits_27 (⟨fun i => [((V 0)), ((V 1)), ((V 2)), ((V 3)), ((V 4)), ((V 5)), ((V 6))].getD i 0, fun i => [((J 0)), ((J 1)), ((J 2)), ((J 3)), ((J 4)), ((J 5)), ((J 6)), ((J 7)), ((J 8)), ((J 9)), ((J 10))].getD i (fun _ => 0), _, _, _, _, rfl, rfl, rJ_of (hJ 0 (by decide)) (hJ 1 (by decide)) (hJ 2 (by decide)) (hJ 3 (by decide)) (hJ 4 (by decide)) (hJ 5 (by decide)) (hJ 6 (by decide)), kA1, kU1, kA2, kU2⟩)

set_option maxRecDepth 100000 in
set_option maxHeartbeats 4000000 in
/-- bits -/
theorem r_bits11 (l : Launch) (dC : Nat → ClassId) (dI : Nat → Nat → Nat) {cI : ClassId} {tys : List (ClassId × FieldType)} (ht : tys[0]? = some (cI, .int)) (r : Nat → Nat) {V : Nat → Nat} {J : Nat → Nat → Nat} {A1 U1 A2 U2 : Nat} {pb pe ob oe b1 e1 b2 e2 : Int} (hJ : rJ V J) (kA1 : bk A1 (J 7)) (kU1 : bk U1 (J 8)) (kA2 : bk A2 (J 9)) (kU2 : bk U2 (J 10)) (mA1 : dn A1 ≤ 300) (mU1 : dn U1 ≤ 300) (mA2 : dn A2 ≤ 300) (mU2 : dn U2 ≤ 300) : ef_C l ry_M_bits rw_M_bits ({ frames := 1, cells := 0, slots := 0, locals := 23 } : Room) [.ref (r 0), .int (iv (1)), .int (iv (1))] (dC, dI) vwCl tys (rC cI r ((V 0)) ((V 1)) ((V 2)) ((V 3)) ((V 4)) ((V 5)) ((V 6)) (A1) (U1) (A2) (U2) ((J 0)) ((J 1)) ((J 2)) ((J 3)) ((J 4)) ((J 5)) ((J 6)) ((J 7)) ((J 8)) ((J 9)) ((J 10)) (pb) (pe) (ob) (oe) (b1) (e1) (b2) (e2)) (fun o w1 => ∃ (V2 : Nat → Nat) (J2 : Nat → Nat → Nat) (pb2 pe2 ob2 oe2 : Int), o = some (.int (iv (bl U2 : Int))) ∧ w1 = rC cI r (V2 0) (V2 1) (V2 2) (V2 3) (V2 4) (V2 5) (V2 6) (A1) (U1) (A2) (U2) (J2 0) (J2 1) (J2 2) (J2 3) (J2 4) (J2 5) (J2 6) (J2 7) (J2 8) (J2 9) (J2 10) (pb2) (pe2) (ob2) (oe2) (b1) (e1) (b2) (e2) ∧ rJ V2 J2 ∧ bk (A1) (J2 7) ∧ bk (U1) (J2 8) ∧ bk (A2) (J2 9) ∧ bk (U2) (J2 10)) := by
  refine ef_C.of (cc := rc_M_bits) (maxL := 3) (ret := (some .int)) (by decide) rfl (Nat.le_of_ble_eq_true rfl) ?_
  intro p e s m below meth c ls hx hb hml hr hts hown hlocks hK hNX hP hD hS hl
  have hl : lv_has ls 3 [(0, .ref (r 0)), (1, .int (iv (1))), (2, .int (iv (1)))] := hl
  have hown : s.vm.findClass rR5 = some m.cls := hown
  generalize hH : s.heap = H at hP ⊢
  have hS : va_S (ef_A (rC cI r ((V 0)) ((V 1)) ((V 2)) ((V 3)) ((V 4)) ((V 5)) ((V 6)) (A1) (U1) (A2) (U2) ((J 0)) ((J 1)) ((J 2)) ((J 3)) ((J 4)) ((J 5)) ((J 6)) ((J 7)) ((J 8)) ((J 9)) ((J 10)) (pb) (pe) (ob) (oe) (b1) (e1) (b2) (e2))) s.heap H [] := by rw [← hH]; exact hS
  generalize ([] : List Loc) = locs at hS ⊢
  refine lv_iload_n hx hb rd_M_bits_0 rfl (lv_at hl 1 rfl) ?_
  refine ef_callS (As := [.int (iv (1))]) (rest := []) ⟨hx, hb, hml, hown, hts⟩ (r_isNumber1 l dC dI ht r) (cwS 1 hts (ef_goodS rm_336 rm_337 rm_24 rm_338) rfl rfl rfl (by decide +kernel) ⟨Nat.le_of_ble_eq_true rfl, Nat.le_of_ble_eq_true rfl⟩) hK hNX hP hD hS rfl hl.1 rfl (Nat.le_of_ble_eq_true rfl) rd_M_bits_1 ⟨Nat.zero_le _, Nat.zero_le _⟩ (fun o w1 H locs hq hP hD hS => ?_)
  obtain ⟨rfl, e9⟩ := hq
  rw [e9] at hP hD
  refine W.eq (g2 := F0 m 4 ls [.int (iv (1))]) rfl ?_
  refine iw_if_eq (tgt := 26) hx hb rd_M_bits_4 (by decide) ⟨by omega, by omega⟩ (fun k1 => ?_) (fun k1 => ?_)
  ·
    exact absurd k1 (by decide)
  ·
    refine lv_iload_n hx hb rd_M_bits_7 rfl (lv_at hl 2 rfl) ?_
    refine ef_callS (As := [.int (iv (1))]) (rest := []) ⟨hx, hb, hml, hown, hts⟩ (r_isNumber1 l dC dI ht r) (cwS 1 hts (ef_goodS rm_336 rm_337 rm_24 rm_338) rfl rfl rfl (by decide +kernel) ⟨Nat.le_of_ble_eq_true rfl, Nat.le_of_ble_eq_true rfl⟩) hK hNX hP hD hS rfl hl.1 rfl (Nat.le_of_ble_eq_true rfl) rd_M_bits_8 ⟨Nat.zero_le _, Nat.zero_le _⟩ (fun o w1 H locs hq hP hD hS => ?_)
    obtain ⟨rfl, e9⟩ := hq
    rw [e9] at hP hD
    refine W.eq (g2 := F0 m 11 ls [.int (iv (1))]) rfl ?_
    refine iw_if_eq (tgt := 26) hx hb rd_M_bits_11 (by decide) ⟨by omega, by omega⟩ (fun k2 => ?_) (fun k2 => ?_)
    ·
      exact absurd k2 (by decide)
    ·
      refine lv_aload_n hx hb rd_M_bits_14 rfl (lv_at hl 0 rfl) ?_
      refine lv_iload_n hx hb rd_M_bits_15 rfl (lv_at hl 1 rfl) ?_
      refine lv_iload_n hx hb rd_M_bits_16 rfl (lv_at hl 2 rfl) ?_
      refine ef_callV (As := [.int (iv (1)), .int (iv (1))]) (rest := []) ⟨hx, hb, hml, hown, hts⟩ (r_partOf11 l dC dI ht r) (cwV 2 hts (ef_goodV rm_348 rm_350 rm_13 rm_24 rm_351) rfl rfl rfl (by decide +kernel) ⟨Nat.le_of_ble_eq_true rfl, Nat.le_of_ble_eq_true rfl⟩) hK hNX hP hD hS 0 rfl rfl rfl rfl hl.1 rfl (Nat.le_of_ble_eq_true rfl) rd_M_bits_17 ⟨Nat.zero_le _, Nat.zero_le _⟩ (fun o w1 H locs hq hP hD hS => ?_)
      obtain ⟨rfl, e9⟩ := hq
      rw [e9] at hP hD
      refine W.eq (g2 := F0 m 20 ls [.ref (r 25)]) rfl ?_
      refine ef_callV (As := []) (rest := []) ⟨hx, hb, hml, hown, hts⟩ (b_bits l dC dI ht (isB_c (X := U2) (F := (J 10)) (ws := rC cI r ((V 0)) ((V 1)) ((V 2)) ((V 3)) ((V 4)) ((V 5)) ((V 6)) (A1) (U1) (A2) (U2) ((J 0)) ((J 1)) ((J 2)) ((J 3)) ((J 4)) ((J 5)) ((J 6)) ((J 7)) ((J 8)) ((J 9)) ((J 10)) (pb) (pe) (ob) (oe) (b1) (e1) (b2) (e2)) (k0 := 25) (k1 := 26) (by decide) rfl rfl) kU2.1 kU2.2) (cwV 0 hts (ef_goodV rm_360 rm_361 rm_362 rm_25 rm_363) rfl rfl rfl (by decide +kernel) ⟨Nat.le_of_ble_eq_true rfl, Nat.le_of_ble_eq_true rfl⟩) hK hNX hP hD hS 25 rfl rfl rfl rfl hl.1 rfl (Nat.le_of_ble_eq_true rfl) rd_M_bits_20 ⟨Nat.zero_le _, Nat.zero_le _⟩ (fun o w1 H locs hq hP hD hS => ?_)
      obtain ⟨rfl, e9⟩ := hq
      rw [e9] at hP hD
      refine W.eq (g2 := F0 m 23 ls [.int (iv ((bl (U2) : Int)))]) rfl ?_
      refine lv_goto (tgt := 27) hx hb rd_M_bits_23 (by decide) ?_
      exact ef_iret hx hb hr hlocks hP hD hS rd_M_bits_27 (⟨fun i => [((V 0)), ((V 1)), ((V 2)), ((V 3)), ((V 4)), ((V 5)), ((V 6))].getD i 0, fun i => [((J 0)), ((J 1)), ((J 2)), ((J 3)), ((J 4)), ((J 5)), ((J 6)), ((J 7)), ((J 8)), ((J 9)), ((J 10))].getD i (fun _ => 0), _, _, _, _, rfl, rfl, rJ_of (hJ 0 (by decide)) (hJ 1 (by decide)) (hJ 2 (by decide)) (hJ 3 (by decide)) (hJ 4 (by decide)) (hJ 5 (by decide)) (hJ 6 (by decide)), kA1, kU1, kA2, kU2⟩)

set_option maxRecDepth 100000 in
set_option maxHeartbeats 4000000 in
/-- bits of no part -/
theorem r_bits0x (l : Launch) (dC : Nat → ClassId) (dI : Nat → Nat → Nat) {cI : ClassId} {tys : List (ClassId × FieldType)} (ht : tys[0]? = some (cI, .int)) (r : Nat → Nat) {V : Nat → Nat} {J : Nat → Nat → Nat} {A1 U1 A2 U2 : Nat} {pb pe ob oe b1 e1 b2 e2 : Int} (hJ : rJ V J) (kA1 : bk A1 (J 7)) (kU1 : bk U1 (J 8)) (kA2 : bk A2 (J 9)) (kU2 : bk U2 (J 10)) (mA1 : dn A1 ≤ 300) (mU1 : dn U1 ≤ 300) (mA2 : dn A2 ≤ 300) (mU2 : dn U2 ≤ 300) (z : Int) (hz : ir z) (hz0 : z ≠ 0) (hz1 : z ≠ 1) : ef_C l ry_M_bits rw_M_bits ({ frames := 1, cells := 0, slots := 0, locals := 23 } : Room) [.ref (r 0), .int (iv (0)), .int (iv (z))] (dC, dI) vwCl tys (rC cI r ((V 0)) ((V 1)) ((V 2)) ((V 3)) ((V 4)) ((V 5)) ((V 6)) (A1) (U1) (A2) (U2) ((J 0)) ((J 1)) ((J 2)) ((J 3)) ((J 4)) ((J 5)) ((J 6)) ((J 7)) ((J 8)) ((J 9)) ((J 10)) (pb) (pe) (ob) (oe) (b1) (e1) (b2) (e2)) (fun o w1 => ∃ (V2 : Nat → Nat) (J2 : Nat → Nat → Nat) (pb2 pe2 ob2 oe2 : Int), o = some (.int (iv (-1))) ∧ w1 = rC cI r (V2 0) (V2 1) (V2 2) (V2 3) (V2 4) (V2 5) (V2 6) (A1) (U1) (A2) (U2) (J2 0) (J2 1) (J2 2) (J2 3) (J2 4) (J2 5) (J2 6) (J2 7) (J2 8) (J2 9) (J2 10) (pb2) (pe2) (ob2) (oe2) (b1) (e1) (b2) (e2) ∧ rJ V2 J2 ∧ bk (A1) (J2 7) ∧ bk (U1) (J2 8) ∧ bk (A2) (J2 9) ∧ bk (U2) (J2 10)) := by
  refine ef_C.of (cc := rc_M_bits) (maxL := 3) (ret := (some .int)) (by decide) rfl (Nat.le_of_ble_eq_true rfl) ?_
  intro p e s m below meth c ls hx hb hml hr hts hown hlocks hK hNX hP hD hS hl
  have hl : lv_has ls 3 [(0, .ref (r 0)), (1, .int (iv (0))), (2, .int (iv (z)))] := hl
  have hown : s.vm.findClass rR5 = some m.cls := hown
  generalize hH : s.heap = H at hP ⊢
  have hS : va_S (ef_A (rC cI r ((V 0)) ((V 1)) ((V 2)) ((V 3)) ((V 4)) ((V 5)) ((V 6)) (A1) (U1) (A2) (U2) ((J 0)) ((J 1)) ((J 2)) ((J 3)) ((J 4)) ((J 5)) ((J 6)) ((J 7)) ((J 8)) ((J 9)) ((J 10)) (pb) (pe) (ob) (oe) (b1) (e1) (b2) (e2))) s.heap H [] := by rw [← hH]; exact hS
  generalize ([] : List Loc) = locs at hS ⊢
  refine lv_iload_n hx hb rd_M_bits_0 rfl (lv_at hl 1 rfl) ?_
  refine ef_callS (As := [.int (iv (0))]) (rest := []) ⟨hx, hb, hml, hown, hts⟩ (r_isNumber0 l dC dI ht r) (cwS 1 hts (ef_goodS rm_336 rm_337 rm_24 rm_338) rfl rfl rfl (by decide +kernel) ⟨Nat.le_of_ble_eq_true rfl, Nat.le_of_ble_eq_true rfl⟩) hK hNX hP hD hS rfl hl.1 rfl (Nat.le_of_ble_eq_true rfl) rd_M_bits_1 ⟨Nat.zero_le _, Nat.zero_le _⟩ (fun o w1 H locs hq hP hD hS => ?_)
  obtain ⟨rfl, e9⟩ := hq
  rw [e9] at hP hD
  refine W.eq (g2 := F0 m 4 ls [.int (iv (1))]) rfl ?_
  refine iw_if_eq (tgt := 26) hx hb rd_M_bits_4 (by decide) ⟨by omega, by omega⟩ (fun k1 => ?_) (fun k1 => ?_)
  ·
    exact absurd k1 (by decide)
  ·
    refine lv_iload_n hx hb rd_M_bits_7 rfl (lv_at hl 2 rfl) ?_
    refine ef_callS (As := [.int (iv (z))]) (rest := []) ⟨hx, hb, hml, hown, hts⟩ (r_isNumberx l dC dI ht r z hz hz0 hz1) (cwS 1 hts (ef_goodS rm_336 rm_337 rm_24 rm_338) rfl rfl rfl (by decide +kernel) ⟨Nat.le_of_ble_eq_true rfl, Nat.le_of_ble_eq_true rfl⟩) hK hNX hP hD hS rfl hl.1 rfl (Nat.le_of_ble_eq_true rfl) rd_M_bits_8 ⟨Nat.zero_le _, Nat.zero_le _⟩ (fun o w1 H locs hq hP hD hS => ?_)
    obtain ⟨rfl, e9⟩ := hq
    rw [e9] at hP hD
    refine W.eq (g2 := F0 m 11 ls [.int (iv (0))]) rfl ?_
    refine iw_if_eq (tgt := 26) hx hb rd_M_bits_11 (by decide) ⟨by omega, by omega⟩ (fun k2 => ?_) (fun k2 => ?_)
    ·
      refine lv_iconst (v := iv (-1)) hx hb rd_M_bits_26 (by decide) ?_
      exact ef_iret hx hb hr hlocks hP hD hS rd_M_bits_27 (⟨fun i => [((V 0)), ((V 1)), ((V 2)), ((V 3)), ((V 4)), ((V 5)), ((V 6))].getD i 0, fun i => [((J 0)), ((J 1)), ((J 2)), ((J 3)), ((J 4)), ((J 5)), ((J 6)), ((J 7)), ((J 8)), ((J 9)), ((J 10))].getD i (fun _ => 0), _, _, _, _, rfl, rfl, rJ_of (hJ 0 (by decide)) (hJ 1 (by decide)) (hJ 2 (by decide)) (hJ 3 (by decide)) (hJ 4 (by decide)) (hJ 5 (by decide)) (hJ 6 (by decide)), kA1, kU1, kA2, kU2⟩)
    ·
      exact absurd rfl k2

set_option maxRecDepth 100000 in
set_option maxHeartbeats 4000000 in
/-- bits of no part -/
theorem r_bits1x (l : Launch) (dC : Nat → ClassId) (dI : Nat → Nat → Nat) {cI : ClassId} {tys : List (ClassId × FieldType)} (ht : tys[0]? = some (cI, .int)) (r : Nat → Nat) {V : Nat → Nat} {J : Nat → Nat → Nat} {A1 U1 A2 U2 : Nat} {pb pe ob oe b1 e1 b2 e2 : Int} (hJ : rJ V J) (kA1 : bk A1 (J 7)) (kU1 : bk U1 (J 8)) (kA2 : bk A2 (J 9)) (kU2 : bk U2 (J 10)) (mA1 : dn A1 ≤ 300) (mU1 : dn U1 ≤ 300) (mA2 : dn A2 ≤ 300) (mU2 : dn U2 ≤ 300) (z : Int) (hz : ir z) (hz0 : z ≠ 0) (hz1 : z ≠ 1) : ef_C l ry_M_bits rw_M_bits ({ frames := 1, cells := 0, slots := 0, locals := 23 } : Room) [.ref (r 0), .int (iv (1)), .int (iv (z))] (dC, dI) vwCl tys (rC cI r ((V 0)) ((V 1)) ((V 2)) ((V 3)) ((V 4)) ((V 5)) ((V 6)) (A1) (U1) (A2) (U2) ((J 0)) ((J 1)) ((J 2)) ((J 3)) ((J 4)) ((J 5)) ((J 6)) ((J 7)) ((J 8)) ((J 9)) ((J 10)) (pb) (pe) (ob) (oe) (b1) (e1) (b2) (e2)) (fun o w1 => ∃ (V2 : Nat → Nat) (J2 : Nat → Nat → Nat) (pb2 pe2 ob2 oe2 : Int), o = some (.int (iv (-1))) ∧ w1 = rC cI r (V2 0) (V2 1) (V2 2) (V2 3) (V2 4) (V2 5) (V2 6) (A1) (U1) (A2) (U2) (J2 0) (J2 1) (J2 2) (J2 3) (J2 4) (J2 5) (J2 6) (J2 7) (J2 8) (J2 9) (J2 10) (pb2) (pe2) (ob2) (oe2) (b1) (e1) (b2) (e2) ∧ rJ V2 J2 ∧ bk (A1) (J2 7) ∧ bk (U1) (J2 8) ∧ bk (A2) (J2 9) ∧ bk (U2) (J2 10)) := by
  refine ef_C.of (cc := rc_M_bits) (maxL := 3) (ret := (some .int)) (by decide) rfl (Nat.le_of_ble_eq_true rfl) ?_
  intro p e s m below meth c ls hx hb hml hr hts hown hlocks hK hNX hP hD hS hl
  have hl : lv_has ls 3 [(0, .ref (r 0)), (1, .int (iv (1))), (2, .int (iv (z)))] := hl
  have hown : s.vm.findClass rR5 = some m.cls := hown
  generalize hH : s.heap = H at hP ⊢
  have hS : va_S (ef_A (rC cI r ((V 0)) ((V 1)) ((V 2)) ((V 3)) ((V 4)) ((V 5)) ((V 6)) (A1) (U1) (A2) (U2) ((J 0)) ((J 1)) ((J 2)) ((J 3)) ((J 4)) ((J 5)) ((J 6)) ((J 7)) ((J 8)) ((J 9)) ((J 10)) (pb) (pe) (ob) (oe) (b1) (e1) (b2) (e2))) s.heap H [] := by rw [← hH]; exact hS
  generalize ([] : List Loc) = locs at hS ⊢
  refine lv_iload_n hx hb rd_M_bits_0 rfl (lv_at hl 1 rfl) ?_
  refine ef_callS (As := [.int (iv (1))]) (rest := []) ⟨hx, hb, hml, hown, hts⟩ (r_isNumber1 l dC dI ht r) (cwS 1 hts (ef_goodS rm_336 rm_337 rm_24 rm_338) rfl rfl rfl (by decide +kernel) ⟨Nat.le_of_ble_eq_true rfl, Nat.le_of_ble_eq_true rfl⟩) hK hNX hP hD hS rfl hl.1 rfl (Nat.le_of_ble_eq_true rfl) rd_M_bits_1 ⟨Nat.zero_le _, Nat.zero_le _⟩ (fun o w1 H locs hq hP hD hS => ?_)
  obtain ⟨rfl, e9⟩ := hq
  rw [e9] at hP hD
  refine W.eq (g2 := F0 m 4 ls [.int (iv (1))]) rfl ?_
  refine iw_if_eq (tgt := 26) hx hb rd_M_bits_4 (by decide) ⟨by omega, by omega⟩ (fun k1 => ?_) (fun k1 => ?_)
  ·
    exact absurd k1 (by decide)
  ·
    refine lv_iload_n hx hb rd_M_bits_7 rfl (lv_at hl 2 rfl) ?_
    refine ef_callS (As := [.int (iv (z))]) (rest := []) ⟨hx, hb, hml, hown, hts⟩ (r_isNumberx l dC dI ht r z hz hz0 hz1) (cwS 1 hts (ef_goodS rm_336 rm_337 rm_24 rm_338) rfl rfl rfl (by decide +kernel) ⟨Nat.le_of_ble_eq_true rfl, Nat.le_of_ble_eq_true rfl⟩) hK hNX hP hD hS rfl hl.1 rfl (Nat.le_of_ble_eq_true rfl) rd_M_bits_8 ⟨Nat.zero_le _, Nat.zero_le _⟩ (fun o w1 H locs hq hP hD hS => ?_)
    obtain ⟨rfl, e9⟩ := hq
    rw [e9] at hP hD
    refine W.eq (g2 := F0 m 11 ls [.int (iv (0))]) rfl ?_
    refine iw_if_eq (tgt := 26) hx hb rd_M_bits_11 (by decide) ⟨by omega, by omega⟩ (fun k2 => ?_) (fun k2 => ?_)
    ·
      refine lv_iconst (v := iv (-1)) hx hb rd_M_bits_26 (by decide) ?_
      exact ef_iret hx hb hr hlocks hP hD hS rd_M_bits_27 (⟨fun i => [((V 0)), ((V 1)), ((V 2)), ((V 3)), ((V 4)), ((V 5)), ((V 6))].getD i 0, fun i => [((J 0)), ((J 1)), ((J 2)), ((J 3)), ((J 4)), ((J 5)), ((J 6)), ((J 7)), ((J 8)), ((J 9)), ((J 10))].getD i (fun _ => 0), _, _, _, _, rfl, rfl, rJ_of (hJ 0 (by decide)) (hJ 1 (by decide)) (hJ 2 (by decide)) (hJ 3 (by decide)) (hJ 4 (by decide)) (hJ 5 (by decide)) (hJ 6 (by decide)), kA1, kU1, kA2, kU2⟩)
    ·
      exact absurd rfl k2

set_option maxRecDepth 100000 in
set_option maxHeartbeats 4000000 in
/-- bits of no part -/
theorem r_bitsxx (l : Launch) (dC : Nat → ClassId) (dI : Nat → Nat → Nat) {cI : ClassId} {tys : List (ClassId × FieldType)} (ht : tys[0]? = some (cI, .int)) (r : Nat → Nat) {V : Nat → Nat} {J : Nat → Nat → Nat} {A1 U1 A2 U2 : Nat} {pb pe ob oe b1 e1 b2 e2 : Int} (hJ : rJ V J) (kA1 : bk A1 (J 7)) (kU1 : bk U1 (J 8)) (kA2 : bk A2 (J 9)) (kU2 : bk U2 (J 10)) (mA1 : dn A1 ≤ 300) (mU1 : dn U1 ≤ 300) (mA2 : dn A2 ≤ 300) (mU2 : dn U2 ≤ 300) (z y : Int) (hz : ir z) (hz0 : z ≠ 0) (hz1 : z ≠ 1) : ef_C l ry_M_bits rw_M_bits ({ frames := 1, cells := 0, slots := 0, locals := 23 } : Room) [.ref (r 0), .int (iv (z)), .int (iv (y))] (dC, dI) vwCl tys (rC cI r ((V 0)) ((V 1)) ((V 2)) ((V 3)) ((V 4)) ((V 5)) ((V 6)) (A1) (U1) (A2) (U2) ((J 0)) ((J 1)) ((J 2)) ((J 3)) ((J 4)) ((J 5)) ((J 6)) ((J 7)) ((J 8)) ((J 9)) ((J 10)) (pb) (pe) (ob) (oe) (b1) (e1) (b2) (e2)) (fun o w1 => ∃ (V2 : Nat → Nat) (J2 : Nat → Nat → Nat) (pb2 pe2 ob2 oe2 : Int), o = some (.int (iv (-1))) ∧ w1 = rC cI r (V2 0) (V2 1) (V2 2) (V2 3) (V2 4) (V2 5) (V2 6) (A1) (U1) (A2) (U2) (J2 0) (J2 1) (J2 2) (J2 3) (J2 4) (J2 5) (J2 6) (J2 7) (J2 8) (J2 9) (J2 10) (pb2) (pe2) (ob2) (oe2) (b1) (e1) (b2) (e2) ∧ rJ V2 J2 ∧ bk (A1) (J2 7) ∧ bk (U1) (J2 8) ∧ bk (A2) (J2 9) ∧ bk (U2) (J2 10)) := by
  refine ef_C.of (cc := rc_M_bits) (maxL := 3) (ret := (some .int)) (by decide) rfl (Nat.le_of_ble_eq_true rfl) ?_
  intro p e s m below meth c ls hx hb hml hr hts hown hlocks hK hNX hP hD hS hl
  have hl : lv_has ls 3 [(0, .ref (r 0)), (1, .int (iv (z))), (2, .int (iv (y)))] := hl
  have hown : s.vm.findClass rR5 = some m.cls := hown
  generalize hH : s.heap = H at hP ⊢
  have hS : va_S (ef_A (rC cI r ((V 0)) ((V 1)) ((V 2)) ((V 3)) ((V 4)) ((V 5)) ((V 6)) (A1) (U1) (A2) (U2) ((J 0)) ((J 1)) ((J 2)) ((J 3)) ((J 4)) ((J 5)) ((J 6)) ((J 7)) ((J 8)) ((J 9)) ((J 10)) (pb) (pe) (ob) (oe) (b1) (e1) (b2) (e2))) s.heap H [] := by rw [← hH]; exact hS
  generalize ([] : List Loc) = locs at hS ⊢
  refine lv_iload_n hx hb rd_M_bits_0 rfl (lv_at hl 1 rfl) ?_
  refine ef_callS (As := [.int (iv (z))]) (rest := []) ⟨hx, hb, hml, hown, hts⟩ (r_isNumberx l dC dI ht r z hz hz0 hz1) (cwS 1 hts (ef_goodS rm_336 rm_337 rm_24 rm_338) rfl rfl rfl (by decide +kernel) ⟨Nat.le_of_ble_eq_true rfl, Nat.le_of_ble_eq_true rfl⟩) hK hNX hP hD hS rfl hl.1 rfl (Nat.le_of_ble_eq_true rfl) rd_M_bits_1 ⟨Nat.zero_le _, Nat.zero_le _⟩ (fun o w1 H locs hq hP hD hS => ?_)
  obtain ⟨rfl, e9⟩ := hq
  rw [e9] at hP hD
  refine W.eq (g2 := F0 m 4 ls [.int (iv (0))]) rfl ?_
  refine iw_if_eq (tgt := 26) hx hb rd_M_bits_4 (by decide) ⟨by omega, by omega⟩ (fun k1 => ?_) (fun k1 => ?_)
  ·
    refine lv_iconst (v := iv (-1)) hx hb rd_M_bits_26 (by decide) ?_
    exact ef_iret hx hb hr hlocks hP hD hS rd_M_bits_27 (⟨fun i => [((V 0)), ((V 1)), ((V 2)), ((V 3)), ((V 4)), ((V 5)), ((V 6))].getD i 0, fun i => [((J 0)), ((J 1)), ((J 2)), ((J 3)), ((J 4)), ((J 5)), ((J 6)), ((J 7)), ((J 8)), ((J 9)), ((J 10))].getD i (fun _ => 0), _, _, _, _, rfl, rfl, rJ_of (hJ 0 (by decide)) (hJ 1 (by decide)) (hJ 2 (by decide)) (hJ 3 (by decide)) (hJ 4 (by decide)) (hJ 5 (by decide)) (hJ 6 (by decide)), kA1, kU1, kA2, kU2⟩)
  ·
    exact absurd rfl k1

set_option maxRecDepth 100000 in
set_option maxHeartbeats 4000000 in
/-- set -/
theorem r_mset00 (l : Launch) (dC : Nat → ClassId) (dI : Nat → Nat → Nat) {cI : ClassId} {tys : List (ClassId × FieldType)} (ht : tys[0]? = some (cI, .int)) (r : Nat → Nat) {V : Nat → Nat} {J : Nat → Nat → Nat} {A1 U1 A2 U2 : Nat} {pb pe ob oe b1 e1 b2 e2 : Int} (hJ : rJ V J) (kA1 : bk A1 (J 7)) (kU1 : bk U1 (J 8)) (kA2 : bk A2 (J 9)) (kU2 : bk U2 (J 10)) (mA1 : dn A1 ≤ 300) (mU1 : dn U1 ≤ 300) (mA2 : dn A2 ≤ 300) (mU2 : dn U2 ≤ 300) (v : Nat) (hv : v < 18446744073709551616) : ef_C l ry_M_set rw_M_set ({ frames := 1, cells := 0, slots := 0, locals := 24 } : Room) [.ref (r 0), .int (iv (0)), .int (iv (0)), .long (jv ((v : Int)))] (dC, dI) vwCl tys (rC cI r ((V 0)) ((V 1)) ((V 2)) ((V 3)) ((V 4)) ((V 5)) ((V 6)) (A1) (U1) (A2) (U2) ((J 0)) ((J 1)) ((J 2)) ((J 3)) ((J 4)) ((J 5)) ((J 6)) ((J 7)) ((J 8)) ((J 9)) ((J 10)) (pb) (pe) (ob) (oe) (b1) (e1) (b2) (e2)) (fun o w1 => ∃ (V2 : Nat → Nat) (J2 : Nat → Nat → Nat) (pb2 pe2 ob2 oe2 : Int), o = some (.int (iv (bl v : Int))) ∧ w1 = rC cI r (V2 0) (V2 1) (V2 2) (V2 3) (V2 4) (V2 5) (V2 6) (v) (U1) (A2) (U2) (J2 0) (J2 1) (J2 2) (J2 3) (J2 4) (J2 5) (J2 6) (J2 7) (J2 8) (J2 9) (J2 10) (pb2) (pe2) (ob2) (oe2) (b1) (e1) (b2) (e2) ∧ rJ V2 J2 ∧ bk (v) (J2 7) ∧ bk (U1) (J2 8) ∧ bk (A2) (J2 9) ∧ bk (U2) (J2 10)) := by
  refine ef_C.of (cc := rc_M_set) (maxL := 6) (ret := (some .int)) (by decide) rfl (Nat.le_of_ble_eq_true rfl) ?_
  intro p e s m below meth c ls hx hb hml hr hts hown hlocks hK hNX hP hD hS hl
  have hl : lv_has ls 6 [(0, .ref (r 0)), (1, .int (iv (0))), (2, .int (iv (0))), (3, .long (jv ((v : Int))))] := hl
  have hown : s.vm.findClass rR5 = some m.cls := hown
  generalize hH : s.heap = H at hP ⊢
  have hS : va_S (ef_A (rC cI r ((V 0)) ((V 1)) ((V 2)) ((V 3)) ((V 4)) ((V 5)) ((V 6)) (A1) (U1) (A2) (U2) ((J 0)) ((J 1)) ((J 2)) ((J 3)) ((J 4)) ((J 5)) ((J 6)) ((J 7)) ((J 8)) ((J 9)) ((J 10)) (pb) (pe) (ob) (oe) (b1) (e1) (b2) (e2))) s.heap H [] := by rw [← hH]; exact hS
  generalize ([] : List Loc) = locs at hS ⊢
  refine lv_iload_n hx hb rd_M_set_0 rfl (lv_at hl 1 rfl) ?_
  refine ef_callS (As := [.int (iv (0))]) (rest := []) ⟨hx, hb, hml, hown, hts⟩ (r_isNumber0 l dC dI ht r) (cwS 1 hts (ef_goodS rm_336 rm_337 rm_24 rm_338) rfl rfl rfl (by decide +kernel) ⟨Nat.le_of_ble_eq_true rfl, Nat.le_of_ble_eq_true rfl⟩) hK hNX hP hD hS rfl hl.1 rfl (Nat.le_of_ble_eq_true rfl) rd_M_set_1 ⟨Nat.zero_le _, Nat.zero_le _⟩ (fun o w1 H locs hq hP hD hS => ?_)
  obtain ⟨rfl, e9⟩ := hq
  rw [e9] at hP hD
  refine W.eq (g2 := F0 m 4 ls [.int (iv (1))]) rfl ?_
  refine iw_if_eq (tgt := 14) hx hb rd_M_set_4 (by decide) ⟨by omega, by omega⟩ (fun k1 => ?_) (fun k1 => ?_)
  ·
    exact absurd k1 (by decide)
  ·
    refine lv_iload_n hx hb rd_M_set_7 rfl (lv_at hl 2 rfl) ?_
    refine ef_callS (As := [.int (iv (0))]) (rest := []) ⟨hx, hb, hml, hown, hts⟩ (r_isNumber0 l dC dI ht r) (cwS 1 hts (ef_goodS rm_336 rm_337 rm_24 rm_338) rfl rfl rfl (by decide +kernel) ⟨Nat.le_of_ble_eq_true rfl, Nat.le_of_ble_eq_true rfl⟩) hK hNX hP hD hS rfl hl.1 rfl (Nat.le_of_ble_eq_true rfl) rd_M_set_8 ⟨Nat.zero_le _, Nat.zero_le _⟩ (fun o w1 H locs hq hP hD hS => ?_)
    obtain ⟨rfl, e9⟩ := hq
    rw [e9] at hP hD
    refine W.eq (g2 := F0 m 11 ls [.int (iv (1))]) rfl ?_
    refine iw_if_ne (tgt := 16) hx hb rd_M_set_11 (by decide) ⟨by omega, by omega⟩ (fun k2 => ?_) (fun k2 => ?_)
    ·
      refine lv_iload_n hx hb rd_M_set_16 rfl (lv_at hl 2 rfl) ?_
      refine lv_iconst (v := iv (1)) hx hb rd_M_set_17 (by decide) ?_
      refine iw_icmp_ne (tgt := 30) hx hb rd_M_set_18 (by decide) ⟨by omega, by omega⟩ ⟨by omega, by omega⟩ (fun c1 => ?_) (fun c1 => ?_)
      ·
        refine lv_aload_n hx hb rd_M_set_30 rfl (lv_at hl 0 rfl) ?_
        refine lv_iload_n hx hb rd_M_set_31 rfl (lv_at hl 1 rfl) ?_
        refine lv_iload_n hx hb rd_M_set_32 rfl (lv_at hl 2 rfl) ?_
        refine ef_callV (As := [.int (iv (0)), .int (iv (0))]) (rest := []) ⟨hx, hb, hml, hown, hts⟩ (r_partOf00 l dC dI ht r) (cwV 2 hts (ef_goodV rm_348 rm_350 rm_13 rm_24 rm_351) rfl rfl rfl (by decide +kernel) ⟨Nat.le_of_ble_eq_true rfl, Nat.le_of_ble_eq_true rfl⟩) hK hNX hP hD hS 0 rfl rfl rfl rfl hl.1 rfl (Nat.le_of_ble_eq_true rfl) rd_M_set_33 ⟨Nat.zero_le _, Nat.zero_le _⟩ (fun o w1 H locs hq hP hD hS => ?_)
        obtain ⟨rfl, e9⟩ := hq
        rw [e9] at hP hD
        refine W.eq (g2 := F0 m 36 ls [.ref (r 19)]) rfl ?_
        refine lv_astore (lv' := [(5, .ref (r 19)), (0, .ref (r 0)), (1, .int (iv (0))), (2, .int (iv (0))), (3, .long (jv ((v : Int))))]) hx hb rd_M_set_36 hl (by decide) rfl (fun ls hl => ?_)
        refine lv_aload hx hb rd_M_set_38 (lv_at hl 0 rfl) ?_
        refine lv_lload_n hx hb rd_M_set_40 rfl (lv_at hl 4 rfl) ?_
        refine ef_callV (As := [.long (jv ((v : Int)))]) (rest := []) ⟨hx, hb, hml, hown, hts⟩ (b_set l dC dI ht (isB_c (X := A1) (F := (J 7)) (ws := rC cI r ((V 0)) ((V 1)) ((V 2)) ((V 3)) ((V 4)) ((V 5)) ((V 6)) (A1) (U1) (A2) (U2) ((J 0)) ((J 1)) ((J 2)) ((J 3)) ((J 4)) ((J 5)) ((J 6)) ((J 7)) ((J 8)) ((J 9)) ((J 10)) (pb) (pe) (ob) (oe) (b1) (e1) (b2) (e2)) (k0 := 19) (k1 := 20) (by decide) rfl rfl) v hv) (cwV 1 hts (ef_goodV rm_368 rm_306 rm_307 rm_25 rm_308) rfl rfl rfl (by decide +kernel) ⟨Nat.le_of_ble_eq_true rfl, Nat.le_of_ble_eq_true rfl⟩) hK hNX hP hD hS 19 rfl rfl rfl rfl hl.1 rfl (Nat.le_of_ble_eq_true rfl) rd_M_set_41 ⟨Nat.zero_le _, Nat.zero_le _⟩ (fun o w1 H locs hq hP hD hS => ?_)
        obtain ⟨rfl, g_1, rfl, hg_2⟩ := hq
        have hP : va_P (dC, dI) vwCl (rC cI r ((V 0)) ((V 1)) ((V 2)) ((V 3)) ((V 4)) ((V 5)) ((V 6)) (v) (U1) (A2) (U2) ((J 0)) ((J 1)) ((J 2)) ((J 3)) ((J 4)) ((J 5)) ((J 6)) (g_1) ((J 8)) ((J 9)) ((J 10)) (pb) (pe) (ob) (oe) (b1) (e1) (b2) (e2)) H := hP
        have hD : va_D (ef_A (rC cI r ((V 0)) ((V 1)) ((V 2)) ((V 3)) ((V 4)) ((V 5)) ((V 6)) (A1) (U1) (A2) (U2) ((J 0)) ((J 1)) ((J 2)) ((J 3)) ((J 4)) ((J 5)) ((J 6)) ((J 7)) ((J 8)) ((J 9)) ((J 10)) (pb) (pe) (ob) (oe) (b1) (e1) (b2) (e2))) (rC cI r ((V 0)) ((V 1)) ((V 2)) ((V 3)) ((V 4)) ((V 5)) ((V 6)) (v) (U1) (A2) (U2) ((J 0)) ((J 1)) ((J 2)) ((J 3)) ((J 4)) ((J 5)) ((J 6)) (g_1) ((J 8)) ((J 9)) ((J 10)) (pb) (pe) (ob) (oe) (b1) (e1) (b2) (e2)) := hD
        have hg_2 : bk (v) g_1 := ⟨hg_2, Nat.le_trans (dn_le (k := 4) (by show v < 2 ^ (16 * 4); omega)) (by decide)⟩
        refine W.eq (g2 := F0 m 44 ls []) rfl ?_
        refine lv_aload hx hb rd_M_set_44 (lv_at hl 0 rfl) ?_
        refine ef_callV (As := []) (rest := []) ⟨hx, hb, hml, hown, hts⟩ (b_bits l dC dI ht (isB_c (X := v) (F := g_1) (ws := rC cI r ((V 0)) ((V 1)) ((V 2)) ((V 3)) ((V 4)) ((V 5)) ((V 6)) (v) (U1) (A2) (U2) ((J 0)) ((J 1)) ((J 2)) ((J 3)) ((J 4)) ((J 5)) ((J 6)) (g_1) ((J 8)) ((J 9)) ((J 10)) (pb) (pe) (ob) (oe) (b1) (e1) (b2) (e2)) (k0 := 19) (k1 := 20) (by decide) rfl rfl) hg_2.1 hg_2.2) (cwV 0 hts (ef_goodV rm_360 rm_361 rm_362 rm_25 rm_363) rfl rfl rfl (by decide +kernel) ⟨Nat.le_of_ble_eq_true rfl, Nat.le_of_ble_eq_true rfl⟩) hK hNX hP hD hS 19 rfl rfl rfl rfl hl.1 rfl (Nat.le_of_ble_eq_true rfl) rd_M_set_46 ⟨Nat.zero_le _, Nat.zero_le _⟩ (fun o w1 H locs hq hP hD hS => ?_)
        obtain ⟨rfl, e9⟩ := hq
        rw [e9] at hP hD
        refine W.eq (g2 := F0 m 49 ls [.int (iv ((bl (v) : Int)))]) rfl ?_
        exact ef_iret hx hb hr hlocks hP hD hS rd_M_set_49 (⟨fun i => [((V 0)), ((V 1)), ((V 2)), ((V 3)), ((V 4)), ((V 5)), ((V 6))].getD i 0, fun i => [((J 0)), ((J 1)), ((J 2)), ((J 3)), ((J 4)), ((J 5)), ((J 6)), (g_1), ((J 8)), ((J 9)), ((J 10))].getD i (fun _ => 0), _, _, _, _, rfl, rfl, rJ_of (hJ 0 (by decide)) (hJ 1 (by decide)) (hJ 2 (by decide)) (hJ 3 (by decide)) (hJ 4 (by decide)) (hJ 5 (by decide)) (hJ 6 (by decide)), hg_2, kU1, kA2, kU2⟩)
      ·
        exact absurd c1 (by decide)
    ·
      exact absurd k2 (by decide)

set_option maxRecDepth 100000 in
set_option maxHeartbeats 4000000 in
/-- set -/
theorem r_mset01 (l : Launch) (dC : Nat → ClassId) (dI : Nat → Nat → Nat) {cI : ClassId} {tys : List (ClassId × FieldType)} (ht : tys[0]? = some (cI, .int)) (r : Nat → Nat) {V : Nat → Nat} {J : Nat → Nat → Nat} {A1 U1 A2 U2 : Nat} {pb pe ob oe b1 e1 b2 e2 : Int} (hJ : rJ V J) (kA1 : bk A1 (J 7)) (kU1 : bk U1 (J 8)) (kA2 : bk A2 (J 9)) (kU2 : bk U2 (J 10)) (mA1 : dn A1 ≤ 300) (mU1 : dn U1 ≤ 300) (mA2 : dn A2 ≤ 300) (mU2 : dn U2 ≤ 300) (v : Nat) (hv : v < 18446744073709551616) (hv0 : v ≠ 0) : ef_C l ry_M_set rw_M_set ({ frames := 1, cells := 0, slots := 0, locals := 24 } : Room) [.ref (r 0), .int (iv (0)), .int (iv (1)), .long (jv ((v : Int)))] (dC, dI) vwCl tys (rC cI r ((V 0)) ((V 1)) ((V 2)) ((V 3)) ((V 4)) ((V 5)) ((V 6)) (A1) (U1) (A2) (U2) ((J 0)) ((J 1)) ((J 2)) ((J 3)) ((J 4)) ((J 5)) ((J 6)) ((J 7)) ((J 8)) ((J 9)) ((J 10)) (pb) (pe) (ob) (oe) (b1) (e1) (b2) (e2)) (fun o w1 => ∃ (V2 : Nat → Nat) (J2 : Nat → Nat → Nat) (pb2 pe2 ob2 oe2 : Int), o = some (.int (iv (bl v : Int))) ∧ w1 = rC cI r (V2 0) (V2 1) (V2 2) (V2 3) (V2 4) (V2 5) (V2 6) (A1) (v) (A2) (U2) (J2 0) (J2 1) (J2 2) (J2 3) (J2 4) (J2 5) (J2 6) (J2 7) (J2 8) (J2 9) (J2 10) (pb2) (pe2) (ob2) (oe2) (b1) (e1) (b2) (e2) ∧ rJ V2 J2 ∧ bk (A1) (J2 7) ∧ bk (v) (J2 8) ∧ bk (A2) (J2 9) ∧ bk (U2) (J2 10)) := by
  refine ef_C.of (cc := rc_M_set) (maxL := 6) (ret := (some .int)) (by decide) rfl (Nat.le_of_ble_eq_true rfl) ?_
  intro p e s m below meth c ls hx hb hml hr hts hown hlocks hK hNX hP hD hS hl
  have hl : lv_has ls 6 [(0, .ref (r 0)), (1, .int (iv (0))), (2, .int (iv (1))), (3, .long (jv ((v : Int))))] := hl
  have hown : s.vm.findClass rR5 = some m.cls := hown
  generalize hH : s.heap = H at hP ⊢
  have hS : va_S (ef_A (rC cI r ((V 0)) ((V 1)) ((V 2)) ((V 3)) ((V 4)) ((V 5)) ((V 6)) (A1) (U1) (A2) (U2) ((J 0)) ((J 1)) ((J 2)) ((J 3)) ((J 4)) ((J 5)) ((J 6)) ((J 7)) ((J 8)) ((J 9)) ((J 10)) (pb) (pe) (ob) (oe) (b1) (e1) (b2) (e2))) s.heap H [] := by rw [← hH]; exact hS
  generalize ([] : List Loc) = locs at hS ⊢
  refine lv_iload_n hx hb rd_M_set_0 rfl (lv_at hl 1 rfl) ?_
  refine ef_callS (As := [.int (iv (0))]) (rest := []) ⟨hx, hb, hml, hown, hts⟩ (r_isNumber0 l dC dI ht r) (cwS 1 hts (ef_goodS rm_336 rm_337 rm_24 rm_338) rfl rfl rfl (by decide +kernel) ⟨Nat.le_of_ble_eq_true rfl, Nat.le_of_ble_eq_true rfl⟩) hK hNX hP hD hS rfl hl.1 rfl (Nat.le_of_ble_eq_true rfl) rd_M_set_1 ⟨Nat.zero_le _, Nat.zero_le _⟩ (fun o w1 H locs hq hP hD hS => ?_)
  obtain ⟨rfl, e9⟩ := hq
  rw [e9] at hP hD
  refine W.eq (g2 := F0 m 4 ls [.int (iv (1))]) rfl ?_
  refine iw_if_eq (tgt := 14) hx hb rd_M_set_4 (by decide) ⟨by omega, by omega⟩ (fun k1 => ?_) (fun k1 => ?_)
  ·
    exact absurd k1 (by decide)
  ·
    refine lv_iload_n hx hb rd_M_set_7 rfl (lv_at hl 2 rfl) ?_
    refine ef_callS (As := [.int (iv (1))]) (rest := []) ⟨hx, hb, hml, hown, hts⟩ (r_isNumber1 l dC dI ht r) (cwS 1 hts (ef_goodS rm_336 rm_337 rm_24 rm_338) rfl rfl rfl (by decide +kernel) ⟨Nat.le_of_ble_eq_true rfl, Nat.le_of_ble_eq_true rfl⟩) hK hNX hP hD hS rfl hl.1 rfl (Nat.le_of_ble_eq_true rfl) rd_M_set_8 ⟨Nat.zero_le _, Nat.zero_le _⟩ (fun o w1 H locs hq hP hD hS => ?_)
    obtain ⟨rfl, e9⟩ := hq
    rw [e9] at hP hD
    refine W.eq (g2 := F0 m 11 ls [.int (iv (1))]) rfl ?_
    refine iw_if_ne (tgt := 16) hx hb rd_M_set_11 (by decide) ⟨by omega, by omega⟩ (fun k2 => ?_) (fun k2 => ?_)
    ·
      refine lv_iload_n hx hb rd_M_set_16 rfl (lv_at hl 2 rfl) ?_
      refine lv_iconst (v := iv (1)) hx hb rd_M_set_17 (by decide) ?_
      refine iw_icmp_ne (tgt := 30) hx hb rd_M_set_18 (by decide) ⟨by omega, by omega⟩ ⟨by omega, by omega⟩ (fun c1 => ?_) (fun c1 => ?_)
      ·
        exact absurd rfl c1
      ·
        refine lv_lload_n hx hb rd_M_set_21 rfl (lv_at hl 3 rfl) ?_
        refine lv_lconst (v := jv (0)) hx hb rd_M_set_22 (by decide) ?_
        refine W.lcmp hx hb rd_M_set_23 ?_
        have hne : ¬ lg_cmp (jv (v : Int)) (jv 0) = 0 := lcmp_ne (jv_ne0 hv hv0)
        refine lv_if_ne (tgt := 30) hx hb rd_M_set_24 (by decide) (fun c2 => ?_) (fun c2 => ?_)
        ·
          refine lv_aload_n hx hb rd_M_set_30 rfl (lv_at hl 0 rfl) ?_
          refine lv_iload_n hx hb rd_M_set_31 rfl (lv_at hl 1 rfl) ?_
          refine lv_iload_n hx hb rd_M_set_32 rfl (lv_at hl 2 rfl) ?_
          refine ef_callV (As := [.int (iv (0)), .int (iv (1))]) (rest := []) ⟨hx, hb, hml, hown, hts⟩ (r_partOf01 l dC dI ht r) (cwV 2 hts (ef_goodV rm_348 rm_350 rm_13 rm_24 rm_351) rfl rfl rfl (by decide +kernel) ⟨Nat.le_of_ble_eq_true rfl, Nat.le_of_ble_eq_true rfl⟩) hK hNX hP hD hS 0 rfl rfl rfl rfl hl.1 rfl (Nat.le_of_ble_eq_true rfl) rd_M_set_33 ⟨Nat.zero_le _, Nat.zero_le _⟩ (fun o w1 H locs hq hP hD hS => ?_)
          obtain ⟨rfl, e9⟩ := hq
          rw [e9] at hP hD
          refine W.eq (g2 := F0 m 36 ls [.ref (r 21)]) rfl ?_
          refine lv_astore (lv' := [(5, .ref (r 21)), (0, .ref (r 0)), (1, .int (iv (0))), (2, .int (iv (1))), (3, .long (jv ((v : Int))))]) hx hb rd_M_set_36 hl (by decide) rfl (fun ls hl => ?_)
          refine lv_aload hx hb rd_M_set_38 (lv_at hl 0 rfl) ?_
          refine lv_lload_n hx hb rd_M_set_40 rfl (lv_at hl 4 rfl) ?_
          refine ef_callV (As := [.long (jv ((v : Int)))]) (rest := []) ⟨hx, hb, hml, hown, hts⟩ (b_set l dC dI ht (isB_c (X := U1) (F := (J 8)) (ws := rC cI r ((V 0)) ((V 1)) ((V 2)) ((V 3)) ((V 4)) ((V 5)) ((V 6)) (A1) (U1) (A2) (U2) ((J 0)) ((J 1)) ((J 2)) ((J 3)) ((J 4)) ((J 5)) ((J 6)) ((J 7)) ((J 8)) ((J 9)) ((J 10)) (pb) (pe) (ob) (oe) (b1) (e1) (b2) (e2)) (k0 := 21) (k1 := 22) (by decide) rfl rfl) v hv) (cwV 1 hts (ef_goodV rm_368 rm_306 rm_307 rm_25 rm_308) rfl rfl rfl (by decide +kernel) ⟨Nat.le_of_ble_eq_true rfl, Nat.le_of_ble_eq_true rfl⟩) hK hNX hP hD hS 21 rfl rfl rfl rfl hl.1 rfl (Nat.le_of_ble_eq_true rfl) rd_M_set_41 ⟨Nat.zero_le _, Nat.zero_le _⟩ (fun o w1 H locs hq hP hD hS => ?_)
          obtain ⟨rfl, g_1, rfl, hg_2⟩ := hq
          have hP : va_P (dC, dI) vwCl (rC cI r ((V 0)) ((V 1)) ((V 2)) ((V 3)) ((V 4)) ((V 5)) ((V 6)) (A1) (v) (A2) (U2) ((J 0)) ((J 1)) ((J 2)) ((J 3)) ((J 4)) ((J 5)) ((J 6)) ((J 7)) (g_1) ((J 9)) ((J 10)) (pb) (pe) (ob) (oe) (b1) (e1) (b2) (e2)) H := hP
          have hD : va_D (ef_A (rC cI r ((V 0)) ((V 1)) ((V 2)) ((V 3)) ((V 4)) ((V 5)) ((V 6)) (A1) (U1) (A2) (U2) ((J 0)) ((J 1)) ((J 2)) ((J 3)) ((J 4)) ((J 5)) ((J 6)) ((J 7)) ((J 8)) ((J 9)) ((J 10)) (pb) (pe) (ob) (oe) (b1) (e1) (b2) (e2))) (rC cI r ((V 0)) ((V 1)) ((V 2)) ((V 3)) ((V 4)) ((V 5)) ((V 6)) (A1) (v) (A2) (U2) ((J 0)) ((J 1)) ((J 2)) ((J 3)) ((J 4)) ((J 5)) ((J 6)) ((J 7)) (g_1) ((J 9)) ((J 10)) (pb) (pe) (ob) (oe) (b1) (e1) (b2) (e2)) := hD
          have hg_2 : bk (v) g_1 := ⟨hg_2, Nat.le_trans (dn_le (k := 4) (by show v < 2 ^ (16 * 4); omega)) (by decide)⟩
          refine W.eq (g2 := F0 m 44 ls []) rfl ?_
          refine lv_aload hx hb rd_M_set_44 (lv_at hl 0 rfl) ?_
          refine ef_callV (As := []) (rest := []) ⟨hx, hb, hml, hown, hts⟩ (b_bits l dC dI ht (isB_c (X := v) (F := g_1) (ws := rC cI r ((V 0)) ((V 1)) ((V 2)) ((V 3)) ((V 4)) ((V 5)) ((V 6)) (A1) (v) (A2) (U2) ((J 0)) ((J 1)) ((J 2)) ((J 3)) ((J 4)) ((J 5)) ((J 6)) ((J 7)) (g_1) ((J 9)) ((J 10)) (pb) (pe) (ob) (oe) (b1) (e1) (b2) (e2)) (k0 := 21) (k1 := 22) (by decide) rfl rfl) hg_2.1 hg_2.2) (cwV 0 hts (ef_goodV rm_360 rm_361 rm_362 rm_25 rm_363) rfl rfl rfl (by decide +kernel) ⟨Nat.le_of_ble_eq_true rfl, Nat.le_of_ble_eq_true rfl⟩) hK hNX hP hD hS 21 rfl rfl rfl rfl hl.1 rfl (Nat.le_of_ble_eq_true rfl) rd_M_set_46 ⟨Nat.zero_le _, Nat.zero_le _⟩ (fun o w1 H locs hq hP hD hS => ?_)
          obtain ⟨rfl, e9⟩ := hq
          rw [e9] at hP hD
          refine W.eq (g2 := F0 m 49 ls [.int (iv ((bl (v) : Int)))]) rfl ?_
          exact ef_iret hx hb hr hlocks hP hD hS rd_M_set_49 (⟨fun i => [((V 0)), ((V 1)), ((V 2)), ((V 3)), ((V 4)), ((V 5)), ((V 6))].getD i 0, fun i => [((J 0)), ((J 1)), ((J 2)), ((J 3)), ((J 4)), ((J 5)), ((J 6)), ((J 7)), (g_1), ((J 9)), ((J 10))].getD i (fun _ => 0), _, _, _, _, rfl, rfl, rJ_of (hJ 0 (by decide)) (hJ 1 (by decide)) (hJ 2 (by decide)) (hJ 3 (by decide)) (hJ 4 (by decide)) (hJ 5 (by decide)) (hJ 6 (by decide)), kA1, hg_2, kA2, kU2⟩)
        ·
          exact absurd c2 hne
    ·
      exact absurd k2 (by decide)

set_option maxRecDepth 100000 in
set_option maxHeartbeats 4000000 in
/-- set -/
theorem r_mset10 (l : Launch) (dC : Nat → ClassId) (dI : Nat → Nat → Nat) {cI : ClassId} {tys : List (ClassId × FieldType)} (ht : tys[0]? = some (cI, .int)) (r : Nat → Nat) {V : Nat → Nat} {J : Nat → Nat → Nat} {A1 U1 A2 U2 : Nat} {pb pe ob oe b1 e1 b2 e2 : Int} (hJ : rJ V J) (kA1 : bk A1 (J 7)) (kU1 : bk U1 (J 8)) (kA2 : bk A2 (J 9)) (kU2 : bk U2 (J 10)) (mA1 : dn A1 ≤ 300) (mU1 : dn U1 ≤ 300) (mA2 : dn A2 ≤ 300) (mU2 : dn U2 ≤ 300) (v : Nat) (hv : v < 18446744073709551616) : ef_C l ry_M_set rw_M_set ({ frames := 1, cells := 0, slots := 0, locals := 24 } : Room) [.ref (r 0), .int (iv (1)), .int (iv (0)), .long (jv ((v : Int)))] (dC, dI) vwCl tys (rC cI r ((V 0)) ((V 1)) ((V 2)) ((V 3)) ((V 4)) ((V 5)) ((V 6)) (A1) (U1) (A2) (U2) ((J 0)) ((J 1)) ((J 2)) ((J 3)) ((J 4)) ((J 5)) ((J 6)) ((J 7)) ((J 8)) ((J 9)) ((J 10)) (pb) (pe) (ob) (oe) (b1) (e1) (b2) (e2)) (fun o w1 => ∃ (V2 : Nat → Nat) (J2 : Nat → Nat → Nat) (pb2 pe2 ob2 oe2 : Int), o = some (.int (iv (bl v : Int))) ∧ w1 = rC cI r (V2 0) (V2 1) (V2 2) (V2 3) (V2 4) (V2 5) (V2 6) (A1) (U1) (v) (U2) (J2 0) (J2 1) (J2 2) (J2 3) (J2 4) (J2 5) (J2 6) (J2 7) (J2 8) (J2 9) (J2 10) (pb2) (pe2) (ob2) (oe2) (b1) (e1) (b2) (e2) ∧ rJ V2 J2 ∧ bk (A1) (J2 7) ∧ bk (U1) (J2 8) ∧ bk (v) (J2 9) ∧ bk (U2) (J2 10)) := by
  refine ef_C.of (cc := rc_M_set) (maxL := 6) (ret := (some .int)) (by decide) rfl (Nat.le_of_ble_eq_true rfl) ?_
  intro p e s m below meth c ls hx hb hml hr hts hown hlocks hK hNX hP hD hS hl
  have hl : lv_has ls 6 [(0, .ref (r 0)), (1, .int (iv (1))), (2, .int (iv (0))), (3, .long (jv ((v : Int))))] := hl
  have hown : s.vm.findClass rR5 = some m.cls := hown
  generalize hH : s.heap = H at hP ⊢
  have hS : va_S (ef_A (rC cI r ((V 0)) ((V 1)) ((V 2)) ((V 3)) ((V 4)) ((V 5)) ((V 6)) (A1) (U1) (A2) (U2) ((J 0)) ((J 1)) ((J 2)) ((J 3)) ((J 4)) ((J 5)) ((J 6)) ((J 7)) ((J 8)) ((J 9)) ((J 10)) (pb) (pe) (ob) (oe) (b1) (e1) (b2) (e2))) s.heap H [] := by rw [← hH]; exact hS
  generalize ([] : List Loc) = locs at hS ⊢
  refine lv_iload_n hx hb rd_M_set_0 rfl (lv_at hl 1 rfl) ?_
  refine ef_callS (As := [.int (iv (1))]) (rest := []) ⟨hx, hb, hml, hown, hts⟩ (r_isNumber1 l dC dI ht r) (cwS 1 hts (ef_goodS rm_336 rm_337 rm_24 rm_338) rfl rfl rfl (by decide +kernel) ⟨Nat.le_of_ble_eq_true rfl, Nat.le_of_ble_eq_true rfl⟩) hK hNX hP hD hS rfl hl.1 rfl (Nat.le_of_ble_eq_true rfl) rd_M_set_1 ⟨Nat.zero_le _, Nat.zero_le _⟩ (fun o w1 H locs hq hP hD hS => ?_)
  obtain ⟨rfl, e9⟩ := hq
  rw [e9] at hP hD
  refine W.eq (g2 := F0 m 4 ls [.int (iv (1))]) rfl ?_
  refine iw_if_eq (tgt := 14) hx hb rd_M_set_4 (by decide) ⟨by omega, by omega⟩ (fun k1 => ?_) (fun k1 => ?_)
  ·
    exact absurd k1 (by decide)
  ·
    refine lv_iload_n hx hb rd_M_set_7 rfl (lv_at hl 2 rfl) ?_
    refine ef_callS (As := [.int (iv (0))]) (rest := []) ⟨hx, hb, hml, hown, hts⟩ (r_isNumber0 l dC dI ht r) (cwS 1 hts (ef_goodS rm_336 rm_337 rm_24 rm_338) rfl rfl rfl (by decide +kernel) ⟨Nat.le_of_ble_eq_true rfl, Nat.le_of_ble_eq_true rfl⟩) hK hNX hP hD hS rfl hl.1 rfl (Nat.le_of_ble_eq_true rfl) rd_M_set_8 ⟨Nat.zero_le _, Nat.zero_le _⟩ (fun o w1 H locs hq hP hD hS => ?_)
    obtain ⟨rfl, e9⟩ := hq
    rw [e9] at hP hD
    refine W.eq (g2 := F0 m 11 ls [.int (iv (1))]) rfl ?_
    refine iw_if_ne (tgt := 16) hx hb rd_M_set_11 (by decide) ⟨by omega, by omega⟩ (fun k2 => ?_) (fun k2 => ?_)
    ·
      refine lv_iload_n hx hb rd_M_set_16 rfl (lv_at hl 2 rfl) ?_
      refine lv_iconst (v := iv (1)) hx hb rd_M_set_17 (by decide) ?_
      refine iw_icmp_ne (tgt := 30) hx hb rd_M_set_18 (by decide) ⟨by omega, by omega⟩ ⟨by omega, by omega⟩ (fun c1 => ?_) (fun c1 => ?_)
      ·
        refine lv_aload_n hx hb rd_M_set_30 rfl (lv_at hl 0 rfl) ?_
        refine lv_iload_n hx hb rd_M_set_31 rfl (lv_at hl 1 rfl) ?_
        refine lv_iload_n hx hb rd_M_set_32 rfl (lv_at hl 2 rfl) ?_
        refine ef_callV (As := [.int (iv (1)), .int (iv (0))]) (rest := []) ⟨hx, hb, hml, hown, hts⟩ (r_partOf10 l dC dI ht r) (cwV 2 hts (ef_goodV rm_348 rm_350 rm_13 rm_24 rm_351) rfl rfl rfl (by decide +kernel) ⟨Nat.le_of_ble_eq_true rfl, Nat.le_of_ble_eq_true rfl⟩) hK hNX hP hD hS 0 rfl rfl rfl rfl hl.1 rfl (Nat.le_of_ble_eq_true rfl) rd_M_set_33 ⟨Nat.zero_le _, Nat.zero_le _⟩ (fun o w1 H locs hq hP hD hS => ?_)
        obtain ⟨rfl, e9⟩ := hq
        rw [e9] at hP hD
        refine W.eq (g2 := F0 m 36 ls [.ref (r 23)]) rfl ?_
        refine lv_astore (lv' := [(5, .ref (r 23)), (0, .ref (r 0)), (1, .int (iv (1))), (2, .int (iv (0))), (3, .long (jv ((v : Int))))]) hx hb rd_M_set_36 hl (by decide) rfl (fun ls hl => ?_)
        refine lv_aload hx hb rd_M_set_38 (lv_at hl 0 rfl) ?_
        refine lv_lload_n hx hb rd_M_set_40 rfl (lv_at hl 4 rfl) ?_
        refine ef_callV (As := [.long (jv ((v : Int)))]) (rest := []) ⟨hx, hb, hml, hown, hts⟩ (b_set l dC dI ht (isB_c (X := A2) (F := (J 9)) (ws := rC cI r ((V 0)) ((V 1)) ((V 2)) ((V 3)) ((V 4)) ((V 5)) ((V 6)) (A1) (U1) (A2) (U2) ((J 0)) ((J 1)) ((J 2)) ((J 3)) ((J 4)) ((J 5)) ((J 6)) ((J 7)) ((J 8)) ((J 9)) ((J 10)) (pb) (pe) (ob) (oe) (b1) (e1) (b2) (e2)) (k0 := 23) (k1 := 24) (by decide) rfl rfl) v hv) (cwV 1 hts (ef_goodV rm_368 rm_306 rm_307 rm_25 rm_308) rfl rfl rfl (by decide +kernel) ⟨Nat.le_of_ble_eq_true rfl, Nat.le_of_ble_eq_true rfl⟩) hK hNX hP hD hS 23 rfl rfl rfl rfl hl.1 rfl (Nat.le_of_ble_eq_true rfl) rd_M_set_41 ⟨Nat.zero_le _, Nat.zero_le _⟩ (fun o w1 H locs hq hP hD hS => ?_)
        obtain ⟨rfl, g_1, rfl, hg_2⟩ := hq
        have hP : va_P (dC, dI) vwCl (rC cI r ((V 0)) ((V 1)) ((V 2)) ((V 3)) ((V 4)) ((V 5)) ((V 6)) (A1) (U1) (v) (U2) ((J 0)) ((J 1)) ((J 2)) ((J 3)) ((J 4)) ((J 5)) ((J 6)) ((J 7)) ((J 8)) (g_1) ((J 10)) (pb) (pe) (ob) (oe) (b1) (e1) (b2) (e2)) H := hP
        have hD : va_D (ef_A (rC cI r ((V 0)) ((V 1)) ((V 2)) ((V 3)) ((V 4)) ((V 5)) ((V 6)) (A1) (U1) (A2) (U2) ((J 0)) ((J 1)) ((J 2)) ((J 3)) ((J 4)) ((J 5)) ((J 6)) ((J 7)) ((J 8)) ((J 9)) ((J 10)) (pb) (pe) (ob) (oe) (b1) (e1) (b2) (e2))) (rC cI r ((V 0)) ((V 1)) ((V 2)) ((V 3)) ((V 4)) ((V 5)) ((V 6)) (A1) (U1) (v) (U2) ((J 0)) ((J 1)) ((J 2)) ((J 3)) ((J 4)) ((J 5)) ((J 6)) ((J 7)) ((J 8)) (g_1) ((J 10)) (pb) (pe) (ob) (oe) (b1) (e1) (b2) (e2)) := hD
        have hg_2 : bk (v) g_1 := ⟨hg_2, Nat.le_trans (dn_le (k := 4) (by show v < 2 ^ (16 * 4); omega)) (by decide)⟩
        refine W.eq (g2 := F0 m 44 ls []) rfl ?_
        refine lv_aload hx hb rd_M_set_44 (lv_at hl 0 rfl) ?_
        refine ef_callV (As := []) (rest := []) ⟨hx, hb, hml, hown, hts⟩ (b_bits l dC dI ht (isB_c (X := v) (F := g_1) (ws := rC cI r ((V 0)) ((V 1)) ((V 2)) ((V 3)) ((V 4)) ((V 5)) ((V 6)) (A1) (U1) (v) (U2) ((J 0)) ((J 1)) ((J 2)) ((J 3)) ((J 4)) ((J 5)) ((J 6)) ((J 7)) ((J 8)) (g_1) ((J 10)) (pb) (pe) (ob) (oe) (b1) (e1) (b2) (e2)) (k0 := 23) (k1 := 24) (by decide) rfl rfl) hg_2.1 hg_2.2) (cwV 0 hts (ef_goodV rm_360 rm_361 rm_362 rm_25 rm_363) rfl rfl rfl (by decide +kernel) ⟨Nat.le_of_ble_eq_true rfl, Nat.le_of_ble_eq_true rfl⟩) hK hNX hP hD hS 23 rfl rfl rfl rfl hl.1 rfl (Nat.le_of_ble_eq_true rfl) rd_M_set_46 ⟨Nat.zero_le _, Nat.zero_le _⟩ (fun o w1 H locs hq hP hD hS => ?_)
        obtain ⟨rfl, e9⟩ := hq
        rw [e9] at hP hD
        refine W.eq (g2 := F0 m 49 ls [.int (iv ((bl (v) : Int)))]) rfl ?_
        exact ef_iret hx hb hr hlocks hP hD hS rd_M_set_49 (⟨fun i => [((V 0)), ((V 1)), ((V 2)), ((V 3)), ((V 4)), ((V 5)), ((V 6))].getD i 0, fun i => [((J 0)), ((J 1)), ((J 2)), ((J 3)), ((J 4)), ((J 5)), ((J 6)), ((J 7)), ((J 8)), (g_1), ((J 10))].getD i (fun _ => 0), _, _, _, _, rfl, rfl, rJ_of (hJ 0 (by decide)) (hJ 1 (by decide)) (hJ 2 (by decide)) (hJ 3 (by decide)) (hJ 4 (by decide)) (hJ 5 (by decide)) (hJ 6 (by decide)), kA1, kU1, hg_2, kU2⟩)
      ·
        exact absurd c1 (by decide)
    ·
      exact absurd k2 (by decide)

set_option maxRecDepth 100000 in
set_option maxHeartbeats 4000000 in
/-- set -/
theorem r_mset11 (l : Launch) (dC : Nat → ClassId) (dI : Nat → Nat → Nat) {cI : ClassId} {tys : List (ClassId × FieldType)} (ht : tys[0]? = some (cI, .int)) (r : Nat → Nat) {V : Nat → Nat} {J : Nat → Nat → Nat} {A1 U1 A2 U2 : Nat} {pb pe ob oe b1 e1 b2 e2 : Int} (hJ : rJ V J) (kA1 : bk A1 (J 7)) (kU1 : bk U1 (J 8)) (kA2 : bk A2 (J 9)) (kU2 : bk U2 (J 10)) (mA1 : dn A1 ≤ 300) (mU1 : dn U1 ≤ 300) (mA2 : dn A2 ≤ 300) (mU2 : dn U2 ≤ 300) (v : Nat) (hv : v < 18446744073709551616) (hv0 : v ≠ 0) : ef_C l ry_M_set rw_M_set ({ frames := 1, cells := 0, slots := 0, locals := 24 } : Room) [.ref (r 0), .int (iv (1)), .int (iv (1)), .long (jv ((v : Int)))] (dC, dI) vwCl tys (rC cI r ((V 0)) ((V 1)) ((V 2)) ((V 3)) ((V 4)) ((V 5)) ((V 6)) (A1) (U1) (A2) (U2) ((J 0)) ((J 1)) ((J 2)) ((J 3)) ((J 4)) ((J 5)) ((J 6)) ((J 7)) ((J 8)) ((J 9)) ((J 10)) (pb) (pe) (ob) (oe) (b1) (e1) (b2) (e2)) (fun o w1 => ∃ (V2 : Nat → Nat) (J2 : Nat → Nat → Nat) (pb2 pe2 ob2 oe2 : Int), o = some (.int (iv (bl v : Int))) ∧ w1 = rC cI r (V2 0) (V2 1) (V2 2) (V2 3) (V2 4) (V2 5) (V2 6) (A1) (U1) (A2) (v) (J2 0) (J2 1) (J2 2) (J2 3) (J2 4) (J2 5) (J2 6) (J2 7) (J2 8) (J2 9) (J2 10) (pb2) (pe2) (ob2) (oe2) (b1) (e1) (b2) (e2) ∧ rJ V2 J2 ∧ bk (A1) (J2 7) ∧ bk (U1) (J2 8) ∧ bk (A2) (J2 9) ∧ bk (v) (J2 10)) := by
  refine ef_C.of (cc := rc_M_set) (maxL := 6) (ret := (some .int)) (by decide) rfl (Nat.le_of_ble_eq_true rfl) ?_
  intro p e s m below meth c ls hx hb hml hr hts hown hlocks hK hNX hP hD hS hl
  have hl : lv_has ls 6 [(0, .ref (r 0)), (1, .int (iv (1))), (2, .int (iv (1))), (3, .long (jv ((v : Int))))] := hl
  have hown : s.vm.findClass rR5 = some m.cls := hown
  generalize hH : s.heap = H at hP ⊢
  have hS : va_S (ef_A (rC cI r ((V 0)) ((V 1)) ((V 2)) ((V 3)) ((V 4)) ((V 5)) ((V 6)) (A1) (U1) (A2) (U2) ((J 0)) ((J 1)) ((J 2)) ((J 3)) ((J 4)) ((J 5)) ((J 6)) ((J 7)) ((J 8)) ((J 9)) ((J 10)) (pb) (pe) (ob) (oe) (b1) (e1) (b2) (e2))) s.heap H [] := by rw [← hH]; exact hS
  generalize ([] : List Loc) = locs at hS ⊢
  refine lv_iload_n hx hb rd_M_set_0 rfl (lv_at hl 1 rfl) ?_
  refine ef_callS (As := [.int (iv (1))]) (rest := []) ⟨hx, hb, hml, hown, hts⟩ (r_isNumber1 l dC dI ht r) (cwS 1 hts (ef_goodS rm_336 rm_337 rm_24 rm_338) rfl rfl rfl (by decide +kernel) ⟨Nat.le_of_ble_eq_true rfl, Nat.le_of_ble_eq_true rfl⟩) hK hNX hP hD hS rfl hl.1 rfl (Nat.le_of_ble_eq_true rfl) rd_M_set_1 ⟨Nat.zero_le _, Nat.zero_le _⟩ (fun o w1 H locs hq hP hD hS => ?_)
  obtain ⟨rfl, e9⟩ := hq
  rw [e9] at hP hD
  refine W.eq (g2 := F0 m 4 ls [.int (iv (1))]) rfl ?_
  refine iw_if_eq (tgt := 14) hx hb rd_M_set_4 (by decide) ⟨by omega, by omega⟩ (fun k1 => ?_) (fun k1 => ?_)
  ·
    exact absurd k1 (by decide)
  ·
    refine lv_iload_n hx hb rd_M_set_7 rfl (lv_at hl 2 rfl) ?_
    refine ef_callS (As := [.int (iv (1))]) (rest := []) ⟨hx, hb, hml, hown, hts⟩ (r_isNumber1 l dC dI ht r) (cwS 1 hts (ef_goodS rm_336 rm_337 rm_24 rm_338) rfl rfl rfl (by decide +kernel) ⟨Nat.le_of_ble_eq_true rfl, Nat.le_of_ble_eq_true rfl⟩) hK hNX hP hD hS rfl hl.1 rfl (Nat.le_of_ble_eq_true rfl) rd_M_set_8 ⟨Nat.zero_le _, Nat.zero_le _⟩ (fun o w1 H locs hq hP hD hS => ?_)
    obtain ⟨rfl, e9⟩ := hq
    rw [e9] at hP hD
    refine W.eq (g2 := F0 m 11 ls [.int (iv (1))]) rfl ?_
    refine iw_if_ne (tgt := 16) hx hb rd_M_set_11 (by decide) ⟨by omega, by omega⟩ (fun k2 => ?_) (fun k2 => ?_)
    ·
      refine lv_iload_n hx hb rd_M_set_16 rfl (lv_at hl 2 rfl) ?_
      refine lv_iconst (v := iv (1)) hx hb rd_M_set_17 (by decide) ?_
      refine iw_icmp_ne (tgt := 30) hx hb rd_M_set_18 (by decide) ⟨by omega, by omega⟩ ⟨by omega, by omega⟩ (fun c1 => ?_) (fun c1 => ?_)
      ·
        exact absurd rfl c1
      ·
        refine lv_lload_n hx hb rd_M_set_21 rfl (lv_at hl 3 rfl) ?_
        refine lv_lconst (v := jv (0)) hx hb rd_M_set_22 (by decide) ?_
        refine W.lcmp hx hb rd_M_set_23 ?_
        have hne : ¬ lg_cmp (jv (v : Int)) (jv 0) = 0 := lcmp_ne (jv_ne0 hv hv0)
        refine lv_if_ne (tgt := 30) hx hb rd_M_set_24 (by decide) (fun c2 => ?_) (fun c2 => ?_)
        ·
          refine lv_aload_n hx hb rd_M_set_30 rfl (lv_at hl 0 rfl) ?_
          refine lv_iload_n hx hb rd_M_set_31 rfl (lv_at hl 1 rfl) ?_
          refine lv_iload_n hx hb rd_M_set_32 rfl (lv_at hl 2 rfl) ?_
          refine ef_callV (As := [.int (iv (1)), .int (iv (1))]) (rest := []) ⟨hx, hb, hml, hown, hts⟩ (r_partOf11 l dC dI ht r) (cwV 2 hts (ef_goodV rm_348 rm_350 rm_13 rm_24 rm_351) rfl rfl rfl (by decide +kernel) ⟨Nat.le_of_ble_eq_true rfl, Nat.le_of_ble_eq_true rfl⟩) hK hNX hP hD hS 0 rfl rfl rfl rfl hl.1 rfl (Nat.le_of_ble_eq_true rfl) rd_M_set_33 ⟨Nat.zero_le _, Nat.zero_le _⟩ (fun o w1 H locs hq hP hD hS => ?_)
          obtain ⟨rfl, e9⟩ := hq
          rw [e9] at hP hD
          refine W.eq (g2 := F0 m 36 ls [.ref (r 25)]) rfl ?_
          refine lv_astore (lv' := [(5, .ref (r 25)), (0, .ref (r 0)), (1, .int (iv (1))), (2, .int (iv (1))), (3, .long (jv ((v : Int))))]) hx hb rd_M_set_36 hl (by decide) rfl (fun ls hl => ?_)
          refine lv_aload hx hb rd_M_set_38 (lv_at hl 0 rfl) ?_
          refine lv_lload_n hx hb rd_M_set_40 rfl (lv_at hl 4 rfl) ?_
          refine ef_callV (As := [.long (jv ((v : Int)))]) (rest := []) ⟨hx, hb, hml, hown, hts⟩ (b_set l dC dI ht (isB_c (X := U2) (F := (J 10)) (ws := rC cI r ((V 0)) ((V 1)) ((V 2)) ((V 3)) ((V 4)) ((V 5)) ((V 6)) (A1) (U1) (A2) (U2) ((J 0)) ((J 1)) ((J 2)) ((J 3)) ((J 4)) ((J 5)) ((J 6)) ((J 7)) ((J 8)) ((J 9)) ((J 10)) (pb) (pe) (ob) (oe) (b1) (e1) (b2) (e2)) (k0 := 25) (k1 := 26) (by decide) rfl rfl) v hv) (cwV 1 hts (ef_goodV rm_368 rm_306 rm_307 rm_25 rm_308) rfl rfl rfl (by decide +kernel) ⟨Nat.le_of_ble_eq_true rfl, Nat.le_of_ble_eq_true rfl⟩) hK hNX hP hD hS 25 rfl rfl rfl rfl hl.1 rfl (Nat.le_of_ble_eq_true rfl) rd_M_set_41 ⟨Nat.zero_le _, Nat.zero_le _⟩ (fun o w1 H locs hq hP hD hS => ?_)
          obtain ⟨rfl, g_1, rfl, hg_2⟩ := hq
          have hP : va_P (dC, dI) vwCl (rC cI r ((V 0)) ((V 1)) ((V 2)) ((V 3)) ((V 4)) ((V 5)) ((V 6)) (A1) (U1) (A2) (v) ((J 0)) ((J 1)) ((J 2)) ((J 3)) ((J 4)) ((J 5)) ((J 6)) ((J 7)) ((J 8)) ((J 9)) (g_1) (pb) (pe) (ob) (oe) (b1) (e1) (b2) (e2)) H := hP
          have hD : va_D (ef_A (rC cI r ((V 0)) ((V 1)) ((V 2)) ((V 3)) ((V 4)) ((V 5)) ((V 6)) (A1) (U1) (A2) (U2) ((J 0)) ((J 1)) ((J 2)) ((J 3)) ((J 4)) ((J 5)) ((J 6)) ((J 7)) ((J 8)) ((J 9)) ((J 10)) (pb) (pe) (ob) (oe) (b1) (e1) (b2) (e2))) (rC cI r ((V 0)) ((V 1)) ((V 2)) ((V 3)) ((V 4)) ((V 5)) ((V 6)) (A1) (U1) (A2) (v) ((J 0)) ((J 1)) ((J 2)) ((J 3)) ((J 4)) ((J 5)) ((J 6)) ((J 7)) ((J 8)) ((J 9)) (g_1) (pb) (pe) (ob) (oe) (b1) (e1) (b2) (e2)) := hD
          have hg_2 : bk (v) g_1 := ⟨hg_2, Nat.le_trans (dn_le (k := 4) (by show v < 2 ^ (16 * 4); omega)) (by decide)⟩
          refine W.eq (g2 := F0 m 44 ls []) rfl ?_
          refine lv_aload hx hb rd_M_set_44 (lv_at hl 0 rfl) ?_
          refine ef_callV (As := []) (rest := []) ⟨hx, hb, hml, hown, hts⟩ (b_bits l dC dI ht (isB_c (X := v) (F := g_1) (ws := rC cI r ((V 0)) ((V 1)) ((V 2)) ((V 3)) ((V 4)) ((V 5)) ((V 6)) (A1) (U1) (A2) (v) ((J 0)) ((J 1)) ((J 2)) ((J 3)) ((J 4)) ((J 5)) ((J 6)) ((J 7)) ((J 8)) ((J 9)) (g_1) (pb) (pe) (ob) (oe) (b1) (e1) (b2) (e2)) (k0 := 25) (k1 := 26) (by decide) rfl rfl) hg_2.1 hg_2.2) (cwV 0 hts (ef_goodV rm_360 rm_361 rm_362 rm_25 rm_363) rfl rfl rfl (by decide +kernel) ⟨Nat.le_of_ble_eq_true rfl, Nat.le_of_ble_eq_true rfl⟩) hK hNX hP hD hS 25 rfl rfl rfl rfl hl.1 rfl (Nat.le_of_ble_eq_true rfl) rd_M_set_46 ⟨Nat.zero_le _, Nat.zero_le _⟩ (fun o w1 H locs hq hP hD hS => ?_)
          obtain ⟨rfl, e9⟩ := hq
          rw [e9] at hP hD
          refine W.eq (g2 := F0 m 49 ls [.int (iv ((bl (v) : Int)))]) rfl ?_
          exact ef_iret hx hb hr hlocks hP hD hS rd_M_set_49 (⟨fun i => [((V 0)), ((V 1)), ((V 2)), ((V 3)), ((V 4)), ((V 5)), ((V 6))].getD i 0, fun i => [((J 0)), ((J 1)), ((J 2)), ((J 3)), ((J 4)), ((J 5)), ((J 6)), ((J 7)), ((J 8)), ((J 9)), (g_1)].getD i (fun _ => 0), _, _, _, _, rfl, rfl, rJ_of (hJ 0 (by decide)) (hJ 1 (by decide)) (hJ 2 (by decide)) (hJ 3 (by decide)) (hJ 4 (by decide)) (hJ 5 (by decide)) (hJ 6 (by decide)), kA1, kU1, kA2, hg_2⟩)
        ·
          exact absurd c2 hne
    ·
      exact absurd k2 (by decide)

set_option maxRecDepth 100000 in
set_option maxHeartbeats 4000000 in
/-- set of 0 under -/
theorem r_mset0Z (l : Launch) (dC : Nat → ClassId) (dI : Nat → Nat → Nat) {cI : ClassId} {tys : List (ClassId × FieldType)} (ht : tys[0]? = some (cI, .int)) (r : Nat → Nat) {V : Nat → Nat} {J : Nat → Nat → Nat} {A1 U1 A2 U2 : Nat} {pb pe ob oe b1 e1 b2 e2 : Int} (hJ : rJ V J) (kA1 : bk A1 (J 7)) (kU1 : bk U1 (J 8)) (kA2 : bk A2 (J 9)) (kU2 : bk U2 (J 10)) (mA1 : dn A1 ≤ 300) (mU1 : dn U1 ≤ 300) (mA2 : dn A2 ≤ 300) (mU2 : dn U2 ≤ 300) : ef_C l ry_M_set rw_M_set ({ frames := 1, cells := 0, slots := 0, locals := 24 } : Room) [.ref (r 0), .int (iv (0)), .int (iv (1)), .long (jv (0))] (dC, dI) vwCl tys (rC cI r ((V 0)) ((V 1)) ((V 2)) ((V 3)) ((V 4)) ((V 5)) ((V 6)) (A1) (U1) (A2) (U2) ((J 0)) ((J 1)) ((J 2)) ((J 3)) ((J 4)) ((J 5)) ((J 6)) ((J 7)) ((J 8)) ((J 9)) ((J 10)) (pb) (pe) (ob) (oe) (b1) (e1) (b2) (e2)) (fun o w1 => ∃ (V2 : Nat → Nat) (J2 : Nat → Nat → Nat) (pb2 pe2 ob2 oe2 : Int), o = some (.int (iv (-3))) ∧ w1 = rC cI r (V2 0) (V2 1) (V2 2) (V2 3) (V2 4) (V2 5) (V2 6) (A1) (U1) (A2) (U2) (J2 0) (J2 1) (J2 2) (J2 3) (J2 4) (J2 5) (J2 6) (J2 7) (J2 8) (J2 9) (J2 10) (pb2) (pe2) (ob2) (oe2) (b1) (e1) (b2) (e2) ∧ rJ V2 J2 ∧ bk (A1) (J2 7) ∧ bk (U1) (J2 8) ∧ bk (A2) (J2 9) ∧ bk (U2) (J2 10)) := by
  refine ef_C.of (cc := rc_M_set) (maxL := 6) (ret := (some .int)) (by decide) rfl (Nat.le_of_ble_eq_true rfl) ?_
  intro p e s m below meth c ls hx hb hml hr hts hown hlocks hK hNX hP hD hS hl
  have hl : lv_has ls 6 [(0, .ref (r 0)), (1, .int (iv (0))), (2, .int (iv (1))), (3, .long (jv (0)))] := hl
  have hown : s.vm.findClass rR5 = some m.cls := hown
  generalize hH : s.heap = H at hP ⊢
  have hS : va_S (ef_A (rC cI r ((V 0)) ((V 1)) ((V 2)) ((V 3)) ((V 4)) ((V 5)) ((V 6)) (A1) (U1) (A2) (U2) ((J 0)) ((J 1)) ((J 2)) ((J 3)) ((J 4)) ((J 5)) ((J 6)) ((J 7)) ((J 8)) ((J 9)) ((J 10)) (pb) (pe) (ob) (oe) (b1) (e1) (b2) (e2))) s.heap H [] := by rw [← hH]; exact hS
  generalize ([] : List Loc) = locs at hS ⊢
  refine lv_iload_n hx hb rd_M_set_0 rfl (lv_at hl 1 rfl) ?_
  refine ef_callS (As := [.int (iv (0))]) (rest := []) ⟨hx, hb, hml, hown, hts⟩ (r_isNumber0 l dC dI ht r) (cwS 1 hts (ef_goodS rm_336 rm_337 rm_24 rm_338) rfl rfl rfl (by decide +kernel) ⟨Nat.le_of_ble_eq_true rfl, Nat.le_of_ble_eq_true rfl⟩) hK hNX hP hD hS rfl hl.1 rfl (Nat.le_of_ble_eq_true rfl) rd_M_set_1 ⟨Nat.zero_le _, Nat.zero_le _⟩ (fun o w1 H locs hq hP hD hS => ?_)
  obtain ⟨rfl, e9⟩ := hq
  rw [e9] at hP hD
  refine W.eq (g2 := F0 m 4 ls [.int (iv (1))]) rfl ?_
  refine iw_if_eq (tgt := 14) hx hb rd_M_set_4 (by decide) ⟨by omega, by omega⟩ (fun k1 => ?_) (fun k1 => ?_)
  ·
    exact absurd k1 (by decide)
  ·
    refine lv_iload_n hx hb rd_M_set_7 rfl (lv_at hl 2 rfl) ?_
    refine ef_callS (As := [.int (iv (1))]) (rest := []) ⟨hx, hb, hml, hown, hts⟩ (r_isNumber1 l dC dI ht r) (cwS 1 hts (ef_goodS rm_336 rm_337 rm_24 rm_338) rfl rfl rfl (by decide +kernel) ⟨Nat.le_of_ble_eq_true rfl, Nat.le_of_ble_eq_true rfl⟩) hK hNX hP hD hS rfl hl.1 rfl (Nat.le_of_ble_eq_true rfl) rd_M_set_8 ⟨Nat.zero_le _, Nat.zero_le _⟩ (fun o w1 H locs hq hP hD hS => ?_)
    obtain ⟨rfl, e9⟩ := hq
    rw [e9] at hP hD
    refine W.eq (g2 := F0 m 11 ls [.int (iv (1))]) rfl ?_
    refine iw_if_ne (tgt := 16) hx hb rd_M_set_11 (by decide) ⟨by omega, by omega⟩ (fun k2 => ?_) (fun k2 => ?_)
    ·
      refine lv_iload_n hx hb rd_M_set_16 rfl (lv_at hl 2 rfl) ?_
      refine lv_iconst (v := iv (1)) hx hb rd_M_set_17 (by decide) ?_
      refine iw_icmp_ne (tgt := 30) hx hb rd_M_set_18 (by decide) ⟨by omega, by omega⟩ ⟨by omega, by omega⟩ (fun c1 => ?_) (fun c1 => ?_)
      ·
        exact absurd rfl c1
      ·
        refine lv_lload_n hx hb rd_M_set_21 rfl (lv_at hl 3 rfl) ?_
        refine lv_lconst (v := jv (0)) hx hb rd_M_set_22 (by decide) ?_
        refine iw_lcmp hx hb (⟨by omega, by omega⟩) (⟨by omega, by omega⟩) rd_M_set_23 ?_
        refine iw_if_ne (tgt := 30) hx hb rd_M_set_24 (by decide) (ir_zc _ _) (fun c2 => ?_) (fun c2 => ?_)
        ·
          exact absurd (zc_eq 0) c2
        ·
          refine lv_bipush (v := iv (-3)) hx hb rd_M_set_27 (by decide) ?_
          exact ef_iret hx hb hr hlocks hP hD hS rd_M_set_29 (⟨fun i => [((V 0)), ((V 1)), ((V 2)), ((V 3)), ((V 4)), ((V 5)), ((V 6))].getD i 0, fun i => [((J 0)), ((J 1)), ((J 2)), ((J 3)), ((J 4)), ((J 5)), ((J 6)), ((J 7)), ((J 8)), ((J 9)), ((J 10))].getD i (fun _ => 0), _, _, _, _, rfl, rfl, rJ_of (hJ 0 (by decide)) (hJ 1 (by decide)) (hJ 2 (by decide)) (hJ 3 (by decide)) (hJ 4 (by decide)) (hJ 5 (by decide)) (hJ 6 (by decide)), kA1, kU1, kA2, kU2⟩)
    ·
      exact absurd k2 (by decide)

set_option maxRecDepth 100000 in
set_option maxHeartbeats 4000000 in
/-- set of 0 under -/
theorem r_mset1Z (l : Launch) (dC : Nat → ClassId) (dI : Nat → Nat → Nat) {cI : ClassId} {tys : List (ClassId × FieldType)} (ht : tys[0]? = some (cI, .int)) (r : Nat → Nat) {V : Nat → Nat} {J : Nat → Nat → Nat} {A1 U1 A2 U2 : Nat} {pb pe ob oe b1 e1 b2 e2 : Int} (hJ : rJ V J) (kA1 : bk A1 (J 7)) (kU1 : bk U1 (J 8)) (kA2 : bk A2 (J 9)) (kU2 : bk U2 (J 10)) (mA1 : dn A1 ≤ 300) (mU1 : dn U1 ≤ 300) (mA2 : dn A2 ≤ 300) (mU2 : dn U2 ≤ 300) : ef_C l ry_M_set rw_M_set ({ frames := 1, cells := 0, slots := 0, locals := 24 } : Room) [.ref (r 0), .int (iv (1)), .int (iv (1)), .long (jv (0))] (dC, dI) vwCl tys (rC cI r ((V 0)) ((V 1)) ((V 2)) ((V 3)) ((V 4)) ((V 5)) ((V 6)) (A1) (U1) (A2) (U2) ((J 0)) ((J 1)) ((J 2)) ((J 3)) ((J 4)) ((J 5)) ((J 6)) ((J 7)) ((J 8)) ((J 9)) ((J 10)) (pb) (pe) (ob) (oe) (b1) (e1) (b2) (e2)) (fun o w1 => ∃ (V2 : Nat → Nat) (J2 : Nat → Nat → Nat) (pb2 pe2 ob2 oe2 : Int), o = some (.int (iv (-3))) ∧ w1 = rC cI r (V2 0) (V2 1) (V2 2) (V2 3) (V2 4) (V2 5) (V2 6) (A1) (U1) (A2) (U2) (J2 0) (J2 1) (J2 2) (J2 3) (J2 4) (J2 5) (J2 6) (J2 7) (J2 8) (J2 9) (J2 10) (pb2) (pe2) (ob2) (oe2) (b1) (e1) (b2) (e2) ∧ rJ V2 J2 ∧ bk (A1) (J2 7) ∧ bk (U1) (J2 8) ∧ bk (A2) (J2 9) ∧ bk (U2) (J2 10)) := by
  refine ef_C.of (cc := rc_M_set) (maxL := 6) (ret := (some .int)) (by decide) rfl (Nat.le_of_ble_eq_true rfl) ?_
  intro p e s m below meth c ls hx hb hml hr hts hown hlocks hK hNX hP hD hS hl
  have hl : lv_has ls 6 [(0, .ref (r 0)), (1, .int (iv (1))), (2, .int (iv (1))), (3, .long (jv (0)))] := hl
  have hown : s.vm.findClass rR5 = some m.cls := hown
  generalize hH : s.heap = H at hP ⊢
  have hS : va_S (ef_A (rC cI r ((V 0)) ((V 1)) ((V 2)) ((V 3)) ((V 4)) ((V 5)) ((V 6)) (A1) (U1) (A2) (U2) ((J 0)) ((J 1)) ((J 2)) ((J 3)) ((J 4)) ((J 5)) ((J 6)) ((J 7)) ((J 8)) ((J 9)) ((J 10)) (pb) (pe) (ob) (oe) (b1) (e1) (b2) (e2))) s.heap H [] := by rw [← hH]; exact hS
  generalize ([] : List Loc) = locs at hS ⊢
  refine lv_iload_n hx hb rd_M_set_0 rfl (lv_at hl 1 rfl) ?_
  refine ef_callS (As := [.int (iv (1))]) (rest := []) ⟨hx, hb, hml, hown, hts⟩ (r_isNumber1 l dC dI ht r) (cwS 1 hts (ef_goodS rm_336 rm_337 rm_24 rm_338) rfl rfl rfl (by decide +kernel) ⟨Nat.le_of_ble_eq_true rfl, Nat.le_of_ble_eq_true rfl⟩) hK hNX hP hD hS rfl hl.1 rfl (Nat.le_of_ble_eq_true rfl) rd_M_set_1 ⟨Nat.zero_le _, Nat.zero_le _⟩ (fun o w1 H locs hq hP hD hS => ?_)
  obtain ⟨rfl, e9⟩ := hq
  rw [e9] at hP hD
  refine W.eq (g2 := F0 m 4 ls [.int (iv (1))]) rfl ?_
  refine iw_if_eq (tgt := 14) hx hb rd_M_set_4 (by decide) ⟨by omega, by omega⟩ (fun k1 => ?_) (fun k1 => ?_)
  ·
    exact absurd k1 (by decide)
  ·
    refine lv_iload_n hx hb rd_M_set_7 rfl (lv_at hl 2 rfl) ?_
    refine ef_callS (As := [.int (iv (1))]) (rest := []) ⟨hx, hb, hml, hown, hts⟩ (r_isNumber1 l dC dI ht r) (cwS 1 hts (ef_goodS rm_336 rm_337 rm_24 rm_338) rfl rfl rfl (by decide +kernel) ⟨Nat.le_of_ble_eq_true rfl, Nat.le_of_ble_eq_true rfl⟩) hK hNX hP hD hS rfl hl.1 rfl (Nat.le_of_ble_eq_true rfl) rd_M_set_8 ⟨Nat.zero_le _, Nat.zero_le _⟩ (fun o w1 H locs hq hP hD hS => ?_)
    obtain ⟨rfl, e9⟩ := hq
    rw [e9] at hP hD
    refine W.eq (g2 := F0 m 11 ls [.int (iv (1))]) rfl ?_
    refine iw_if_ne (tgt := 16) hx hb rd_M_set_11 (by decide) ⟨by omega, by omega⟩ (fun k2 => ?_) (fun k2 => ?_)
    ·
      refine lv_iload_n hx hb rd_M_set_16 rfl (lv_at hl 2 rfl) ?_
      refine lv_iconst (v := iv (1)) hx hb rd_M_set_17 (by decide) ?_
      refine iw_icmp_ne (tgt := 30) hx hb rd_M_set_18 (by decide) ⟨by omega, by omega⟩ ⟨by omega, by omega⟩ (fun c1 => ?_) (fun c1 => ?_)
      ·
        exact absurd rfl c1
      ·
        refine lv_lload_n hx hb rd_M_set_21 rfl (lv_at hl 3 rfl) ?_
        refine lv_lconst (v := jv (0)) hx hb rd_M_set_22 (by decide) ?_
        refine iw_lcmp hx hb (⟨by omega, by omega⟩) (⟨by omega, by omega⟩) rd_M_set_23 ?_
        refine iw_if_ne (tgt := 30) hx hb rd_M_set_24 (by decide) (ir_zc _ _) (fun c2 => ?_) (fun c2 => ?_)
        ·
          exact absurd (zc_eq 0) c2
        ·
          refine lv_bipush (v := iv (-3)) hx hb rd_M_set_27 (by decide) ?_
          exact ef_iret hx hb hr hlocks hP hD hS rd_M_set_29 (⟨fun i => [((V 0)), ((V 1)), ((V 2)), ((V 3)), ((V 4)), ((V 5)), ((V 6))].getD i 0, fun i => [((J 0)), ((J 1)), ((J 2)), ((J 3)), ((J 4)), ((J 5)), ((J 6)), ((J 7)), ((J 8)), ((J 9)), ((J 10))].getD i (fun _ => 0), _, _, _, _, rfl, rfl, rJ_of (hJ 0 (by decide)) (hJ 1 (by decide)) (hJ 2 (by decide)) (hJ 3 (by decide)) (hJ 4 (by decide)) (hJ 5 (by decide)) (hJ 6 (by decide)), kA1, kU1, kA2, kU2⟩)
    ·
      exact absurd k2 (by decide)

set_option maxRecDepth 100000 in
set_option maxHeartbeats 4000000 in
/-- set of no part -/
theorem r_mset0x (l : Launch) (dC : Nat → ClassId) (dI : Nat → Nat → Nat) {cI : ClassId} {tys : List (ClassId × FieldType)} (ht : tys[0]? = some (cI, .int)) (r : Nat → Nat) {V : Nat → Nat} {J : Nat → Nat → Nat} {A1 U1 A2 U2 : Nat} {pb pe ob oe b1 e1 b2 e2 : Int} (hJ : rJ V J) (kA1 : bk A1 (J 7)) (kU1 : bk U1 (J 8)) (kA2 : bk A2 (J 9)) (kU2 : bk U2 (J 10)) (mA1 : dn A1 ≤ 300) (mU1 : dn U1 ≤ 300) (mA2 : dn A2 ≤ 300) (mU2 : dn U2 ≤ 300) (z : Int) (hz : ir z) (hz0 : z ≠ 0) (hz1 : z ≠ 1) (v : Int) : ef_C l ry_M_set rw_M_set ({ frames := 1, cells := 0, slots := 0, locals := 24 } : Room) [.ref (r 0), .int (iv (0)), .int (iv (z)), .long (jv (v))] (dC, dI) vwCl tys (rC cI r ((V 0)) ((V 1)) ((V 2)) ((V 3)) ((V 4)) ((V 5)) ((V 6)) (A1) (U1) (A2) (U2) ((J 0)) ((J 1)) ((J 2)) ((J 3)) ((J 4)) ((J 5)) ((J 6)) ((J 7)) ((J 8)) ((J 9)) ((J 10)) (pb) (pe) (ob) (oe) (b1) (e1) (b2) (e2)) (fun o w1 => ∃ (V2 : Nat → Nat) (J2 : Nat → Nat → Nat) (pb2 pe2 ob2 oe2 : Int), o = some (.int (iv (-1))) ∧ w1 = rC cI r (V2 0) (V2 1) (V2 2) (V2 3) (V2 4) (V2 5) (V2 6) (A1) (U1) (A2) (U2) (J2 0) (J2 1) (J2 2) (J2 3) (J2 4) (J2 5) (J2 6) (J2 7) (J2 8) (J2 9) (J2 10) (pb2) (pe2) (ob2) (oe2) (b1) (e1) (b2) (e2) ∧ rJ V2 J2 ∧ bk (A1) (J2 7) ∧ bk (U1) (J2 8) ∧ bk (A2) (J2 9) ∧ bk (U2) (J2 10)) := by
  refine ef_C.of (cc := rc_M_set) (maxL := 6) (ret := (some .int)) (by decide) rfl (Nat.le_of_ble_eq_true rfl) ?_
  intro p e s m below meth c ls hx hb hml hr hts hown hlocks hK hNX hP hD hS hl
  have hl : lv_has ls 6 [(0, .ref (r 0)), (1, .int (iv (0))), (2, .int (iv (z))), (3, .long (jv (v)))] := hl
  have hown : s.vm.findClass rR5 = some m.cls := hown
  generalize hH : s.heap = H at hP ⊢
  have hS : va_S (ef_A (rC cI r ((V 0)) ((V 1)) ((V 2)) ((V 3)) ((V 4)) ((V 5)) ((V 6)) (A1) (U1) (A2) (U2) ((J 0)) ((J 1)) ((J 2)) ((J 3)) ((J 4)) ((J 5)) ((J 6)) ((J 7)) ((J 8)) ((J 9)) ((J 10)) (pb) (pe) (ob) (oe) (b1) (e1) (b2) (e2))) s.heap H [] := by rw [← hH]; exact hS
  generalize ([] : List Loc) = locs at hS ⊢
  refine lv_iload_n hx hb rd_M_set_0 rfl (lv_at hl 1 rfl) ?_
  refine ef_callS (As := [.int (iv (0))]) (rest := []) ⟨hx, hb, hml, hown, hts⟩ (r_isNumber0 l dC dI ht r) (cwS 1 hts (ef_goodS rm_336 rm_337 rm_24 rm_338) rfl rfl rfl (by decide +kernel) ⟨Nat.le_of_ble_eq_true rfl, Nat.le_of_ble_eq_true rfl⟩) hK hNX hP hD hS rfl hl.1 rfl (Nat.le_of_ble_eq_true rfl) rd_M_set_1 ⟨Nat.zero_le _, Nat.zero_le _⟩ (fun o w1 H locs hq hP hD hS => ?_)
  obtain ⟨rfl, e9⟩ := hq
  rw [e9] at hP hD
  refine W.eq (g2 := F0 m 4 ls [.int (iv (1))]) rfl ?_
  refine iw_if_eq (tgt := 14) hx hb rd_M_set_4 (by decide) ⟨by omega, by omega⟩ (fun k1 => ?_) (fun k1 => ?_)
  ·
    exact absurd k1 (by decide)
  ·
    refine lv_iload_n hx hb rd_M_set_7 rfl (lv_at hl 2 rfl) ?_
    refine ef_callS (As := [.int (iv (z))]) (rest := []) ⟨hx, hb, hml, hown, hts⟩ (r_isNumberx l dC dI ht r z hz hz0 hz1) (cwS 1 hts (ef_goodS rm_336 rm_337 rm_24 rm_338) rfl rfl rfl (by decide +kernel) ⟨Nat.le_of_ble_eq_true rfl, Nat.le_of_ble_eq_true rfl⟩) hK hNX hP hD hS rfl hl.1 rfl (Nat.le_of_ble_eq_true rfl) rd_M_set_8 ⟨Nat.zero_le _, Nat.zero_le _⟩ (fun o w1 H locs hq hP hD hS => ?_)
    obtain ⟨rfl, e9⟩ := hq
    rw [e9] at hP hD
    refine W.eq (g2 := F0 m 11 ls [.int (iv (0))]) rfl ?_
    refine iw_if_ne (tgt := 16) hx hb rd_M_set_11 (by decide) ⟨by omega, by omega⟩ (fun k2 => ?_) (fun k2 => ?_)
    ·
      exact absurd rfl k2
    ·
      refine lv_iconst (v := iv (-1)) hx hb rd_M_set_14 (by decide) ?_
      exact ef_iret hx hb hr hlocks hP hD hS rd_M_set_15 (⟨fun i => [((V 0)), ((V 1)), ((V 2)), ((V 3)), ((V 4)), ((V 5)), ((V 6))].getD i 0, fun i => [((J 0)), ((J 1)), ((J 2)), ((J 3)), ((J 4)), ((J 5)), ((J 6)), ((J 7)), ((J 8)), ((J 9)), ((J 10))].getD i (fun _ => 0), _, _, _, _, rfl, rfl, rJ_of (hJ 0 (by decide)) (hJ 1 (by decide)) (hJ 2 (by decide)) (hJ 3 (by decide)) (hJ 4 (by decide)) (hJ 5 (by decide)) (hJ 6 (by decide)), kA1, kU1, kA2, kU2⟩)

set_option maxRecDepth 100000 in
set_option maxHeartbeats 4000000 in
/-- set of no part -/
theorem r_mset1x (l : Launch) (dC : Nat → ClassId) (dI : Nat → Nat → Nat) {cI : ClassId} {tys : List (ClassId × FieldType)} (ht : tys[0]? = some (cI, .int)) (r : Nat → Nat) {V : Nat → Nat} {J : Nat → Nat → Nat} {A1 U1 A2 U2 : Nat} {pb pe ob oe b1 e1 b2 e2 : Int} (hJ : rJ V J) (kA1 : bk A1 (J 7)) (kU1 : bk U1 (J 8)) (kA2 : bk A2 (J 9)) (kU2 : bk U2 (J 10)) (mA1 : dn A1 ≤ 300) (mU1 : dn U1 ≤ 300) (mA2 : dn A2 ≤ 300) (mU2 : dn U2 ≤ 300) (z : Int) (hz : ir z) (hz0 : z ≠ 0) (hz1 : z ≠ 1) (v : Int) : ef_C l ry_M_set rw_M_set ({ frames := 1, cells := 0, slots := 0, locals := 24 } : Room) [.ref (r 0), .int (iv (1)), .int (iv (z)), .long (jv (v))] (dC, dI) vwCl tys (rC cI r ((V 0)) ((V 1)) ((V 2)) ((V 3)) ((V 4)) ((V 5)) ((V 6)) (A1) (U1) (A2) (U2) ((J 0)) ((J 1)) ((J 2)) ((J 3)) ((J 4)) ((J 5)) ((J 6)) ((J 7)) ((J 8)) ((J 9)) ((J 10)) (pb) (pe) (ob) (oe) (b1) (e1) (b2) (e2)) (fun o w1 => ∃ (V2 : Nat → Nat) (J2 : Nat → Nat → Nat) (pb2 pe2 ob2 oe2 : Int), o = some (.int (iv (-1))) ∧ w1 = rC cI r (V2 0) (V2 1) (V2 2) (V2 3) (V2 4) (V2 5) (V2 6) (A1) (U1) (A2) (U2) (J2 0) (J2 1) (J2 2) (J2 3) (J2 4) (J2 5) (J2 6) (J2 7) (J2 8) (J2 9) (J2 10) (pb2) (pe2) (ob2) (oe2) (b1) (e1) (b2) (e2) ∧ rJ V2 J2 ∧ bk (A1) (J2 7) ∧ bk (U1) (J2 8) ∧ bk (A2) (J2 9) ∧ bk (U2) (J2 10)) := by
  refine ef_C.of (cc := rc_M_set) (maxL := 6) (ret := (some .int)) (by decide) rfl (Nat.le_of_ble_eq_true rfl) ?_
  intro p e s m below meth c ls hx hb hml hr hts hown hlocks hK hNX hP hD hS hl
  have hl : lv_has ls 6 [(0, .ref (r 0)), (1, .int (iv (1))), (2, .int (iv (z))), (3, .long (jv (v)))] := hl
  have hown : s.vm.findClass rR5 = some m.cls := hown
  generalize hH : s.heap = H at hP ⊢
  have hS : va_S (ef_A (rC cI r ((V 0)) ((V 1)) ((V 2)) ((V 3)) ((V 4)) ((V 5)) ((V 6)) (A1) (U1) (A2) (U2) ((J 0)) ((J 1)) ((J 2)) ((J 3)) ((J 4)) ((J 5)) ((J 6)) ((J 7)) ((J 8)) ((J 9)) ((J 10)) (pb) (pe) (ob) (oe) (b1) (e1) (b2) (e2))) s.heap H [] := by rw [← hH]; exact hS
  generalize ([] : List Loc) = locs at hS ⊢
  refine lv_iload_n hx hb rd_M_set_0 rfl (lv_at hl 1 rfl) ?_
  refine ef_callS (As := [.int (iv (1))]) (rest := []) ⟨hx, hb, hml, hown, hts⟩ (r_isNumber1 l dC dI ht r) (cwS 1 hts (ef_goodS rm_336 rm_337 rm_24 rm_338) rfl rfl rfl (by decide +kernel) ⟨Nat.le_of_ble_eq_true rfl, Nat.le_of_ble_eq_true rfl⟩) hK hNX hP hD hS rfl hl.1 rfl (Nat.le_of_ble_eq_true rfl) rd_M_set_1 ⟨Nat.zero_le _, Nat.zero_le _⟩ (fun o w1 H locs hq hP hD hS => ?_)
  obtain ⟨rfl, e9⟩ := hq
  rw [e9] at hP hD
  refine W.eq (g2 := F0 m 4 ls [.int (iv (1))]) rfl ?_
  refine iw_if_eq (tgt := 14) hx hb rd_M_set_4 (by decide) ⟨by omega, by omega⟩ (fun k1 => ?_) (fun k1 => ?_)
  ·
    exact absurd k1 (by decide)
  ·
    refine lv_iload_n hx hb rd_M_set_7 rfl (lv_at hl 2 rfl) ?_
    refine ef_callS (As := [.int (iv (z))]) (rest := []) ⟨hx, hb, hml, hown, hts⟩ (r_isNumberx l dC dI ht r z hz hz0 hz1) (cwS 1 hts (ef_goodS rm_336 rm_337 rm_24 rm_338) rfl rfl rfl (by decide +kernel) ⟨Nat.le_of_ble_eq_true rfl, Nat.le_of_ble_eq_true rfl⟩) hK hNX hP hD hS rfl hl.1 rfl (Nat.le_of_ble_eq_true rfl) rd_M_set_8 ⟨Nat.zero_le _, Nat.zero_le _⟩ (fun o w1 H locs hq hP hD hS => ?_)
    obtain ⟨rfl, e9⟩ := hq
    rw [e9] at hP hD
    refine W.eq (g2 := F0 m 11 ls [.int (iv (0))]) rfl ?_
    refine iw_if_ne (tgt := 16) hx hb rd_M_set_11 (by decide) ⟨by omega, by omega⟩ (fun k2 => ?_) (fun k2 => ?_)
    ·
      exact absurd rfl k2
    ·
      refine lv_iconst (v := iv (-1)) hx hb rd_M_set_14 (by decide) ?_
      exact ef_iret hx hb hr hlocks hP hD hS rd_M_set_15 (⟨fun i => [((V 0)), ((V 1)), ((V 2)), ((V 3)), ((V 4)), ((V 5)), ((V 6))].getD i 0, fun i => [((J 0)), ((J 1)), ((J 2)), ((J 3)), ((J 4)), ((J 5)), ((J 6)), ((J 7)), ((J 8)), ((J 9)), ((J 10))].getD i (fun _ => 0), _, _, _, _, rfl, rfl, rJ_of (hJ 0 (by decide)) (hJ 1 (by decide)) (hJ 2 (by decide)) (hJ 3 (by decide)) (hJ 4 (by decide)) (hJ 5 (by decide)) (hJ 6 (by decide)), kA1, kU1, kA2, kU2⟩)

set_option maxRecDepth 100000 in
set_option maxHeartbeats 4000000 in
/-- set of no part -/
theorem r_msetxx (l : Launch) (dC : Nat → ClassId) (dI : Nat → Nat → Nat) {cI : ClassId} {tys : List (ClassId × FieldType)} (ht : tys[0]? = some (cI, .int)) (r : Nat → Nat) {V : Nat → Nat} {J : Nat → Nat → Nat} {A1 U1 A2 U2 : Nat} {pb pe ob oe b1 e1 b2 e2 : Int} (hJ : rJ V J) (kA1 : bk A1 (J 7)) (kU1 : bk U1 (J 8)) (kA2 : bk A2 (J 9)) (kU2 : bk U2 (J 10)) (mA1 : dn A1 ≤ 300) (mU1 : dn U1 ≤ 300) (mA2 : dn A2 ≤ 300) (mU2 : dn U2 ≤ 300) (z y : Int) (hz : ir z) (hz0 : z ≠ 0) (hz1 : z ≠ 1) (v : Int) : ef_C l ry_M_set rw_M_set ({ frames := 1, cells := 0, slots := 0, locals := 24 } : Room) [.ref (r 0), .int (iv (z)), .int (iv (y)), .long (jv (v))] (dC, dI) vwCl tys (rC cI r ((V 0)) ((V 1)) ((V 2)) ((V 3)) ((V 4)) ((V 5)) ((V 6)) (A1) (U1) (A2) (U2) ((J 0)) ((J 1)) ((J 2)) ((J 3)) ((J 4)) ((J 5)) ((J 6)) ((J 7)) ((J 8)) ((J 9)) ((J 10)) (pb) (pe) (ob) (oe) (b1) (e1) (b2) (e2)) (fun o w1 => ∃ (V2 : Nat → Nat) (J2 : Nat → Nat → Nat) (pb2 pe2 ob2 oe2 : Int), o = some (.int (iv (-1))) ∧ w1 = rC cI r (V2 0) (V2 1) (V2 2) (V2 3) (V2 4) (V2 5) (V2 6) (A1) (U1) (A2) (U2) (J2 0) (J2 1) (J2 2) (J2 3) (J2 4) (J2 5) (J2 6) (J2 7) (J2 8) (J2 9) (J2 10) (pb2) (pe2) (ob2) (oe2) (b1) (e1) (b2) (e2) ∧ rJ V2 J2 ∧ bk (A1) (J2 7) ∧ bk (U1) (J2 8) ∧ bk (A2) (J2 9) ∧ bk (U2) (J2 10)) := by
  refine ef_C.of (cc := rc_M_set) (maxL := 6) (ret := (some .int)) (by decide) rfl (Nat.le_of_ble_eq_true rfl) ?_
  intro p e s m below meth c ls hx hb hml hr hts hown hlocks hK hNX hP hD hS hl
  have hl : lv_has ls 6 [(0, .ref (r 0)), (1, .int (iv (z))), (2, .int (iv (y))), (3, .long (jv (v)))] := hl
  have hown : s.vm.findClass rR5 = some m.cls := hown
  generalize hH : s.heap = H at hP ⊢
  have hS : va_S (ef_A (rC cI r ((V 0)) ((V 1)) ((V 2)) ((V 3)) ((V 4)) ((V 5)) ((V 6)) (A1) (U1) (A2) (U2) ((J 0)) ((J 1)) ((J 2)) ((J 3)) ((J 4)) ((J 5)) ((J 6)) ((J 7)) ((J 8)) ((J 9)) ((J 10)) (pb) (pe) (ob) (oe) (b1) (e1) (b2) (e2))) s.heap H [] := by rw [← hH]; exact hS
  generalize ([] : List Loc) = locs at hS ⊢
  refine lv_iload_n hx hb rd_M_set_0 rfl (lv_at hl 1 rfl) ?_
  refine ef_callS (As := [.int (iv (z))]) (rest := []) ⟨hx, hb, hml, hown, hts⟩ (r_isNumberx l dC dI ht r z hz hz0 hz1) (cwS 1 hts (ef_goodS rm_336 rm_337 rm_24 rm_338) rfl rfl rfl (by decide +kernel) ⟨Nat.le_of_ble_eq_true rfl, Nat.le_of_ble_eq_true rfl⟩) hK hNX hP hD hS rfl hl.1 rfl (Nat.le_of_ble_eq_true rfl) rd_M_set_1 ⟨Nat.zero_le _, Nat.zero_le _⟩ (fun o w1 H locs hq hP hD hS => ?_)
  obtain ⟨rfl, e9⟩ := hq
  rw [e9] at hP hD
  refine W.eq (g2 := F0 m 4 ls [.int (iv (0))]) rfl ?_
  refine iw_if_eq (tgt := 14) hx hb rd_M_set_4 (by decide) ⟨by omega, by omega⟩ (fun k1 => ?_) (fun k1 => ?_)
  ·
    refine lv_iconst (v := iv (-1)) hx hb rd_M_set_14 (by decide) ?_
    exact ef_iret hx hb hr hlocks hP hD hS rd_M_set_15 (⟨fun i => [((V 0)), ((V 1)), ((V 2)), ((V 3)), ((V 4)), ((V 5)), ((V 6))].getD i 0, fun i => [((J 0)), ((J 1)), ((J 2)), ((J 3)), ((J 4)), ((J 5)), ((J 6)), ((J 7)), ((J 8)), ((J 9)), ((J 10))].getD i (fun _ => 0), _, _, _, _, rfl, rfl, rJ_of (hJ 0 (by decide)) (hJ 1 (by decide)) (hJ 2 (by decide)) (hJ 3 (by decide)) (hJ 4 (by decide)) (hJ 5 (by decide)) (hJ 6 (by decide)), kA1, kU1, kA2, kU2⟩)
  ·
    exact absurd rfl k1
