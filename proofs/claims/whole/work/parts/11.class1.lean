set_option maxRecDepth 100000 in
set_option maxHeartbeats 4000000 in
/-- begin -/
theorem c_begin0 (l : Launch) (dC : Nat → ClassId) (dI : Nat → Nat → Nat) {cI : ClassId} {tys : List (ClassId × FieldType)} (ht : tys[0]? = some (cI, .int)) (q : Nat → Nat) {A1 U1 A2 U2 L R : Nat} {b1 e1 b2 e2 : Int} (hA1 : wl A1 ≤ 150) (hU1 : wl U1 ≤ 150) (hA2 : wl A2 ≤ 150) (hU2 : wl U2 ≤ 150) (hL : wl L ≤ 301) (hR : wl R ≤ 301) : ef_C l yX2_begin wsX2_begin ({ frames := 4, cells := 0, slots := 0, locals := 87 } : Room) [.ref (q 0), .int (iv (0))] (dC, dI) vwCl tys (cC cI q (A1) (U1) (b1) (e1) (A2) (U2) (b2) (e2) (L) (R)) (fun o w1 => ∃ L2 R2 : Nat, o = some (.int (iv (0))) ∧ w1 = cC cI q (0) (1) (0) (0) (A2) (U2) (b2) (e2) (L2) (R2) ∧ wl L2 ≤ 301 ∧ wl R2 ≤ 301) := by
  refine ef_C.of (cc := cX2_begin) (maxL := 3) (ret := (some .int)) (by decide) rfl (Nat.le_of_ble_eq_true rfl) ?_
  intro p e s m below meth c ls hx hb hml hr hts hown hlocks hK hNX hP hD hS hl
  have hl : lv_has ls 3 [(0, .ref (q 0)), (1, .int (iv (0)))] := hl
  have hown : s.vm.findClass RX2 = some m.cls := hown
  generalize hH : s.heap = H at hP ⊢
  have hS : va_S (ef_A (cC cI q (A1) (U1) (b1) (e1) (A2) (U2) (b2) (e2) (L) (R))) s.heap H [] := by rw [← hH]; exact hS
  generalize ([] : List Loc) = locs at hS ⊢
  refine lv_aload_n hx hb dX2_begin_0 rfl (lv_at hl 0 rfl) ?_
  refine lv_iload_n hx hb dX2_begin_1 rfl (lv_at hl 1 rfl) ?_
  refine ef_callV (As := [.int (iv (0))]) (rest := []) ⟨hx, hb, hml, hown, hts⟩ (c_numberOf0 l dC dI ht q) (cwV 1 hts gX2_begin_X2_numberOf rfl rfl rfl (by decide +kernel) ⟨Nat.le_of_ble_eq_true rfl, Nat.le_of_ble_eq_true rfl⟩) hK hNX hP hD hS 0 rfl rfl rfl rfl hl.1 rfl (Nat.le_of_ble_eq_true rfl) dX2_begin_2 ⟨Nat.zero_le _, Nat.zero_le _⟩ (fun o w1 H locs hq hP hD hS => ?_)
  obtain ⟨rfl, e9⟩ := hq
  rw [e9] at hP hD
  refine W.eq (g2 := F0 m 5 ls [.ref (q 1)]) rfl ?_
  refine lv_astore_n (lv' := [(2, .ref (q 1)), (0, .ref (q 0)), (1, .int (iv (0)))]) hx hb dX2_begin_5 rfl hl (by decide) rfl (fun ls hl => ?_)
  refine lv_aload_n hx hb dX2_begin_6 rfl (lv_at hl 0 rfl) ?_
  refine lv_ifnonnull (tgt := 12) hx hb dX2_begin_7 (by decide) ?_
  refine lv_aload_n hx hb dX2_begin_12 rfl (lv_at hl 0 rfl) ?_
  refine ef_callV (As := []) (rest := []) ⟨hx, hb, hml, hown, hts⟩ (c_restart0 l dC dI ht q hA1 hU1 hA2 hU2 hL hR) (cwV 0 hts gX2_begin_X0_restart rfl rfl rfl (by decide +kernel) ⟨Nat.le_of_ble_eq_true rfl, Nat.le_of_ble_eq_true rfl⟩) hK hNX hP hD hS 1 rfl rfl rfl rfl hl.1 rfl (Nat.le_of_ble_eq_true rfl) dX2_begin_13 ⟨Nat.zero_le _, Nat.zero_le _⟩ (fun o w1 H locs hq hP hD hS => ?_)
  obtain ⟨rfl, rfl⟩ := hq
  have hP : va_P (dC, dI) vwCl (cC cI q (0) (1) (0) (0) (A2) (U2) (b2) (e2) (L) (R)) H := hP
  have hD : va_D (ef_A (cC cI q (A1) (U1) (b1) (e1) (A2) (U2) (b2) (e2) (L) (R))) (cC cI q (0) (1) (0) (0) (A2) (U2) (b2) (e2) (L) (R)) := hD
  refine W.eq (g2 := F0 m 16 ls []) rfl ?_
  refine lv_iconst (v := iv (0)) hx hb dX2_begin_16 (by decide) ?_
  exact ef_iret hx hb hr hlocks hP hD hS dX2_begin_17 (⟨_, _, rfl, rfl, hL, hR⟩)

set_option maxRecDepth 100000 in
set_option maxHeartbeats 4000000 in
/-- begin -/
theorem c_begin1 (l : Launch) (dC : Nat → ClassId) (dI : Nat → Nat → Nat) {cI : ClassId} {tys : List (ClassId × FieldType)} (ht : tys[0]? = some (cI, .int)) (q : Nat → Nat) {A1 U1 A2 U2 L R : Nat} {b1 e1 b2 e2 : Int} (hA1 : wl A1 ≤ 150) (hU1 : wl U1 ≤ 150) (hA2 : wl A2 ≤ 150) (hU2 : wl U2 ≤ 150) (hL : wl L ≤ 301) (hR : wl R ≤ 301) : ef_C l yX2_begin wsX2_begin ({ frames := 4, cells := 0, slots := 0, locals := 87 } : Room) [.ref (q 0), .int (iv (1))] (dC, dI) vwCl tys (cC cI q (A1) (U1) (b1) (e1) (A2) (U2) (b2) (e2) (L) (R)) (fun o w1 => ∃ L2 R2 : Nat, o = some (.int (iv (0))) ∧ w1 = cC cI q (A1) (U1) (b1) (e1) (0) (1) (0) (0) (L2) (R2) ∧ wl L2 ≤ 301 ∧ wl R2 ≤ 301) := by
  refine ef_C.of (cc := cX2_begin) (maxL := 3) (ret := (some .int)) (by decide) rfl (Nat.le_of_ble_eq_true rfl) ?_
  intro p e s m below meth c ls hx hb hml hr hts hown hlocks hK hNX hP hD hS hl
  have hl : lv_has ls 3 [(0, .ref (q 0)), (1, .int (iv (1)))] := hl
  have hown : s.vm.findClass RX2 = some m.cls := hown
  generalize hH : s.heap = H at hP ⊢
  have hS : va_S (ef_A (cC cI q (A1) (U1) (b1) (e1) (A2) (U2) (b2) (e2) (L) (R))) s.heap H [] := by rw [← hH]; exact hS
  generalize ([] : List Loc) = locs at hS ⊢
  refine lv_aload_n hx hb dX2_begin_0 rfl (lv_at hl 0 rfl) ?_
  refine lv_iload_n hx hb dX2_begin_1 rfl (lv_at hl 1 rfl) ?_
  refine ef_callV (As := [.int (iv (1))]) (rest := []) ⟨hx, hb, hml, hown, hts⟩ (c_numberOf1 l dC dI ht q) (cwV 1 hts gX2_begin_X2_numberOf rfl rfl rfl (by decide +kernel) ⟨Nat.le_of_ble_eq_true rfl, Nat.le_of_ble_eq_true rfl⟩) hK hNX hP hD hS 0 rfl rfl rfl rfl hl.1 rfl (Nat.le_of_ble_eq_true rfl) dX2_begin_2 ⟨Nat.zero_le _, Nat.zero_le _⟩ (fun o w1 H locs hq hP hD hS => ?_)
  obtain ⟨rfl, e9⟩ := hq
  rw [e9] at hP hD
  refine W.eq (g2 := F0 m 5 ls [.ref (q 2)]) rfl ?_
  refine lv_astore_n (lv' := [(2, .ref (q 2)), (0, .ref (q 0)), (1, .int (iv (1)))]) hx hb dX2_begin_5 rfl hl (by decide) rfl (fun ls hl => ?_)
  refine lv_aload_n hx hb dX2_begin_6 rfl (lv_at hl 0 rfl) ?_
  refine lv_ifnonnull (tgt := 12) hx hb dX2_begin_7 (by decide) ?_
  refine lv_aload_n hx hb dX2_begin_12 rfl (lv_at hl 0 rfl) ?_
  refine ef_callV (As := []) (rest := []) ⟨hx, hb, hml, hown, hts⟩ (c_restart1 l dC dI ht q hA1 hU1 hA2 hU2 hL hR) (cwV 0 hts gX2_begin_X0_restart rfl rfl rfl (by decide +kernel) ⟨Nat.le_of_ble_eq_true rfl, Nat.le_of_ble_eq_true rfl⟩) hK hNX hP hD hS 2 rfl rfl rfl rfl hl.1 rfl (Nat.le_of_ble_eq_true rfl) dX2_begin_13 ⟨Nat.zero_le _, Nat.zero_le _⟩ (fun o w1 H locs hq hP hD hS => ?_)
  obtain ⟨rfl, rfl⟩ := hq
  have hP : va_P (dC, dI) vwCl (cC cI q (A1) (U1) (b1) (e1) (0) (1) (0) (0) (L) (R)) H := hP
  have hD : va_D (ef_A (cC cI q (A1) (U1) (b1) (e1) (A2) (U2) (b2) (e2) (L) (R))) (cC cI q (A1) (U1) (b1) (e1) (0) (1) (0) (0) (L) (R)) := hD
  refine W.eq (g2 := F0 m 16 ls []) rfl ?_
  refine lv_iconst (v := iv (0)) hx hb dX2_begin_16 (by decide) ?_
  exact ef_iret hx hb hr hlocks hP hD hS dX2_begin_17 (⟨_, _, rfl, rfl, hL, hR⟩)

set_option maxRecDepth 100000 in
set_option maxHeartbeats 4000000 in
/-- begin -/
theorem c_beginx (l : Launch) (dC : Nat → ClassId) (dI : Nat → Nat → Nat) {cI : ClassId} {tys : List (ClassId × FieldType)} (ht : tys[0]? = some (cI, .int)) (q : Nat → Nat) {A1 U1 A2 U2 L R : Nat} {b1 e1 b2 e2 : Int} (hA1 : wl A1 ≤ 150) (hU1 : wl U1 ≤ 150) (hA2 : wl A2 ≤ 150) (hU2 : wl U2 ≤ 150) (hL : wl L ≤ 301) (hR : wl R ≤ 301) (z : Int) (hz : ir z) (hz0 : z ≠ 0) (hz1 : z ≠ 1) : ef_C l yX2_begin wsX2_begin ({ frames := 4, cells := 0, slots := 0, locals := 87 } : Room) [.ref (q 0), .int (iv (z))] (dC, dI) vwCl tys (cC cI q (A1) (U1) (b1) (e1) (A2) (U2) (b2) (e2) (L) (R)) (fun o w1 => ∃ L2 R2 : Nat, o = some (.int (iv (-1))) ∧ w1 = cC cI q (A1) (U1) (b1) (e1) (A2) (U2) (b2) (e2) (L2) (R2) ∧ wl L2 ≤ 301 ∧ wl R2 ≤ 301) := by
  refine ef_C.of (cc := cX2_begin) (maxL := 3) (ret := (some .int)) (by decide) rfl (Nat.le_of_ble_eq_true rfl) ?_
  intro p e s m below meth c ls hx hb hml hr hts hown hlocks hK hNX hP hD hS hl
  have hl : lv_has ls 3 [(0, .ref (q 0)), (1, .int (iv (z)))] := hl
  have hown : s.vm.findClass RX2 = some m.cls := hown
  generalize hH : s.heap = H at hP ⊢
  have hS : va_S (ef_A (cC cI q (A1) (U1) (b1) (e1) (A2) (U2) (b2) (e2) (L) (R))) s.heap H [] := by rw [← hH]; exact hS
  generalize ([] : List Loc) = locs at hS ⊢
  refine lv_aload_n hx hb dX2_begin_0 rfl (lv_at hl 0 rfl) ?_
  refine lv_iload_n hx hb dX2_begin_1 rfl (lv_at hl 1 rfl) ?_
  refine ef_callV (As := [.int (iv (z))]) (rest := []) ⟨hx, hb, hml, hown, hts⟩ (c_numberOfx l dC dI ht q z hz hz0 hz1) (cwV 1 hts gX2_begin_X2_numberOf rfl rfl rfl (by decide +kernel) ⟨Nat.le_of_ble_eq_true rfl, Nat.le_of_ble_eq_true rfl⟩) hK hNX hP hD hS 0 rfl rfl rfl rfl hl.1 rfl (Nat.le_of_ble_eq_true rfl) dX2_begin_2 ⟨Nat.zero_le _, Nat.zero_le _⟩ (fun o w1 H locs hq hP hD hS => ?_)
  obtain ⟨rfl, e9⟩ := hq
  rw [e9] at hP hD
  refine W.eq (g2 := F0 m 5 ls [.null]) rfl ?_
  refine lv_astore_nN (lv' := [(2, .null), (0, .ref (q 0)), (1, .int (iv (z)))]) hx hb dX2_begin_5 rfl hl (by decide) rfl (fun ls hl => ?_)
  refine lv_aload_nN hx hb dX2_begin_6 rfl (lv_at hl 0 rfl) ?_
  refine lv_ifnonnullN hx hb dX2_begin_7 ?_
  refine lv_iconst (v := iv (-1)) hx hb dX2_begin_10 (by decide) ?_
  exact ef_iret hx hb hr hlocks hP hD hS dX2_begin_11 (⟨_, _, rfl, rfl, hL, hR⟩)

set_option maxRecDepth 100000 in
set_option maxHeartbeats 4000000 in
/-- keepLeftIn -/
theorem c_keep00F (l : Launch) (dC : Nat → ClassId) (dI : Nat → Nat → Nat) {cI : ClassId} {tys : List (ClassId × FieldType)} (ht : tys[0]? = some (cI, .int)) (q : Nat → Nat) {A1 U1 A2 U2 L R : Nat} {b1 e1 b2 e2 : Int} (hA1 : wl A1 ≤ 150) (hU1 : wl U1 ≤ 150) (hA2 : wl A2 ≤ 150) (hU2 : wl U2 ≤ 150) (hL : wl L ≤ 301) (hR : wl R ≤ 301) (hb4 : 4800 < bl L) : ef_C l yX2_keepLeftIn wsX2_keepLeftIn ({ frames := 3, cells := 0, slots := 0, locals := 67 } : Room) [.ref (q 0), .ref (q 3)] (dC, dI) vwCl tys (cC cI q (A1) (U1) (b1) (e1) (A2) (U2) (b2) (e2) (L) (R)) (fun o w1 => o = some (.int (iv (-2))) ∧ w1 = cC cI q (A1) (U1) (b1) (e1) (A2) (U2) (b2) (e2) (L) (R)) := by
  refine ef_C.of (cc := cX2_keepLeftIn) (maxL := 2) (ret := (some .int)) (by decide) rfl (Nat.le_of_ble_eq_true rfl) ?_
  intro p e s m below meth c ls hx hb hml hr hts hown hlocks hK hNX hP hD hS hl
  have hl : lv_has ls 2 [(0, .ref (q 0)), (1, .ref (q 3))] := hl
  have hown : s.vm.findClass RX2 = some m.cls := hown
  generalize hH : s.heap = H at hP ⊢
  have hS : va_S (ef_A (cC cI q (A1) (U1) (b1) (e1) (A2) (U2) (b2) (e2) (L) (R))) s.heap H [] := by rw [← hH]; exact hS
  generalize ([] : List Loc) = locs at hS ⊢
  have hbl : bl L ≤ 9632 := bl_le (Nat.lt_of_lt_of_le (wl_lt L) (Nat.pow_le_pow_right (by decide) (by omega)))
  refine lv_aload_n hx hb dX2_keepLeftIn_0 rfl (lv_at hl 0 rfl) ?_
  refine va_get (D := (dC, dI)) (ci := 2) (v := .ref (q 11)) (C := RX2) (T := TX2) (N := 4) hx hb hts (by decide +kernel) hown hK hP 0 rfl rfl 2 (by decide) (hts (.fieldLink RX2 22 "ExactFractions" "left" "LExactFractions$Whole;") (by decide +kernel)) (fun _ h9 => h9) rfl dX2_keepLeftIn_1 ?_
  refine ef_callV (As := []) (rest := []) ⟨hx, hb, hml, hown, hts⟩ (c_length l dC dI ht (isW_c (X := L) (ws := cC cI q (A1) (U1) (b1) (e1) (A2) (U2) (b2) (e2) (L) (R)) (k0 := 11) (k1 := 12) (by decide) rfl rfl) hL) (cwV 0 hts gX2_keepLeftIn_X1_length rfl rfl rfl (by decide +kernel) ⟨Nat.le_of_ble_eq_true rfl, Nat.le_of_ble_eq_true rfl⟩) hK hNX hP hD hS 11 rfl rfl rfl rfl hl.1 rfl (Nat.le_of_ble_eq_true rfl) dX2_keepLeftIn_4 ⟨Nat.zero_le _, Nat.zero_le _⟩ (fun o w1 H locs hq hP hD hS => ?_)
  obtain ⟨rfl, e9⟩ := hq
  rw [e9] at hP hD
  refine W.eq (g2 := F0 m 7 ls [.int (iv ((bl L : Int)))]) rfl ?_
  refine lv_sipush (v := iv (4800)) hx hb dX2_keepLeftIn_7 (by decide) ?_
  refine iw_icmp_le (tgt := 16) hx hb dX2_keepLeftIn_10 (by decide) ⟨by omega, by omega⟩ ⟨by omega, by omega⟩ (fun c1 => ?_) (fun c1 => ?_)
  ·
    exact absurd c1 (by omega)
  ·
    refine lv_bipush (v := iv (-2)) hx hb dX2_keepLeftIn_13 (by decide) ?_
    exact ef_iret hx hb hr hlocks hP hD hS dX2_keepLeftIn_15 (⟨rfl, rfl⟩)

set_option maxRecDepth 100000 in
set_option maxHeartbeats 4000000 in
/-- keepLeftIn -/
theorem c_keep00K (l : Launch) (dC : Nat → ClassId) (dI : Nat → Nat → Nat) {cI : ClassId} {tys : List (ClassId × FieldType)} (ht : tys[0]? = some (cI, .int)) (q : Nat → Nat) {A1 U1 A2 U2 L R : Nat} {b1 e1 b2 e2 : Int} (hA1 : wl A1 ≤ 150) (hU1 : wl U1 ≤ 150) (hA2 : wl A2 ≤ 150) (hU2 : wl U2 ≤ 150) (hL : wl L ≤ 301) (hR : wl R ≤ 301) (hb4 : bl L ≤ 4800) : ef_C l yX2_keepLeftIn wsX2_keepLeftIn ({ frames := 3, cells := 0, slots := 0, locals := 67 } : Room) [.ref (q 0), .ref (q 3)] (dC, dI) vwCl tys (cC cI q (A1) (U1) (b1) (e1) (A2) (U2) (b2) (e2) (L) (R)) (fun o w1 => o = some (.int (iv (bl L : Int))) ∧ w1 = cC cI q (L) (U1) (b1) (e1) (A2) (U2) (b2) (e2) (L) (R)) := by
  refine ef_C.of (cc := cX2_keepLeftIn) (maxL := 2) (ret := (some .int)) (by decide) rfl (Nat.le_of_ble_eq_true rfl) ?_
  intro p e s m below meth c ls hx hb hml hr hts hown hlocks hK hNX hP hD hS hl
  have hl : lv_has ls 2 [(0, .ref (q 0)), (1, .ref (q 3))] := hl
  have hown : s.vm.findClass RX2 = some m.cls := hown
  generalize hH : s.heap = H at hP ⊢
  have hS : va_S (ef_A (cC cI q (A1) (U1) (b1) (e1) (A2) (U2) (b2) (e2) (L) (R))) s.heap H [] := by rw [← hH]; exact hS
  generalize ([] : List Loc) = locs at hS ⊢
  have hbl : bl L ≤ 9632 := bl_le (Nat.lt_of_lt_of_le (wl_lt L) (Nat.pow_le_pow_right (by decide) (by omega)))
  refine lv_aload_n hx hb dX2_keepLeftIn_0 rfl (lv_at hl 0 rfl) ?_
  refine va_get (D := (dC, dI)) (ci := 2) (v := .ref (q 11)) (C := RX2) (T := TX2) (N := 4) hx hb hts (by decide +kernel) hown hK hP 0 rfl rfl 2 (by decide) (hts (.fieldLink RX2 22 "ExactFractions" "left" "LExactFractions$Whole;") (by decide +kernel)) (fun _ h9 => h9) rfl dX2_keepLeftIn_1 ?_
  refine ef_callV (As := []) (rest := []) ⟨hx, hb, hml, hown, hts⟩ (c_length l dC dI ht (isW_c (X := L) (ws := cC cI q (A1) (U1) (b1) (e1) (A2) (U2) (b2) (e2) (L) (R)) (k0 := 11) (k1 := 12) (by decide) rfl rfl) hL) (cwV 0 hts gX2_keepLeftIn_X1_length rfl rfl rfl (by decide +kernel) ⟨Nat.le_of_ble_eq_true rfl, Nat.le_of_ble_eq_true rfl⟩) hK hNX hP hD hS 11 rfl rfl rfl rfl hl.1 rfl (Nat.le_of_ble_eq_true rfl) dX2_keepLeftIn_4 ⟨Nat.zero_le _, Nat.zero_le _⟩ (fun o w1 H locs hq hP hD hS => ?_)
  obtain ⟨rfl, e9⟩ := hq
  rw [e9] at hP hD
  refine W.eq (g2 := F0 m 7 ls [.int (iv ((bl L : Int)))]) rfl ?_
  refine lv_sipush (v := iv (4800)) hx hb dX2_keepLeftIn_7 (by decide) ?_
  refine iw_icmp_le (tgt := 16) hx hb dX2_keepLeftIn_10 (by decide) ⟨by omega, by omega⟩ ⟨by omega, by omega⟩ (fun c1 => ?_) (fun c1 => ?_)
  ·
    refine lv_aload_n hx hb dX2_keepLeftIn_16 rfl (lv_at hl 1 rfl) ?_
    refine lv_aload_n hx hb dX2_keepLeftIn_17 rfl (lv_at hl 0 rfl) ?_
    refine va_get (D := (dC, dI)) (ci := 2) (v := .ref (q 11)) (C := RX2) (T := TX2) (N := 4) hx hb hts (by decide +kernel) hown hK hP 0 rfl rfl 2 (by decide) (hts (.fieldLink RX2 22 "ExactFractions" "left" "LExactFractions$Whole;") (by decide +kernel)) (fun _ h9 => h9) rfl dX2_keepLeftIn_18 ?_
    refine ef_callV (As := [.ref (q 11)]) (rest := []) ⟨hx, hb, hml, hown, hts⟩ (c_copy l dC dI ht (isW_c (X := A1) (ws := cC cI q (A1) (U1) (b1) (e1) (A2) (U2) (b2) (e2) (L) (R)) (k0 := 3) (k1 := 4) (by decide) rfl rfl) (by omega) (wd_lt _) wd_z (isW_c (X := L) (ws := cC cI q (A1) (U1) (b1) (e1) (A2) (U2) (b2) (e2) (L) (R)) (k0 := 11) (k1 := 12) (by decide) rfl rfl) (by omega) (apt_c (k0 := 3) (k1 := 4) (j0 := 11) (j1 := 12) rfl)) (cwV 1 hts gX2_keepLeftIn_X1_copy rfl rfl rfl (by decide +kernel) ⟨Nat.le_of_ble_eq_true rfl, Nat.le_of_ble_eq_true rfl⟩) hK hNX hP hD hS 3 rfl rfl rfl rfl hl.1 rfl (Nat.le_of_ble_eq_true rfl) dX2_keepLeftIn_21 ⟨Nat.zero_le _, Nat.zero_le _⟩ (fun o w1 H locs hq hP hD hS => ?_)
    obtain ⟨rfl, rfl⟩ := hq
    have hP : va_P (dC, dI) vwCl (cC cI q (L) (U1) (b1) (e1) (A2) (U2) (b2) (e2) (L) (R)) H := hP
    have hD : va_D (ef_A (cC cI q (A1) (U1) (b1) (e1) (A2) (U2) (b2) (e2) (L) (R))) (cC cI q (L) (U1) (b1) (e1) (A2) (U2) (b2) (e2) (L) (R)) := hD
    refine W.eq (g2 := F0 m 24 ls []) rfl ?_
    refine lv_aload_n hx hb dX2_keepLeftIn_24 rfl (lv_at hl 1 rfl) ?_
    refine ef_callV (As := []) (rest := []) ⟨hx, hb, hml, hown, hts⟩ (c_length l dC dI ht (isW_c (X := L) (ws := cC cI q (L) (U1) (b1) (e1) (A2) (U2) (b2) (e2) (L) (R)) (k0 := 3) (k1 := 4) (by decide) rfl rfl) (by omega)) (cwV 0 hts gX2_keepLeftIn_X1_length rfl rfl rfl (by decide +kernel) ⟨Nat.le_of_ble_eq_true rfl, Nat.le_of_ble_eq_true rfl⟩) hK hNX hP hD hS 3 rfl rfl rfl rfl hl.1 rfl (Nat.le_of_ble_eq_true rfl) dX2_keepLeftIn_25 ⟨Nat.zero_le _, Nat.zero_le _⟩ (fun o w1 H locs hq hP hD hS => ?_)
    obtain ⟨rfl, e9⟩ := hq
    rw [e9] at hP hD
    refine W.eq (g2 := F0 m 28 ls [.int (iv ((bl L : Int)))]) rfl ?_
    exact ef_iret hx hb hr hlocks hP hD hS dX2_keepLeftIn_28 (⟨rfl, rfl⟩)
  ·
    exact absurd c1 (by omega)

set_option maxRecDepth 100000 in
set_option maxHeartbeats 4000000 in
/-- keepLeftIn -/
theorem c_keep01F (l : Launch) (dC : Nat → ClassId) (dI : Nat → Nat → Nat) {cI : ClassId} {tys : List (ClassId × FieldType)} (ht : tys[0]? = some (cI, .int)) (q : Nat → Nat) {A1 U1 A2 U2 L R : Nat} {b1 e1 b2 e2 : Int} (hA1 : wl A1 ≤ 150) (hU1 : wl U1 ≤ 150) (hA2 : wl A2 ≤ 150) (hU2 : wl U2 ≤ 150) (hL : wl L ≤ 301) (hR : wl R ≤ 301) (hb4 : 4800 < bl L) : ef_C l yX2_keepLeftIn wsX2_keepLeftIn ({ frames := 3, cells := 0, slots := 0, locals := 67 } : Room) [.ref (q 0), .ref (q 5)] (dC, dI) vwCl tys (cC cI q (A1) (U1) (b1) (e1) (A2) (U2) (b2) (e2) (L) (R)) (fun o w1 => o = some (.int (iv (-2))) ∧ w1 = cC cI q (A1) (U1) (b1) (e1) (A2) (U2) (b2) (e2) (L) (R)) := by
  refine ef_C.of (cc := cX2_keepLeftIn) (maxL := 2) (ret := (some .int)) (by decide) rfl (Nat.le_of_ble_eq_true rfl) ?_
  intro p e s m below meth c ls hx hb hml hr hts hown hlocks hK hNX hP hD hS hl
  have hl : lv_has ls 2 [(0, .ref (q 0)), (1, .ref (q 5))] := hl
  have hown : s.vm.findClass RX2 = some m.cls := hown
  generalize hH : s.heap = H at hP ⊢
  have hS : va_S (ef_A (cC cI q (A1) (U1) (b1) (e1) (A2) (U2) (b2) (e2) (L) (R))) s.heap H [] := by rw [← hH]; exact hS
  generalize ([] : List Loc) = locs at hS ⊢
  have hbl : bl L ≤ 9632 := bl_le (Nat.lt_of_lt_of_le (wl_lt L) (Nat.pow_le_pow_right (by decide) (by omega)))
  refine lv_aload_n hx hb dX2_keepLeftIn_0 rfl (lv_at hl 0 rfl) ?_
  refine va_get (D := (dC, dI)) (ci := 2) (v := .ref (q 11)) (C := RX2) (T := TX2) (N := 4) hx hb hts (by decide +kernel) hown hK hP 0 rfl rfl 2 (by decide) (hts (.fieldLink RX2 22 "ExactFractions" "left" "LExactFractions$Whole;") (by decide +kernel)) (fun _ h9 => h9) rfl dX2_keepLeftIn_1 ?_
  refine ef_callV (As := []) (rest := []) ⟨hx, hb, hml, hown, hts⟩ (c_length l dC dI ht (isW_c (X := L) (ws := cC cI q (A1) (U1) (b1) (e1) (A2) (U2) (b2) (e2) (L) (R)) (k0 := 11) (k1 := 12) (by decide) rfl rfl) hL) (cwV 0 hts gX2_keepLeftIn_X1_length rfl rfl rfl (by decide +kernel) ⟨Nat.le_of_ble_eq_true rfl, Nat.le_of_ble_eq_true rfl⟩) hK hNX hP hD hS 11 rfl rfl rfl rfl hl.1 rfl (Nat.le_of_ble_eq_true rfl) dX2_keepLeftIn_4 ⟨Nat.zero_le _, Nat.zero_le _⟩ (fun o w1 H locs hq hP hD hS => ?_)
  obtain ⟨rfl, e9⟩ := hq
  rw [e9] at hP hD
  refine W.eq (g2 := F0 m 7 ls [.int (iv ((bl L : Int)))]) rfl ?_
  refine lv_sipush (v := iv (4800)) hx hb dX2_keepLeftIn_7 (by decide) ?_
  refine iw_icmp_le (tgt := 16) hx hb dX2_keepLeftIn_10 (by decide) ⟨by omega, by omega⟩ ⟨by omega, by omega⟩ (fun c1 => ?_) (fun c1 => ?_)
  ·
    exact absurd c1 (by omega)
  ·
    refine lv_bipush (v := iv (-2)) hx hb dX2_keepLeftIn_13 (by decide) ?_
    exact ef_iret hx hb hr hlocks hP hD hS dX2_keepLeftIn_15 (⟨rfl, rfl⟩)

set_option maxRecDepth 100000 in
set_option maxHeartbeats 4000000 in
/-- keepLeftIn -/
theorem c_keep01K (l : Launch) (dC : Nat → ClassId) (dI : Nat → Nat → Nat) {cI : ClassId} {tys : List (ClassId × FieldType)} (ht : tys[0]? = some (cI, .int)) (q : Nat → Nat) {A1 U1 A2 U2 L R : Nat} {b1 e1 b2 e2 : Int} (hA1 : wl A1 ≤ 150) (hU1 : wl U1 ≤ 150) (hA2 : wl A2 ≤ 150) (hU2 : wl U2 ≤ 150) (hL : wl L ≤ 301) (hR : wl R ≤ 301) (hb4 : bl L ≤ 4800) : ef_C l yX2_keepLeftIn wsX2_keepLeftIn ({ frames := 3, cells := 0, slots := 0, locals := 67 } : Room) [.ref (q 0), .ref (q 5)] (dC, dI) vwCl tys (cC cI q (A1) (U1) (b1) (e1) (A2) (U2) (b2) (e2) (L) (R)) (fun o w1 => o = some (.int (iv (bl L : Int))) ∧ w1 = cC cI q (A1) (L) (b1) (e1) (A2) (U2) (b2) (e2) (L) (R)) := by
  refine ef_C.of (cc := cX2_keepLeftIn) (maxL := 2) (ret := (some .int)) (by decide) rfl (Nat.le_of_ble_eq_true rfl) ?_
  intro p e s m below meth c ls hx hb hml hr hts hown hlocks hK hNX hP hD hS hl
  have hl : lv_has ls 2 [(0, .ref (q 0)), (1, .ref (q 5))] := hl
  have hown : s.vm.findClass RX2 = some m.cls := hown
  generalize hH : s.heap = H at hP ⊢
  have hS : va_S (ef_A (cC cI q (A1) (U1) (b1) (e1) (A2) (U2) (b2) (e2) (L) (R))) s.heap H [] := by rw [← hH]; exact hS
  generalize ([] : List Loc) = locs at hS ⊢
  have hbl : bl L ≤ 9632 := bl_le (Nat.lt_of_lt_of_le (wl_lt L) (Nat.pow_le_pow_right (by decide) (by omega)))
  refine lv_aload_n hx hb dX2_keepLeftIn_0 rfl (lv_at hl 0 rfl) ?_
  refine va_get (D := (dC, dI)) (ci := 2) (v := .ref (q 11)) (C := RX2) (T := TX2) (N := 4) hx hb hts (by decide +kernel) hown hK hP 0 rfl rfl 2 (by decide) (hts (.fieldLink RX2 22 "ExactFractions" "left" "LExactFractions$Whole;") (by decide +kernel)) (fun _ h9 => h9) rfl dX2_keepLeftIn_1 ?_
  refine ef_callV (As := []) (rest := []) ⟨hx, hb, hml, hown, hts⟩ (c_length l dC dI ht (isW_c (X := L) (ws := cC cI q (A1) (U1) (b1) (e1) (A2) (U2) (b2) (e2) (L) (R)) (k0 := 11) (k1 := 12) (by decide) rfl rfl) hL) (cwV 0 hts gX2_keepLeftIn_X1_length rfl rfl rfl (by decide +kernel) ⟨Nat.le_of_ble_eq_true rfl, Nat.le_of_ble_eq_true rfl⟩) hK hNX hP hD hS 11 rfl rfl rfl rfl hl.1 rfl (Nat.le_of_ble_eq_true rfl) dX2_keepLeftIn_4 ⟨Nat.zero_le _, Nat.zero_le _⟩ (fun o w1 H locs hq hP hD hS => ?_)
  obtain ⟨rfl, e9⟩ := hq
  rw [e9] at hP hD
  refine W.eq (g2 := F0 m 7 ls [.int (iv ((bl L : Int)))]) rfl ?_
  refine lv_sipush (v := iv (4800)) hx hb dX2_keepLeftIn_7 (by decide) ?_
  refine iw_icmp_le (tgt := 16) hx hb dX2_keepLeftIn_10 (by decide) ⟨by omega, by omega⟩ ⟨by omega, by omega⟩ (fun c1 => ?_) (fun c1 => ?_)
  ·
    refine lv_aload_n hx hb dX2_keepLeftIn_16 rfl (lv_at hl 1 rfl) ?_
    refine lv_aload_n hx hb dX2_keepLeftIn_17 rfl (lv_at hl 0 rfl) ?_
    refine va_get (D := (dC, dI)) (ci := 2) (v := .ref (q 11)) (C := RX2) (T := TX2) (N := 4) hx hb hts (by decide +kernel) hown hK hP 0 rfl rfl 2 (by decide) (hts (.fieldLink RX2 22 "ExactFractions" "left" "LExactFractions$Whole;") (by decide +kernel)) (fun _ h9 => h9) rfl dX2_keepLeftIn_18 ?_
    refine ef_callV (As := [.ref (q 11)]) (rest := []) ⟨hx, hb, hml, hown, hts⟩ (c_copy l dC dI ht (isW_c (X := U1) (ws := cC cI q (A1) (U1) (b1) (e1) (A2) (U2) (b2) (e2) (L) (R)) (k0 := 5) (k1 := 6) (by decide) rfl rfl) (by omega) (wd_lt _) wd_z (isW_c (X := L) (ws := cC cI q (A1) (U1) (b1) (e1) (A2) (U2) (b2) (e2) (L) (R)) (k0 := 11) (k1 := 12) (by decide) rfl rfl) (by omega) (apt_c (k0 := 5) (k1 := 6) (j0 := 11) (j1 := 12) rfl)) (cwV 1 hts gX2_keepLeftIn_X1_copy rfl rfl rfl (by decide +kernel) ⟨Nat.le_of_ble_eq_true rfl, Nat.le_of_ble_eq_true rfl⟩) hK hNX hP hD hS 5 rfl rfl rfl rfl hl.1 rfl (Nat.le_of_ble_eq_true rfl) dX2_keepLeftIn_21 ⟨Nat.zero_le _, Nat.zero_le _⟩ (fun o w1 H locs hq hP hD hS => ?_)
    obtain ⟨rfl, rfl⟩ := hq
    have hP : va_P (dC, dI) vwCl (cC cI q (A1) (L) (b1) (e1) (A2) (U2) (b2) (e2) (L) (R)) H := hP
    have hD : va_D (ef_A (cC cI q (A1) (U1) (b1) (e1) (A2) (U2) (b2) (e2) (L) (R))) (cC cI q (A1) (L) (b1) (e1) (A2) (U2) (b2) (e2) (L) (R)) := hD
    refine W.eq (g2 := F0 m 24 ls []) rfl ?_
    refine lv_aload_n hx hb dX2_keepLeftIn_24 rfl (lv_at hl 1 rfl) ?_
    refine ef_callV (As := []) (rest := []) ⟨hx, hb, hml, hown, hts⟩ (c_length l dC dI ht (isW_c (X := L) (ws := cC cI q (A1) (L) (b1) (e1) (A2) (U2) (b2) (e2) (L) (R)) (k0 := 5) (k1 := 6) (by decide) rfl rfl) (by omega)) (cwV 0 hts gX2_keepLeftIn_X1_length rfl rfl rfl (by decide +kernel) ⟨Nat.le_of_ble_eq_true rfl, Nat.le_of_ble_eq_true rfl⟩) hK hNX hP hD hS 5 rfl rfl rfl rfl hl.1 rfl (Nat.le_of_ble_eq_true rfl) dX2_keepLeftIn_25 ⟨Nat.zero_le _, Nat.zero_le _⟩ (fun o w1 H locs hq hP hD hS => ?_)
    obtain ⟨rfl, e9⟩ := hq
    rw [e9] at hP hD
    refine W.eq (g2 := F0 m 28 ls [.int (iv ((bl L : Int)))]) rfl ?_
    exact ef_iret hx hb hr hlocks hP hD hS dX2_keepLeftIn_28 (⟨rfl, rfl⟩)
  ·
    exact absurd c1 (by omega)

set_option maxRecDepth 100000 in
set_option maxHeartbeats 4000000 in
/-- keepLeftIn -/
theorem c_keep10F (l : Launch) (dC : Nat → ClassId) (dI : Nat → Nat → Nat) {cI : ClassId} {tys : List (ClassId × FieldType)} (ht : tys[0]? = some (cI, .int)) (q : Nat → Nat) {A1 U1 A2 U2 L R : Nat} {b1 e1 b2 e2 : Int} (hA1 : wl A1 ≤ 150) (hU1 : wl U1 ≤ 150) (hA2 : wl A2 ≤ 150) (hU2 : wl U2 ≤ 150) (hL : wl L ≤ 301) (hR : wl R ≤ 301) (hb4 : 4800 < bl L) : ef_C l yX2_keepLeftIn wsX2_keepLeftIn ({ frames := 3, cells := 0, slots := 0, locals := 67 } : Room) [.ref (q 0), .ref (q 7)] (dC, dI) vwCl tys (cC cI q (A1) (U1) (b1) (e1) (A2) (U2) (b2) (e2) (L) (R)) (fun o w1 => o = some (.int (iv (-2))) ∧ w1 = cC cI q (A1) (U1) (b1) (e1) (A2) (U2) (b2) (e2) (L) (R)) := by
  refine ef_C.of (cc := cX2_keepLeftIn) (maxL := 2) (ret := (some .int)) (by decide) rfl (Nat.le_of_ble_eq_true rfl) ?_
  intro p e s m below meth c ls hx hb hml hr hts hown hlocks hK hNX hP hD hS hl
  have hl : lv_has ls 2 [(0, .ref (q 0)), (1, .ref (q 7))] := hl
  have hown : s.vm.findClass RX2 = some m.cls := hown
  generalize hH : s.heap = H at hP ⊢
  have hS : va_S (ef_A (cC cI q (A1) (U1) (b1) (e1) (A2) (U2) (b2) (e2) (L) (R))) s.heap H [] := by rw [← hH]; exact hS
  generalize ([] : List Loc) = locs at hS ⊢
  have hbl : bl L ≤ 9632 := bl_le (Nat.lt_of_lt_of_le (wl_lt L) (Nat.pow_le_pow_right (by decide) (by omega)))
  refine lv_aload_n hx hb dX2_keepLeftIn_0 rfl (lv_at hl 0 rfl) ?_
  refine va_get (D := (dC, dI)) (ci := 2) (v := .ref (q 11)) (C := RX2) (T := TX2) (N := 4) hx hb hts (by decide +kernel) hown hK hP 0 rfl rfl 2 (by decide) (hts (.fieldLink RX2 22 "ExactFractions" "left" "LExactFractions$Whole;") (by decide +kernel)) (fun _ h9 => h9) rfl dX2_keepLeftIn_1 ?_
  refine ef_callV (As := []) (rest := []) ⟨hx, hb, hml, hown, hts⟩ (c_length l dC dI ht (isW_c (X := L) (ws := cC cI q (A1) (U1) (b1) (e1) (A2) (U2) (b2) (e2) (L) (R)) (k0 := 11) (k1 := 12) (by decide) rfl rfl) hL) (cwV 0 hts gX2_keepLeftIn_X1_length rfl rfl rfl (by decide +kernel) ⟨Nat.le_of_ble_eq_true rfl, Nat.le_of_ble_eq_true rfl⟩) hK hNX hP hD hS 11 rfl rfl rfl rfl hl.1 rfl (Nat.le_of_ble_eq_true rfl) dX2_keepLeftIn_4 ⟨Nat.zero_le _, Nat.zero_le _⟩ (fun o w1 H locs hq hP hD hS => ?_)
  obtain ⟨rfl, e9⟩ := hq
  rw [e9] at hP hD
  refine W.eq (g2 := F0 m 7 ls [.int (iv ((bl L : Int)))]) rfl ?_
  refine lv_sipush (v := iv (4800)) hx hb dX2_keepLeftIn_7 (by decide) ?_
  refine iw_icmp_le (tgt := 16) hx hb dX2_keepLeftIn_10 (by decide) ⟨by omega, by omega⟩ ⟨by omega, by omega⟩ (fun c1 => ?_) (fun c1 => ?_)
  ·
    exact absurd c1 (by omega)
  ·
    refine lv_bipush (v := iv (-2)) hx hb dX2_keepLeftIn_13 (by decide) ?_
    exact ef_iret hx hb hr hlocks hP hD hS dX2_keepLeftIn_15 (⟨rfl, rfl⟩)

set_option maxRecDepth 100000 in
set_option maxHeartbeats 4000000 in
/-- keepLeftIn -/
theorem c_keep10K (l : Launch) (dC : Nat → ClassId) (dI : Nat → Nat → Nat) {cI : ClassId} {tys : List (ClassId × FieldType)} (ht : tys[0]? = some (cI, .int)) (q : Nat → Nat) {A1 U1 A2 U2 L R : Nat} {b1 e1 b2 e2 : Int} (hA1 : wl A1 ≤ 150) (hU1 : wl U1 ≤ 150) (hA2 : wl A2 ≤ 150) (hU2 : wl U2 ≤ 150) (hL : wl L ≤ 301) (hR : wl R ≤ 301) (hb4 : bl L ≤ 4800) : ef_C l yX2_keepLeftIn wsX2_keepLeftIn ({ frames := 3, cells := 0, slots := 0, locals := 67 } : Room) [.ref (q 0), .ref (q 7)] (dC, dI) vwCl tys (cC cI q (A1) (U1) (b1) (e1) (A2) (U2) (b2) (e2) (L) (R)) (fun o w1 => o = some (.int (iv (bl L : Int))) ∧ w1 = cC cI q (A1) (U1) (b1) (e1) (L) (U2) (b2) (e2) (L) (R)) := by
  refine ef_C.of (cc := cX2_keepLeftIn) (maxL := 2) (ret := (some .int)) (by decide) rfl (Nat.le_of_ble_eq_true rfl) ?_
  intro p e s m below meth c ls hx hb hml hr hts hown hlocks hK hNX hP hD hS hl
  have hl : lv_has ls 2 [(0, .ref (q 0)), (1, .ref (q 7))] := hl
  have hown : s.vm.findClass RX2 = some m.cls := hown
  generalize hH : s.heap = H at hP ⊢
  have hS : va_S (ef_A (cC cI q (A1) (U1) (b1) (e1) (A2) (U2) (b2) (e2) (L) (R))) s.heap H [] := by rw [← hH]; exact hS
  generalize ([] : List Loc) = locs at hS ⊢
  have hbl : bl L ≤ 9632 := bl_le (Nat.lt_of_lt_of_le (wl_lt L) (Nat.pow_le_pow_right (by decide) (by omega)))
  refine lv_aload_n hx hb dX2_keepLeftIn_0 rfl (lv_at hl 0 rfl) ?_
  refine va_get (D := (dC, dI)) (ci := 2) (v := .ref (q 11)) (C := RX2) (T := TX2) (N := 4) hx hb hts (by decide +kernel) hown hK hP 0 rfl rfl 2 (by decide) (hts (.fieldLink RX2 22 "ExactFractions" "left" "LExactFractions$Whole;") (by decide +kernel)) (fun _ h9 => h9) rfl dX2_keepLeftIn_1 ?_
  refine ef_callV (As := []) (rest := []) ⟨hx, hb, hml, hown, hts⟩ (c_length l dC dI ht (isW_c (X := L) (ws := cC cI q (A1) (U1) (b1) (e1) (A2) (U2) (b2) (e2) (L) (R)) (k0 := 11) (k1 := 12) (by decide) rfl rfl) hL) (cwV 0 hts gX2_keepLeftIn_X1_length rfl rfl rfl (by decide +kernel) ⟨Nat.le_of_ble_eq_true rfl, Nat.le_of_ble_eq_true rfl⟩) hK hNX hP hD hS 11 rfl rfl rfl rfl hl.1 rfl (Nat.le_of_ble_eq_true rfl) dX2_keepLeftIn_4 ⟨Nat.zero_le _, Nat.zero_le _⟩ (fun o w1 H locs hq hP hD hS => ?_)
  obtain ⟨rfl, e9⟩ := hq
  rw [e9] at hP hD
  refine W.eq (g2 := F0 m 7 ls [.int (iv ((bl L : Int)))]) rfl ?_
  refine lv_sipush (v := iv (4800)) hx hb dX2_keepLeftIn_7 (by decide) ?_
  refine iw_icmp_le (tgt := 16) hx hb dX2_keepLeftIn_10 (by decide) ⟨by omega, by omega⟩ ⟨by omega, by omega⟩ (fun c1 => ?_) (fun c1 => ?_)
  ·
    refine lv_aload_n hx hb dX2_keepLeftIn_16 rfl (lv_at hl 1 rfl) ?_
    refine lv_aload_n hx hb dX2_keepLeftIn_17 rfl (lv_at hl 0 rfl) ?_
    refine va_get (D := (dC, dI)) (ci := 2) (v := .ref (q 11)) (C := RX2) (T := TX2) (N := 4) hx hb hts (by decide +kernel) hown hK hP 0 rfl rfl 2 (by decide) (hts (.fieldLink RX2 22 "ExactFractions" "left" "LExactFractions$Whole;") (by decide +kernel)) (fun _ h9 => h9) rfl dX2_keepLeftIn_18 ?_
    refine ef_callV (As := [.ref (q 11)]) (rest := []) ⟨hx, hb, hml, hown, hts⟩ (c_copy l dC dI ht (isW_c (X := A2) (ws := cC cI q (A1) (U1) (b1) (e1) (A2) (U2) (b2) (e2) (L) (R)) (k0 := 7) (k1 := 8) (by decide) rfl rfl) (by omega) (wd_lt _) wd_z (isW_c (X := L) (ws := cC cI q (A1) (U1) (b1) (e1) (A2) (U2) (b2) (e2) (L) (R)) (k0 := 11) (k1 := 12) (by decide) rfl rfl) (by omega) (apt_c (k0 := 7) (k1 := 8) (j0 := 11) (j1 := 12) rfl)) (cwV 1 hts gX2_keepLeftIn_X1_copy rfl rfl rfl (by decide +kernel) ⟨Nat.le_of_ble_eq_true rfl, Nat.le_of_ble_eq_true rfl⟩) hK hNX hP hD hS 7 rfl rfl rfl rfl hl.1 rfl (Nat.le_of_ble_eq_true rfl) dX2_keepLeftIn_21 ⟨Nat.zero_le _, Nat.zero_le _⟩ (fun o w1 H locs hq hP hD hS => ?_)
    obtain ⟨rfl, rfl⟩ := hq
    have hP : va_P (dC, dI) vwCl (cC cI q (A1) (U1) (b1) (e1) (L) (U2) (b2) (e2) (L) (R)) H := hP
    have hD : va_D (ef_A (cC cI q (A1) (U1) (b1) (e1) (A2) (U2) (b2) (e2) (L) (R))) (cC cI q (A1) (U1) (b1) (e1) (L) (U2) (b2) (e2) (L) (R)) := hD
    refine W.eq (g2 := F0 m 24 ls []) rfl ?_
    refine lv_aload_n hx hb dX2_keepLeftIn_24 rfl (lv_at hl 1 rfl) ?_
    refine ef_callV (As := []) (rest := []) ⟨hx, hb, hml, hown, hts⟩ (c_length l dC dI ht (isW_c (X := L) (ws := cC cI q (A1) (U1) (b1) (e1) (L) (U2) (b2) (e2) (L) (R)) (k0 := 7) (k1 := 8) (by decide) rfl rfl) (by omega)) (cwV 0 hts gX2_keepLeftIn_X1_length rfl rfl rfl (by decide +kernel) ⟨Nat.le_of_ble_eq_true rfl, Nat.le_of_ble_eq_true rfl⟩) hK hNX hP hD hS 7 rfl rfl rfl rfl hl.1 rfl (Nat.le_of_ble_eq_true rfl) dX2_keepLeftIn_25 ⟨Nat.zero_le _, Nat.zero_le _⟩ (fun o w1 H locs hq hP hD hS => ?_)
    obtain ⟨rfl, e9⟩ := hq
    rw [e9] at hP hD
    refine W.eq (g2 := F0 m 28 ls [.int (iv ((bl L : Int)))]) rfl ?_
    exact ef_iret hx hb hr hlocks hP hD hS dX2_keepLeftIn_28 (⟨rfl, rfl⟩)
  ·
    exact absurd c1 (by omega)

set_option maxRecDepth 100000 in
set_option maxHeartbeats 4000000 in
/-- keepLeftIn -/
theorem c_keep11F (l : Launch) (dC : Nat → ClassId) (dI : Nat → Nat → Nat) {cI : ClassId} {tys : List (ClassId × FieldType)} (ht : tys[0]? = some (cI, .int)) (q : Nat → Nat) {A1 U1 A2 U2 L R : Nat} {b1 e1 b2 e2 : Int} (hA1 : wl A1 ≤ 150) (hU1 : wl U1 ≤ 150) (hA2 : wl A2 ≤ 150) (hU2 : wl U2 ≤ 150) (hL : wl L ≤ 301) (hR : wl R ≤ 301) (hb4 : 4800 < bl L) : ef_C l yX2_keepLeftIn wsX2_keepLeftIn ({ frames := 3, cells := 0, slots := 0, locals := 67 } : Room) [.ref (q 0), .ref (q 9)] (dC, dI) vwCl tys (cC cI q (A1) (U1) (b1) (e1) (A2) (U2) (b2) (e2) (L) (R)) (fun o w1 => o = some (.int (iv (-2))) ∧ w1 = cC cI q (A1) (U1) (b1) (e1) (A2) (U2) (b2) (e2) (L) (R)) := by
  refine ef_C.of (cc := cX2_keepLeftIn) (maxL := 2) (ret := (some .int)) (by decide) rfl (Nat.le_of_ble_eq_true rfl) ?_
  intro p e s m below meth c ls hx hb hml hr hts hown hlocks hK hNX hP hD hS hl
  have hl : lv_has ls 2 [(0, .ref (q 0)), (1, .ref (q 9))] := hl
  have hown : s.vm.findClass RX2 = some m.cls := hown
  generalize hH : s.heap = H at hP ⊢
  have hS : va_S (ef_A (cC cI q (A1) (U1) (b1) (e1) (A2) (U2) (b2) (e2) (L) (R))) s.heap H [] := by rw [← hH]; exact hS
  generalize ([] : List Loc) = locs at hS ⊢
  have hbl : bl L ≤ 9632 := bl_le (Nat.lt_of_lt_of_le (wl_lt L) (Nat.pow_le_pow_right (by decide) (by omega)))
  refine lv_aload_n hx hb dX2_keepLeftIn_0 rfl (lv_at hl 0 rfl) ?_
  refine va_get (D := (dC, dI)) (ci := 2) (v := .ref (q 11)) (C := RX2) (T := TX2) (N := 4) hx hb hts (by decide +kernel) hown hK hP 0 rfl rfl 2 (by decide) (hts (.fieldLink RX2 22 "ExactFractions" "left" "LExactFractions$Whole;") (by decide +kernel)) (fun _ h9 => h9) rfl dX2_keepLeftIn_1 ?_
  refine ef_callV (As := []) (rest := []) ⟨hx, hb, hml, hown, hts⟩ (c_length l dC dI ht (isW_c (X := L) (ws := cC cI q (A1) (U1) (b1) (e1) (A2) (U2) (b2) (e2) (L) (R)) (k0 := 11) (k1 := 12) (by decide) rfl rfl) hL) (cwV 0 hts gX2_keepLeftIn_X1_length rfl rfl rfl (by decide +kernel) ⟨Nat.le_of_ble_eq_true rfl, Nat.le_of_ble_eq_true rfl⟩) hK hNX hP hD hS 11 rfl rfl rfl rfl hl.1 rfl (Nat.le_of_ble_eq_true rfl) dX2_keepLeftIn_4 ⟨Nat.zero_le _, Nat.zero_le _⟩ (fun o w1 H locs hq hP hD hS => ?_)
  obtain ⟨rfl, e9⟩ := hq
  rw [e9] at hP hD
  refine W.eq (g2 := F0 m 7 ls [.int (iv ((bl L : Int)))]) rfl ?_
  refine lv_sipush (v := iv (4800)) hx hb dX2_keepLeftIn_7 (by decide) ?_
  refine iw_icmp_le (tgt := 16) hx hb dX2_keepLeftIn_10 (by decide) ⟨by omega, by omega⟩ ⟨by omega, by omega⟩ (fun c1 => ?_) (fun c1 => ?_)
  ·
    exact absurd c1 (by omega)
  ·
    refine lv_bipush (v := iv (-2)) hx hb dX2_keepLeftIn_13 (by decide) ?_
    exact ef_iret hx hb hr hlocks hP hD hS dX2_keepLeftIn_15 (⟨rfl, rfl⟩)

set_option maxRecDepth 100000 in
set_option maxHeartbeats 4000000 in
/-- keepLeftIn -/
theorem c_keep11K (l : Launch) (dC : Nat → ClassId) (dI : Nat → Nat → Nat) {cI : ClassId} {tys : List (ClassId × FieldType)} (ht : tys[0]? = some (cI, .int)) (q : Nat → Nat) {A1 U1 A2 U2 L R : Nat} {b1 e1 b2 e2 : Int} (hA1 : wl A1 ≤ 150) (hU1 : wl U1 ≤ 150) (hA2 : wl A2 ≤ 150) (hU2 : wl U2 ≤ 150) (hL : wl L ≤ 301) (hR : wl R ≤ 301) (hb4 : bl L ≤ 4800) : ef_C l yX2_keepLeftIn wsX2_keepLeftIn ({ frames := 3, cells := 0, slots := 0, locals := 67 } : Room) [.ref (q 0), .ref (q 9)] (dC, dI) vwCl tys (cC cI q (A1) (U1) (b1) (e1) (A2) (U2) (b2) (e2) (L) (R)) (fun o w1 => o = some (.int (iv (bl L : Int))) ∧ w1 = cC cI q (A1) (U1) (b1) (e1) (A2) (L) (b2) (e2) (L) (R)) := by
  refine ef_C.of (cc := cX2_keepLeftIn) (maxL := 2) (ret := (some .int)) (by decide) rfl (Nat.le_of_ble_eq_true rfl) ?_
  intro p e s m below meth c ls hx hb hml hr hts hown hlocks hK hNX hP hD hS hl
  have hl : lv_has ls 2 [(0, .ref (q 0)), (1, .ref (q 9))] := hl
  have hown : s.vm.findClass RX2 = some m.cls := hown
  generalize hH : s.heap = H at hP ⊢
  have hS : va_S (ef_A (cC cI q (A1) (U1) (b1) (e1) (A2) (U2) (b2) (e2) (L) (R))) s.heap H [] := by rw [← hH]; exact hS
  generalize ([] : List Loc) = locs at hS ⊢
  have hbl : bl L ≤ 9632 := bl_le (Nat.lt_of_lt_of_le (wl_lt L) (Nat.pow_le_pow_right (by decide) (by omega)))
  refine lv_aload_n hx hb dX2_keepLeftIn_0 rfl (lv_at hl 0 rfl) ?_
  refine va_get (D := (dC, dI)) (ci := 2) (v := .ref (q 11)) (C := RX2) (T := TX2) (N := 4) hx hb hts (by decide +kernel) hown hK hP 0 rfl rfl 2 (by decide) (hts (.fieldLink RX2 22 "ExactFractions" "left" "LExactFractions$Whole;") (by decide +kernel)) (fun _ h9 => h9) rfl dX2_keepLeftIn_1 ?_
  refine ef_callV (As := []) (rest := []) ⟨hx, hb, hml, hown, hts⟩ (c_length l dC dI ht (isW_c (X := L) (ws := cC cI q (A1) (U1) (b1) (e1) (A2) (U2) (b2) (e2) (L) (R)) (k0 := 11) (k1 := 12) (by decide) rfl rfl) hL) (cwV 0 hts gX2_keepLeftIn_X1_length rfl rfl rfl (by decide +kernel) ⟨Nat.le_of_ble_eq_true rfl, Nat.le_of_ble_eq_true rfl⟩) hK hNX hP hD hS 11 rfl rfl rfl rfl hl.1 rfl (Nat.le_of_ble_eq_true rfl) dX2_keepLeftIn_4 ⟨Nat.zero_le _, Nat.zero_le _⟩ (fun o w1 H locs hq hP hD hS => ?_)
  obtain ⟨rfl, e9⟩ := hq
  rw [e9] at hP hD
  refine W.eq (g2 := F0 m 7 ls [.int (iv ((bl L : Int)))]) rfl ?_
  refine lv_sipush (v := iv (4800)) hx hb dX2_keepLeftIn_7 (by decide) ?_
  refine iw_icmp_le (tgt := 16) hx hb dX2_keepLeftIn_10 (by decide) ⟨by omega, by omega⟩ ⟨by omega, by omega⟩ (fun c1 => ?_) (fun c1 => ?_)
  ·
    refine lv_aload_n hx hb dX2_keepLeftIn_16 rfl (lv_at hl 1 rfl) ?_
    refine lv_aload_n hx hb dX2_keepLeftIn_17 rfl (lv_at hl 0 rfl) ?_
    refine va_get (D := (dC, dI)) (ci := 2) (v := .ref (q 11)) (C := RX2) (T := TX2) (N := 4) hx hb hts (by decide +kernel) hown hK hP 0 rfl rfl 2 (by decide) (hts (.fieldLink RX2 22 "ExactFractions" "left" "LExactFractions$Whole;") (by decide +kernel)) (fun _ h9 => h9) rfl dX2_keepLeftIn_18 ?_
    refine ef_callV (As := [.ref (q 11)]) (rest := []) ⟨hx, hb, hml, hown, hts⟩ (c_copy l dC dI ht (isW_c (X := U2) (ws := cC cI q (A1) (U1) (b1) (e1) (A2) (U2) (b2) (e2) (L) (R)) (k0 := 9) (k1 := 10) (by decide) rfl rfl) (by omega) (wd_lt _) wd_z (isW_c (X := L) (ws := cC cI q (A1) (U1) (b1) (e1) (A2) (U2) (b2) (e2) (L) (R)) (k0 := 11) (k1 := 12) (by decide) rfl rfl) (by omega) (apt_c (k0 := 9) (k1 := 10) (j0 := 11) (j1 := 12) rfl)) (cwV 1 hts gX2_keepLeftIn_X1_copy rfl rfl rfl (by decide +kernel) ⟨Nat.le_of_ble_eq_true rfl, Nat.le_of_ble_eq_true rfl⟩) hK hNX hP hD hS 9 rfl rfl rfl rfl hl.1 rfl (Nat.le_of_ble_eq_true rfl) dX2_keepLeftIn_21 ⟨Nat.zero_le _, Nat.zero_le _⟩ (fun o w1 H locs hq hP hD hS => ?_)
    obtain ⟨rfl, rfl⟩ := hq
    have hP : va_P (dC, dI) vwCl (cC cI q (A1) (U1) (b1) (e1) (A2) (L) (b2) (e2) (L) (R)) H := hP
    have hD : va_D (ef_A (cC cI q (A1) (U1) (b1) (e1) (A2) (U2) (b2) (e2) (L) (R))) (cC cI q (A1) (U1) (b1) (e1) (A2) (L) (b2) (e2) (L) (R)) := hD
    refine W.eq (g2 := F0 m 24 ls []) rfl ?_
    refine lv_aload_n hx hb dX2_keepLeftIn_24 rfl (lv_at hl 1 rfl) ?_
    refine ef_callV (As := []) (rest := []) ⟨hx, hb, hml, hown, hts⟩ (c_length l dC dI ht (isW_c (X := L) (ws := cC cI q (A1) (U1) (b1) (e1) (A2) (L) (b2) (e2) (L) (R)) (k0 := 9) (k1 := 10) (by decide) rfl rfl) (by omega)) (cwV 0 hts gX2_keepLeftIn_X1_length rfl rfl rfl (by decide +kernel) ⟨Nat.le_of_ble_eq_true rfl, Nat.le_of_ble_eq_true rfl⟩) hK hNX hP hD hS 9 rfl rfl rfl rfl hl.1 rfl (Nat.le_of_ble_eq_true rfl) dX2_keepLeftIn_25 ⟨Nat.zero_le _, Nat.zero_le _⟩ (fun o w1 H locs hq hP hD hS => ?_)
    obtain ⟨rfl, e9⟩ := hq
    rw [e9] at hP hD
    refine W.eq (g2 := F0 m 28 ls [.int (iv ((bl L : Int)))]) rfl ?_
    exact ef_iret hx hb hr hlocks hP hD hS dX2_keepLeftIn_28 (⟨rfl, rfl⟩)
  ·
    exact absurd c1 (by omega)

set_option maxRecDepth 100000 in
set_option maxHeartbeats 4000000 in
/-- digit -/
theorem c_digit00F (l : Launch) (dC : Nat → ClassId) (dI : Nat → Nat → Nat) {cI : ClassId} {tys : List (ClassId × FieldType)} (ht : tys[0]? = some (cI, .int)) (q : Nat → Nat) {A1 U1 A2 U2 L R : Nat} {b1 e1 b2 e2 : Int} (hA1 : wl A1 ≤ 150) (hU1 : wl U1 ≤ 150) (hA2 : wl A2 ≤ 150) (hU2 : wl U2 ≤ 150) (hL : wl L ≤ 301) (hR : wl R ≤ 301) (mu mo : Nat) (hm1 : 1 ≤ mu) (hmu : mu ≤ 1000000) (hmo : mo ≤ 1000000) (hb4 : 4800 < bl (A1 * mu + mo)) : ef_C l yX2_digit wsX2_digit ({ frames := 4, cells := 0, slots := 0, locals := 88 } : Room) [.ref (q 0), .int (iv (0)), .int (iv (0)), .int (iv ((mu : Int))), .int (iv ((mo : Int)))] (dC, dI) vwCl tys (cC cI q (A1) (U1) (b1) (e1) (A2) (U2) (b2) (e2) (L) (R)) (fun o w1 => ∃ L2 R2 : Nat, o = some (.int (iv (-2))) ∧ w1 = cC cI q (A1) (U1) (b1) (e1) (A2) (U2) (b2) (e2) (L2) (R2) ∧ wl L2 ≤ 301 ∧ wl R2 ≤ 301) := by
  refine ef_C.of (cc := cX2_digit) (maxL := 6) (ret := (some .int)) (by decide) rfl (Nat.le_of_ble_eq_true rfl) ?_
  intro p e s m below meth c ls hx hb hml hr hts hown hlocks hK hNX hP hD hS hl
  have hl : lv_has ls 6 [(0, .ref (q 0)), (1, .int (iv (0))), (2, .int (iv (0))), (3, .int (iv ((mu : Int)))), (4, .int (iv ((mo : Int))))] := hl
  have hown : s.vm.findClass RX2 = some m.cls := hown
  generalize hH : s.heap = H at hP ⊢
  have hS : va_S (ef_A (cC cI q (A1) (U1) (b1) (e1) (A2) (U2) (b2) (e2) (L) (R))) s.heap H [] := by rw [← hH]; exact hS
  generalize ([] : List Loc) = locs at hS ⊢
  have hL2 := wl_mul hA1 hmu hmo
  refine lv_aload_n hx hb dX2_digit_0 rfl (lv_at hl 0 rfl) ?_
  refine lv_iload_n hx hb dX2_digit_1 rfl (lv_at hl 1 rfl) ?_
  refine lv_iload_n hx hb dX2_digit_2 rfl (lv_at hl 2 rfl) ?_
  refine ef_callV (As := [.int (iv (0)), .int (iv (0))]) (rest := []) ⟨hx, hb, hml, hown, hts⟩ (c_partOf00 l dC dI ht q) (cwV 2 hts gX2_digit_X2_partOf rfl rfl rfl (by decide +kernel) ⟨Nat.le_of_ble_eq_true rfl, Nat.le_of_ble_eq_true rfl⟩) hK hNX hP hD hS 0 rfl rfl rfl rfl hl.1 rfl (Nat.le_of_ble_eq_true rfl) dX2_digit_3 ⟨Nat.zero_le _, Nat.zero_le _⟩ (fun o w1 H locs hq hP hD hS => ?_)
  obtain ⟨rfl, e9⟩ := hq
  rw [e9] at hP hD
  refine W.eq (g2 := F0 m 6 ls [.ref (q 3)]) rfl ?_
  refine lv_astore (lv' := [(5, .ref (q 3)), (0, .ref (q 0)), (1, .int (iv (0))), (2, .int (iv (0))), (3, .int (iv ((mu : Int)))), (4, .int (iv ((mo : Int))))]) hx hb dX2_digit_6 hl (by decide) rfl (fun ls hl => ?_)
  refine lv_aload hx hb dX2_digit_8 (lv_at hl 0 rfl) ?_
  refine lv_ifnull hx hb dX2_digit_10 ?_
  refine lv_iload_n hx hb dX2_digit_13 rfl (lv_at hl 4 rfl) ?_
  refine lv_iconst (v := iv (1)) hx hb dX2_digit_14 (by decide) ?_
  refine iw_icmp_lt (tgt := 36) hx hb dX2_digit_15 (by decide) ⟨by omega, by omega⟩ ⟨by omega, by omega⟩ (fun c0 => ?_) (fun c0 => ?_)
  ·
    exact absurd c0 (by omega)
  ·
    refine lv_iload_n hx hb dX2_digit_18 rfl (lv_at hl 4 rfl) ?_
    refine lv_ldc (v := iv (1000000)) hx hb hown (hts (.constant RX2 40 (iv (1000000))) (by decide +kernel)) dX2_digit_19 ?_
    refine iw_icmp_gt (tgt := 36) hx hb dX2_digit_21 (by decide) ⟨by omega, by omega⟩ ⟨by omega, by omega⟩ (fun c1 => ?_) (fun c1 => ?_)
    ·
      exact absurd c1 (by omega)
    ·
      refine lv_iload hx hb dX2_digit_24 (lv_at hl 5 rfl) ?_
      refine iw_if_lt (tgt := 36) hx hb dX2_digit_26 (by decide) ⟨by omega, by omega⟩ (fun c2 => ?_) (fun c2 => ?_)
      ·
        exact absurd c2 (by omega)
      ·
        refine lv_iload hx hb dX2_digit_29 (lv_at hl 5 rfl) ?_
        refine lv_ldc (v := iv (1000000)) hx hb hown (hts (.constant RX2 40 (iv (1000000))) (by decide +kernel)) dX2_digit_31 ?_
        refine iw_icmp_le (tgt := 38) hx hb dX2_digit_33 (by decide) ⟨by omega, by omega⟩ ⟨by omega, by omega⟩ (fun c3 => ?_) (fun c3 => ?_)
        ·
          refine lv_aload_n hx hb dX2_digit_38 rfl (lv_at hl 1 rfl) ?_
          refine va_get (D := (dC, dI)) (ci := 2) (v := .ref (q 11)) (C := RX2) (T := TX2) (N := 4) hx hb hts (by decide +kernel) hown hK hP 0 rfl rfl 2 (by decide) (hts (.fieldLink RX2 22 "ExactFractions" "left" "LExactFractions$Whole;") (by decide +kernel)) (fun _ h9 => h9) rfl dX2_digit_39 ?_
          refine lv_aload hx hb dX2_digit_42 (lv_at hl 0 rfl) ?_
          refine lv_iload_n hx hb dX2_digit_44 rfl (lv_at hl 4 rfl) ?_
          refine lv_iload hx hb dX2_digit_45 (lv_at hl 5 rfl) ?_
          refine ef_callV (As := [.ref (q 3), .int (iv ((mu : Int))), .int (iv ((mo : Int)))]) (rest := []) ⟨hx, hb, hml, hown, hts⟩ (c_multiple l dC dI ht (isW_c (X := L) (ws := cC cI q (A1) (U1) (b1) (e1) (A2) (U2) (b2) (e2) (L) (R)) (k0 := 11) (k1 := 12) (by decide) rfl rfl) hL (wd_lt _) wd_z (isW_c (X := A1) (ws := cC cI q (A1) (U1) (b1) (e1) (A2) (U2) (b2) (e2) (L) (R)) (k0 := 3) (k1 := 4) (by decide) rfl rfl) (by omega) (apt_c (k0 := 11) (k1 := 12) (j0 := 3) (j1 := 4) rfl) mu mo hmu hmo) (cwV 3 hts gX2_digit_X1_becomeMultiple rfl rfl rfl (by decide +kernel) ⟨Nat.le_of_ble_eq_true rfl, Nat.le_of_ble_eq_true rfl⟩) hK hNX hP hD hS 11 rfl rfl rfl rfl hl.1 rfl (Nat.le_of_ble_eq_true rfl) dX2_digit_47 ⟨Nat.zero_le _, Nat.zero_le _⟩ (fun o w1 H locs hq hP hD hS => ?_)
          obtain ⟨rfl, rfl⟩ := hq
          have hP : va_P (dC, dI) vwCl (cC cI q (A1) (U1) (b1) (e1) (A2) (U2) (b2) (e2) (A1 * mu + mo) (R)) H := hP
          have hD : va_D (ef_A (cC cI q (A1) (U1) (b1) (e1) (A2) (U2) (b2) (e2) (L) (R))) (cC cI q (A1) (U1) (b1) (e1) (A2) (U2) (b2) (e2) (A1 * mu + mo) (R)) := hD
          refine W.eq (g2 := F0 m 50 ls []) rfl ?_
          refine lv_aload_n hx hb dX2_digit_50 rfl (lv_at hl 1 rfl) ?_
          refine lv_aload hx hb dX2_digit_51 (lv_at hl 0 rfl) ?_
          refine ef_callV (As := [.ref (q 3)]) (rest := []) ⟨hx, hb, hml, hown, hts⟩ (c_keep00F l dC dI ht q hA1 hU1 hA2 hU2 (by omega) hR hb4) (cwV 1 hts gX2_digit_X2_keepLeftIn rfl rfl rfl (by decide +kernel) ⟨Nat.le_of_ble_eq_true rfl, Nat.le_of_ble_eq_true rfl⟩) hK hNX hP hD hS 0 rfl rfl rfl rfl hl.1 rfl (Nat.le_of_ble_eq_true rfl) dX2_digit_53 ⟨Nat.zero_le _, Nat.zero_le _⟩ (fun o w1 H locs hq hP hD hS => ?_)
          obtain ⟨rfl, rfl⟩ := hq
          have hP : va_P (dC, dI) vwCl (cC cI q (A1) (U1) (b1) (e1) (A2) (U2) (b2) (e2) (A1 * mu + mo) (R)) H := hP
          have hD : va_D (ef_A (cC cI q (A1) (U1) (b1) (e1) (A2) (U2) (b2) (e2) (L) (R))) (cC cI q (A1) (U1) (b1) (e1) (A2) (U2) (b2) (e2) (A1 * mu + mo) (R)) := hD
          refine W.eq (g2 := F0 m 56 ls [.int (iv (-2))]) rfl ?_
          exact ef_iret hx hb hr hlocks hP hD hS dX2_digit_56 (⟨_, _, rfl, rfl, by omega, hR⟩)
        ·
          exact absurd c3 (by omega)

set_option maxRecDepth 100000 in
set_option maxHeartbeats 4000000 in
/-- digit -/
theorem c_digit00K (l : Launch) (dC : Nat → ClassId) (dI : Nat → Nat → Nat) {cI : ClassId} {tys : List (ClassId × FieldType)} (ht : tys[0]? = some (cI, .int)) (q : Nat → Nat) {A1 U1 A2 U2 L R : Nat} {b1 e1 b2 e2 : Int} (hA1 : wl A1 ≤ 150) (hU1 : wl U1 ≤ 150) (hA2 : wl A2 ≤ 150) (hU2 : wl U2 ≤ 150) (hL : wl L ≤ 301) (hR : wl R ≤ 301) (mu mo : Nat) (hm1 : 1 ≤ mu) (hmu : mu ≤ 1000000) (hmo : mo ≤ 1000000) (hb4 : bl (A1 * mu + mo) ≤ 4800) : ef_C l yX2_digit wsX2_digit ({ frames := 4, cells := 0, slots := 0, locals := 88 } : Room) [.ref (q 0), .int (iv (0)), .int (iv (0)), .int (iv ((mu : Int))), .int (iv ((mo : Int)))] (dC, dI) vwCl tys (cC cI q (A1) (U1) (b1) (e1) (A2) (U2) (b2) (e2) (L) (R)) (fun o w1 => ∃ L2 R2 : Nat, o = some (.int (iv (bl (A1 * mu + mo) : Int))) ∧ w1 = cC cI q (A1 * mu + mo) (U1) (b1) (e1) (A2) (U2) (b2) (e2) (L2) (R2) ∧ wl L2 ≤ 301 ∧ wl R2 ≤ 301) := by
  refine ef_C.of (cc := cX2_digit) (maxL := 6) (ret := (some .int)) (by decide) rfl (Nat.le_of_ble_eq_true rfl) ?_
  intro p e s m below meth c ls hx hb hml hr hts hown hlocks hK hNX hP hD hS hl
  have hl : lv_has ls 6 [(0, .ref (q 0)), (1, .int (iv (0))), (2, .int (iv (0))), (3, .int (iv ((mu : Int)))), (4, .int (iv ((mo : Int))))] := hl
  have hown : s.vm.findClass RX2 = some m.cls := hown
  generalize hH : s.heap = H at hP ⊢
  have hS : va_S (ef_A (cC cI q (A1) (U1) (b1) (e1) (A2) (U2) (b2) (e2) (L) (R))) s.heap H [] := by rw [← hH]; exact hS
  generalize ([] : List Loc) = locs at hS ⊢
  have hL2 := wl_mul hA1 hmu hmo
  refine lv_aload_n hx hb dX2_digit_0 rfl (lv_at hl 0 rfl) ?_
  refine lv_iload_n hx hb dX2_digit_1 rfl (lv_at hl 1 rfl) ?_
  refine lv_iload_n hx hb dX2_digit_2 rfl (lv_at hl 2 rfl) ?_
  refine ef_callV (As := [.int (iv (0)), .int (iv (0))]) (rest := []) ⟨hx, hb, hml, hown, hts⟩ (c_partOf00 l dC dI ht q) (cwV 2 hts gX2_digit_X2_partOf rfl rfl rfl (by decide +kernel) ⟨Nat.le_of_ble_eq_true rfl, Nat.le_of_ble_eq_true rfl⟩) hK hNX hP hD hS 0 rfl rfl rfl rfl hl.1 rfl (Nat.le_of_ble_eq_true rfl) dX2_digit_3 ⟨Nat.zero_le _, Nat.zero_le _⟩ (fun o w1 H locs hq hP hD hS => ?_)
  obtain ⟨rfl, e9⟩ := hq
  rw [e9] at hP hD
  refine W.eq (g2 := F0 m 6 ls [.ref (q 3)]) rfl ?_
  refine lv_astore (lv' := [(5, .ref (q 3)), (0, .ref (q 0)), (1, .int (iv (0))), (2, .int (iv (0))), (3, .int (iv ((mu : Int)))), (4, .int (iv ((mo : Int))))]) hx hb dX2_digit_6 hl (by decide) rfl (fun ls hl => ?_)
  refine lv_aload hx hb dX2_digit_8 (lv_at hl 0 rfl) ?_
  refine lv_ifnull hx hb dX2_digit_10 ?_
  refine lv_iload_n hx hb dX2_digit_13 rfl (lv_at hl 4 rfl) ?_
  refine lv_iconst (v := iv (1)) hx hb dX2_digit_14 (by decide) ?_
  refine iw_icmp_lt (tgt := 36) hx hb dX2_digit_15 (by decide) ⟨by omega, by omega⟩ ⟨by omega, by omega⟩ (fun c0 => ?_) (fun c0 => ?_)
  ·
    exact absurd c0 (by omega)
  ·
    refine lv_iload_n hx hb dX2_digit_18 rfl (lv_at hl 4 rfl) ?_
    refine lv_ldc (v := iv (1000000)) hx hb hown (hts (.constant RX2 40 (iv (1000000))) (by decide +kernel)) dX2_digit_19 ?_
    refine iw_icmp_gt (tgt := 36) hx hb dX2_digit_21 (by decide) ⟨by omega, by omega⟩ ⟨by omega, by omega⟩ (fun c1 => ?_) (fun c1 => ?_)
    ·
      exact absurd c1 (by omega)
    ·
      refine lv_iload hx hb dX2_digit_24 (lv_at hl 5 rfl) ?_
      refine iw_if_lt (tgt := 36) hx hb dX2_digit_26 (by decide) ⟨by omega, by omega⟩ (fun c2 => ?_) (fun c2 => ?_)
      ·
        exact absurd c2 (by omega)
      ·
        refine lv_iload hx hb dX2_digit_29 (lv_at hl 5 rfl) ?_
        refine lv_ldc (v := iv (1000000)) hx hb hown (hts (.constant RX2 40 (iv (1000000))) (by decide +kernel)) dX2_digit_31 ?_
        refine iw_icmp_le (tgt := 38) hx hb dX2_digit_33 (by decide) ⟨by omega, by omega⟩ ⟨by omega, by omega⟩ (fun c3 => ?_) (fun c3 => ?_)
        ·
          refine lv_aload_n hx hb dX2_digit_38 rfl (lv_at hl 1 rfl) ?_
          refine va_get (D := (dC, dI)) (ci := 2) (v := .ref (q 11)) (C := RX2) (T := TX2) (N := 4) hx hb hts (by decide +kernel) hown hK hP 0 rfl rfl 2 (by decide) (hts (.fieldLink RX2 22 "ExactFractions" "left" "LExactFractions$Whole;") (by decide +kernel)) (fun _ h9 => h9) rfl dX2_digit_39 ?_
          refine lv_aload hx hb dX2_digit_42 (lv_at hl 0 rfl) ?_
          refine lv_iload_n hx hb dX2_digit_44 rfl (lv_at hl 4 rfl) ?_
          refine lv_iload hx hb dX2_digit_45 (lv_at hl 5 rfl) ?_
          refine ef_callV (As := [.ref (q 3), .int (iv ((mu : Int))), .int (iv ((mo : Int)))]) (rest := []) ⟨hx, hb, hml, hown, hts⟩ (c_multiple l dC dI ht (isW_c (X := L) (ws := cC cI q (A1) (U1) (b1) (e1) (A2) (U2) (b2) (e2) (L) (R)) (k0 := 11) (k1 := 12) (by decide) rfl rfl) hL (wd_lt _) wd_z (isW_c (X := A1) (ws := cC cI q (A1) (U1) (b1) (e1) (A2) (U2) (b2) (e2) (L) (R)) (k0 := 3) (k1 := 4) (by decide) rfl rfl) (by omega) (apt_c (k0 := 11) (k1 := 12) (j0 := 3) (j1 := 4) rfl) mu mo hmu hmo) (cwV 3 hts gX2_digit_X1_becomeMultiple rfl rfl rfl (by decide +kernel) ⟨Nat.le_of_ble_eq_true rfl, Nat.le_of_ble_eq_true rfl⟩) hK hNX hP hD hS 11 rfl rfl rfl rfl hl.1 rfl (Nat.le_of_ble_eq_true rfl) dX2_digit_47 ⟨Nat.zero_le _, Nat.zero_le _⟩ (fun o w1 H locs hq hP hD hS => ?_)
          obtain ⟨rfl, rfl⟩ := hq
          have hP : va_P (dC, dI) vwCl (cC cI q (A1) (U1) (b1) (e1) (A2) (U2) (b2) (e2) (A1 * mu + mo) (R)) H := hP
          have hD : va_D (ef_A (cC cI q (A1) (U1) (b1) (e1) (A2) (U2) (b2) (e2) (L) (R))) (cC cI q (A1) (U1) (b1) (e1) (A2) (U2) (b2) (e2) (A1 * mu + mo) (R)) := hD
          refine W.eq (g2 := F0 m 50 ls []) rfl ?_
          refine lv_aload_n hx hb dX2_digit_50 rfl (lv_at hl 1 rfl) ?_
          refine lv_aload hx hb dX2_digit_51 (lv_at hl 0 rfl) ?_
          refine ef_callV (As := [.ref (q 3)]) (rest := []) ⟨hx, hb, hml, hown, hts⟩ (c_keep00K l dC dI ht q hA1 hU1 hA2 hU2 (by omega) hR hb4) (cwV 1 hts gX2_digit_X2_keepLeftIn rfl rfl rfl (by decide +kernel) ⟨Nat.le_of_ble_eq_true rfl, Nat.le_of_ble_eq_true rfl⟩) hK hNX hP hD hS 0 rfl rfl rfl rfl hl.1 rfl (Nat.le_of_ble_eq_true rfl) dX2_digit_53 ⟨Nat.zero_le _, Nat.zero_le _⟩ (fun o w1 H locs hq hP hD hS => ?_)
          obtain ⟨rfl, rfl⟩ := hq
          have hP : va_P (dC, dI) vwCl (cC cI q (A1 * mu + mo) (U1) (b1) (e1) (A2) (U2) (b2) (e2) (A1 * mu + mo) (R)) H := hP
          have hD : va_D (ef_A (cC cI q (A1) (U1) (b1) (e1) (A2) (U2) (b2) (e2) (L) (R))) (cC cI q (A1 * mu + mo) (U1) (b1) (e1) (A2) (U2) (b2) (e2) (A1 * mu + mo) (R)) := hD
          refine W.eq (g2 := F0 m 56 ls [.int (iv ((bl (A1 * mu + mo) : Int)))]) rfl ?_
          exact ef_iret hx hb hr hlocks hP hD hS dX2_digit_56 (⟨_, _, rfl, rfl, by omega, hR⟩)
        ·
          exact absurd c3 (by omega)

set_option maxRecDepth 100000 in
set_option maxHeartbeats 4000000 in
/-- digit -/
theorem c_digit01F (l : Launch) (dC : Nat → ClassId) (dI : Nat → Nat → Nat) {cI : ClassId} {tys : List (ClassId × FieldType)} (ht : tys[0]? = some (cI, .int)) (q : Nat → Nat) {A1 U1 A2 U2 L R : Nat} {b1 e1 b2 e2 : Int} (hA1 : wl A1 ≤ 150) (hU1 : wl U1 ≤ 150) (hA2 : wl A2 ≤ 150) (hU2 : wl U2 ≤ 150) (hL : wl L ≤ 301) (hR : wl R ≤ 301) (mu mo : Nat) (hm1 : 1 ≤ mu) (hmu : mu ≤ 1000000) (hmo : mo ≤ 1000000) (hb4 : 4800 < bl (U1 * mu + mo)) : ef_C l yX2_digit wsX2_digit ({ frames := 4, cells := 0, slots := 0, locals := 88 } : Room) [.ref (q 0), .int (iv (0)), .int (iv (1)), .int (iv ((mu : Int))), .int (iv ((mo : Int)))] (dC, dI) vwCl tys (cC cI q (A1) (U1) (b1) (e1) (A2) (U2) (b2) (e2) (L) (R)) (fun o w1 => ∃ L2 R2 : Nat, o = some (.int (iv (-2))) ∧ w1 = cC cI q (A1) (U1) (b1) (e1) (A2) (U2) (b2) (e2) (L2) (R2) ∧ wl L2 ≤ 301 ∧ wl R2 ≤ 301) := by
  refine ef_C.of (cc := cX2_digit) (maxL := 6) (ret := (some .int)) (by decide) rfl (Nat.le_of_ble_eq_true rfl) ?_
  intro p e s m below meth c ls hx hb hml hr hts hown hlocks hK hNX hP hD hS hl
  have hl : lv_has ls 6 [(0, .ref (q 0)), (1, .int (iv (0))), (2, .int (iv (1))), (3, .int (iv ((mu : Int)))), (4, .int (iv ((mo : Int))))] := hl
  have hown : s.vm.findClass RX2 = some m.cls := hown
  generalize hH : s.heap = H at hP ⊢
  have hS : va_S (ef_A (cC cI q (A1) (U1) (b1) (e1) (A2) (U2) (b2) (e2) (L) (R))) s.heap H [] := by rw [← hH]; exact hS
  generalize ([] : List Loc) = locs at hS ⊢
  have hL2 := wl_mul hU1 hmu hmo
  refine lv_aload_n hx hb dX2_digit_0 rfl (lv_at hl 0 rfl) ?_
  refine lv_iload_n hx hb dX2_digit_1 rfl (lv_at hl 1 rfl) ?_
  refine lv_iload_n hx hb dX2_digit_2 rfl (lv_at hl 2 rfl) ?_
  refine ef_callV (As := [.int (iv (0)), .int (iv (1))]) (rest := []) ⟨hx, hb, hml, hown, hts⟩ (c_partOf01 l dC dI ht q) (cwV 2 hts gX2_digit_X2_partOf rfl rfl rfl (by decide +kernel) ⟨Nat.le_of_ble_eq_true rfl, Nat.le_of_ble_eq_true rfl⟩) hK hNX hP hD hS 0 rfl rfl rfl rfl hl.1 rfl (Nat.le_of_ble_eq_true rfl) dX2_digit_3 ⟨Nat.zero_le _, Nat.zero_le _⟩ (fun o w1 H locs hq hP hD hS => ?_)
  obtain ⟨rfl, e9⟩ := hq
  rw [e9] at hP hD
  refine W.eq (g2 := F0 m 6 ls [.ref (q 5)]) rfl ?_
  refine lv_astore (lv' := [(5, .ref (q 5)), (0, .ref (q 0)), (1, .int (iv (0))), (2, .int (iv (1))), (3, .int (iv ((mu : Int)))), (4, .int (iv ((mo : Int))))]) hx hb dX2_digit_6 hl (by decide) rfl (fun ls hl => ?_)
  refine lv_aload hx hb dX2_digit_8 (lv_at hl 0 rfl) ?_
  refine lv_ifnull hx hb dX2_digit_10 ?_
  refine lv_iload_n hx hb dX2_digit_13 rfl (lv_at hl 4 rfl) ?_
  refine lv_iconst (v := iv (1)) hx hb dX2_digit_14 (by decide) ?_
  refine iw_icmp_lt (tgt := 36) hx hb dX2_digit_15 (by decide) ⟨by omega, by omega⟩ ⟨by omega, by omega⟩ (fun c0 => ?_) (fun c0 => ?_)
  ·
    exact absurd c0 (by omega)
  ·
    refine lv_iload_n hx hb dX2_digit_18 rfl (lv_at hl 4 rfl) ?_
    refine lv_ldc (v := iv (1000000)) hx hb hown (hts (.constant RX2 40 (iv (1000000))) (by decide +kernel)) dX2_digit_19 ?_
    refine iw_icmp_gt (tgt := 36) hx hb dX2_digit_21 (by decide) ⟨by omega, by omega⟩ ⟨by omega, by omega⟩ (fun c1 => ?_) (fun c1 => ?_)
    ·
      exact absurd c1 (by omega)
    ·
      refine lv_iload hx hb dX2_digit_24 (lv_at hl 5 rfl) ?_
      refine iw_if_lt (tgt := 36) hx hb dX2_digit_26 (by decide) ⟨by omega, by omega⟩ (fun c2 => ?_) (fun c2 => ?_)
      ·
        exact absurd c2 (by omega)
      ·
        refine lv_iload hx hb dX2_digit_29 (lv_at hl 5 rfl) ?_
        refine lv_ldc (v := iv (1000000)) hx hb hown (hts (.constant RX2 40 (iv (1000000))) (by decide +kernel)) dX2_digit_31 ?_
        refine iw_icmp_le (tgt := 38) hx hb dX2_digit_33 (by decide) ⟨by omega, by omega⟩ ⟨by omega, by omega⟩ (fun c3 => ?_) (fun c3 => ?_)
        ·
          refine lv_aload_n hx hb dX2_digit_38 rfl (lv_at hl 1 rfl) ?_
          refine va_get (D := (dC, dI)) (ci := 2) (v := .ref (q 11)) (C := RX2) (T := TX2) (N := 4) hx hb hts (by decide +kernel) hown hK hP 0 rfl rfl 2 (by decide) (hts (.fieldLink RX2 22 "ExactFractions" "left" "LExactFractions$Whole;") (by decide +kernel)) (fun _ h9 => h9) rfl dX2_digit_39 ?_
          refine lv_aload hx hb dX2_digit_42 (lv_at hl 0 rfl) ?_
          refine lv_iload_n hx hb dX2_digit_44 rfl (lv_at hl 4 rfl) ?_
          refine lv_iload hx hb dX2_digit_45 (lv_at hl 5 rfl) ?_
          refine ef_callV (As := [.ref (q 5), .int (iv ((mu : Int))), .int (iv ((mo : Int)))]) (rest := []) ⟨hx, hb, hml, hown, hts⟩ (c_multiple l dC dI ht (isW_c (X := L) (ws := cC cI q (A1) (U1) (b1) (e1) (A2) (U2) (b2) (e2) (L) (R)) (k0 := 11) (k1 := 12) (by decide) rfl rfl) hL (wd_lt _) wd_z (isW_c (X := U1) (ws := cC cI q (A1) (U1) (b1) (e1) (A2) (U2) (b2) (e2) (L) (R)) (k0 := 5) (k1 := 6) (by decide) rfl rfl) (by omega) (apt_c (k0 := 11) (k1 := 12) (j0 := 5) (j1 := 6) rfl) mu mo hmu hmo) (cwV 3 hts gX2_digit_X1_becomeMultiple rfl rfl rfl (by decide +kernel) ⟨Nat.le_of_ble_eq_true rfl, Nat.le_of_ble_eq_true rfl⟩) hK hNX hP hD hS 11 rfl rfl rfl rfl hl.1 rfl (Nat.le_of_ble_eq_true rfl) dX2_digit_47 ⟨Nat.zero_le _, Nat.zero_le _⟩ (fun o w1 H locs hq hP hD hS => ?_)
          obtain ⟨rfl, rfl⟩ := hq
          have hP : va_P (dC, dI) vwCl (cC cI q (A1) (U1) (b1) (e1) (A2) (U2) (b2) (e2) (U1 * mu + mo) (R)) H := hP
          have hD : va_D (ef_A (cC cI q (A1) (U1) (b1) (e1) (A2) (U2) (b2) (e2) (L) (R))) (cC cI q (A1) (U1) (b1) (e1) (A2) (U2) (b2) (e2) (U1 * mu + mo) (R)) := hD
          refine W.eq (g2 := F0 m 50 ls []) rfl ?_
          refine lv_aload_n hx hb dX2_digit_50 rfl (lv_at hl 1 rfl) ?_
          refine lv_aload hx hb dX2_digit_51 (lv_at hl 0 rfl) ?_
          refine ef_callV (As := [.ref (q 5)]) (rest := []) ⟨hx, hb, hml, hown, hts⟩ (c_keep01F l dC dI ht q hA1 hU1 hA2 hU2 (by omega) hR hb4) (cwV 1 hts gX2_digit_X2_keepLeftIn rfl rfl rfl (by decide +kernel) ⟨Nat.le_of_ble_eq_true rfl, Nat.le_of_ble_eq_true rfl⟩) hK hNX hP hD hS 0 rfl rfl rfl rfl hl.1 rfl (Nat.le_of_ble_eq_true rfl) dX2_digit_53 ⟨Nat.zero_le _, Nat.zero_le _⟩ (fun o w1 H locs hq hP hD hS => ?_)
          obtain ⟨rfl, rfl⟩ := hq
          have hP : va_P (dC, dI) vwCl (cC cI q (A1) (U1) (b1) (e1) (A2) (U2) (b2) (e2) (U1 * mu + mo) (R)) H := hP
          have hD : va_D (ef_A (cC cI q (A1) (U1) (b1) (e1) (A2) (U2) (b2) (e2) (L) (R))) (cC cI q (A1) (U1) (b1) (e1) (A2) (U2) (b2) (e2) (U1 * mu + mo) (R)) := hD
          refine W.eq (g2 := F0 m 56 ls [.int (iv (-2))]) rfl ?_
          exact ef_iret hx hb hr hlocks hP hD hS dX2_digit_56 (⟨_, _, rfl, rfl, by omega, hR⟩)
        ·
          exact absurd c3 (by omega)

set_option maxRecDepth 100000 in
set_option maxHeartbeats 4000000 in
/-- digit -/
theorem c_digit01K (l : Launch) (dC : Nat → ClassId) (dI : Nat → Nat → Nat) {cI : ClassId} {tys : List (ClassId × FieldType)} (ht : tys[0]? = some (cI, .int)) (q : Nat → Nat) {A1 U1 A2 U2 L R : Nat} {b1 e1 b2 e2 : Int} (hA1 : wl A1 ≤ 150) (hU1 : wl U1 ≤ 150) (hA2 : wl A2 ≤ 150) (hU2 : wl U2 ≤ 150) (hL : wl L ≤ 301) (hR : wl R ≤ 301) (mu mo : Nat) (hm1 : 1 ≤ mu) (hmu : mu ≤ 1000000) (hmo : mo ≤ 1000000) (hb4 : bl (U1 * mu + mo) ≤ 4800) : ef_C l yX2_digit wsX2_digit ({ frames := 4, cells := 0, slots := 0, locals := 88 } : Room) [.ref (q 0), .int (iv (0)), .int (iv (1)), .int (iv ((mu : Int))), .int (iv ((mo : Int)))] (dC, dI) vwCl tys (cC cI q (A1) (U1) (b1) (e1) (A2) (U2) (b2) (e2) (L) (R)) (fun o w1 => ∃ L2 R2 : Nat, o = some (.int (iv (bl (U1 * mu + mo) : Int))) ∧ w1 = cC cI q (A1) (U1 * mu + mo) (b1) (e1) (A2) (U2) (b2) (e2) (L2) (R2) ∧ wl L2 ≤ 301 ∧ wl R2 ≤ 301) := by
  refine ef_C.of (cc := cX2_digit) (maxL := 6) (ret := (some .int)) (by decide) rfl (Nat.le_of_ble_eq_true rfl) ?_
  intro p e s m below meth c ls hx hb hml hr hts hown hlocks hK hNX hP hD hS hl
  have hl : lv_has ls 6 [(0, .ref (q 0)), (1, .int (iv (0))), (2, .int (iv (1))), (3, .int (iv ((mu : Int)))), (4, .int (iv ((mo : Int))))] := hl
  have hown : s.vm.findClass RX2 = some m.cls := hown
  generalize hH : s.heap = H at hP ⊢
  have hS : va_S (ef_A (cC cI q (A1) (U1) (b1) (e1) (A2) (U2) (b2) (e2) (L) (R))) s.heap H [] := by rw [← hH]; exact hS
  generalize ([] : List Loc) = locs at hS ⊢
  have hL2 := wl_mul hU1 hmu hmo
  refine lv_aload_n hx hb dX2_digit_0 rfl (lv_at hl 0 rfl) ?_
  refine lv_iload_n hx hb dX2_digit_1 rfl (lv_at hl 1 rfl) ?_
  refine lv_iload_n hx hb dX2_digit_2 rfl (lv_at hl 2 rfl) ?_
  refine ef_callV (As := [.int (iv (0)), .int (iv (1))]) (rest := []) ⟨hx, hb, hml, hown, hts⟩ (c_partOf01 l dC dI ht q) (cwV 2 hts gX2_digit_X2_partOf rfl rfl rfl (by decide +kernel) ⟨Nat.le_of_ble_eq_true rfl, Nat.le_of_ble_eq_true rfl⟩) hK hNX hP hD hS 0 rfl rfl rfl rfl hl.1 rfl (Nat.le_of_ble_eq_true rfl) dX2_digit_3 ⟨Nat.zero_le _, Nat.zero_le _⟩ (fun o w1 H locs hq hP hD hS => ?_)
  obtain ⟨rfl, e9⟩ := hq
  rw [e9] at hP hD
  refine W.eq (g2 := F0 m 6 ls [.ref (q 5)]) rfl ?_
  refine lv_astore (lv' := [(5, .ref (q 5)), (0, .ref (q 0)), (1, .int (iv (0))), (2, .int (iv (1))), (3, .int (iv ((mu : Int)))), (4, .int (iv ((mo : Int))))]) hx hb dX2_digit_6 hl (by decide) rfl (fun ls hl => ?_)
  refine lv_aload hx hb dX2_digit_8 (lv_at hl 0 rfl) ?_
  refine lv_ifnull hx hb dX2_digit_10 ?_
  refine lv_iload_n hx hb dX2_digit_13 rfl (lv_at hl 4 rfl) ?_
  refine lv_iconst (v := iv (1)) hx hb dX2_digit_14 (by decide) ?_
  refine iw_icmp_lt (tgt := 36) hx hb dX2_digit_15 (by decide) ⟨by omega, by omega⟩ ⟨by omega, by omega⟩ (fun c0 => ?_) (fun c0 => ?_)
  ·
    exact absurd c0 (by omega)
  ·
    refine lv_iload_n hx hb dX2_digit_18 rfl (lv_at hl 4 rfl) ?_
    refine lv_ldc (v := iv (1000000)) hx hb hown (hts (.constant RX2 40 (iv (1000000))) (by decide +kernel)) dX2_digit_19 ?_
    refine iw_icmp_gt (tgt := 36) hx hb dX2_digit_21 (by decide) ⟨by omega, by omega⟩ ⟨by omega, by omega⟩ (fun c1 => ?_) (fun c1 => ?_)
    ·
      exact absurd c1 (by omega)
    ·
      refine lv_iload hx hb dX2_digit_24 (lv_at hl 5 rfl) ?_
      refine iw_if_lt (tgt := 36) hx hb dX2_digit_26 (by decide) ⟨by omega, by omega⟩ (fun c2 => ?_) (fun c2 => ?_)
      ·
        exact absurd c2 (by omega)
      ·
        refine lv_iload hx hb dX2_digit_29 (lv_at hl 5 rfl) ?_
        refine lv_ldc (v := iv (1000000)) hx hb hown (hts (.constant RX2 40 (iv (1000000))) (by decide +kernel)) dX2_digit_31 ?_
        refine iw_icmp_le (tgt := 38) hx hb dX2_digit_33 (by decide) ⟨by omega, by omega⟩ ⟨by omega, by omega⟩ (fun c3 => ?_) (fun c3 => ?_)
        ·
          refine lv_aload_n hx hb dX2_digit_38 rfl (lv_at hl 1 rfl) ?_
          refine va_get (D := (dC, dI)) (ci := 2) (v := .ref (q 11)) (C := RX2) (T := TX2) (N := 4) hx hb hts (by decide +kernel) hown hK hP 0 rfl rfl 2 (by decide) (hts (.fieldLink RX2 22 "ExactFractions" "left" "LExactFractions$Whole;") (by decide +kernel)) (fun _ h9 => h9) rfl dX2_digit_39 ?_
          refine lv_aload hx hb dX2_digit_42 (lv_at hl 0 rfl) ?_
          refine lv_iload_n hx hb dX2_digit_44 rfl (lv_at hl 4 rfl) ?_
          refine lv_iload hx hb dX2_digit_45 (lv_at hl 5 rfl) ?_
          refine ef_callV (As := [.ref (q 5), .int (iv ((mu : Int))), .int (iv ((mo : Int)))]) (rest := []) ⟨hx, hb, hml, hown, hts⟩ (c_multiple l dC dI ht (isW_c (X := L) (ws := cC cI q (A1) (U1) (b1) (e1) (A2) (U2) (b2) (e2) (L) (R)) (k0 := 11) (k1 := 12) (by decide) rfl rfl) hL (wd_lt _) wd_z (isW_c (X := U1) (ws := cC cI q (A1) (U1) (b1) (e1) (A2) (U2) (b2) (e2) (L) (R)) (k0 := 5) (k1 := 6) (by decide) rfl rfl) (by omega) (apt_c (k0 := 11) (k1 := 12) (j0 := 5) (j1 := 6) rfl) mu mo hmu hmo) (cwV 3 hts gX2_digit_X1_becomeMultiple rfl rfl rfl (by decide +kernel) ⟨Nat.le_of_ble_eq_true rfl, Nat.le_of_ble_eq_true rfl⟩) hK hNX hP hD hS 11 rfl rfl rfl rfl hl.1 rfl (Nat.le_of_ble_eq_true rfl) dX2_digit_47 ⟨Nat.zero_le _, Nat.zero_le _⟩ (fun o w1 H locs hq hP hD hS => ?_)
          obtain ⟨rfl, rfl⟩ := hq
          have hP : va_P (dC, dI) vwCl (cC cI q (A1) (U1) (b1) (e1) (A2) (U2) (b2) (e2) (U1 * mu + mo) (R)) H := hP
          have hD : va_D (ef_A (cC cI q (A1) (U1) (b1) (e1) (A2) (U2) (b2) (e2) (L) (R))) (cC cI q (A1) (U1) (b1) (e1) (A2) (U2) (b2) (e2) (U1 * mu + mo) (R)) := hD
          refine W.eq (g2 := F0 m 50 ls []) rfl ?_
          refine lv_aload_n hx hb dX2_digit_50 rfl (lv_at hl 1 rfl) ?_
          refine lv_aload hx hb dX2_digit_51 (lv_at hl 0 rfl) ?_
          refine ef_callV (As := [.ref (q 5)]) (rest := []) ⟨hx, hb, hml, hown, hts⟩ (c_keep01K l dC dI ht q hA1 hU1 hA2 hU2 (by omega) hR hb4) (cwV 1 hts gX2_digit_X2_keepLeftIn rfl rfl rfl (by decide +kernel) ⟨Nat.le_of_ble_eq_true rfl, Nat.le_of_ble_eq_true rfl⟩) hK hNX hP hD hS 0 rfl rfl rfl rfl hl.1 rfl (Nat.le_of_ble_eq_true rfl) dX2_digit_53 ⟨Nat.zero_le _, Nat.zero_le _⟩ (fun o w1 H locs hq hP hD hS => ?_)
          obtain ⟨rfl, rfl⟩ := hq
          have hP : va_P (dC, dI) vwCl (cC cI q (A1) (U1 * mu + mo) (b1) (e1) (A2) (U2) (b2) (e2) (U1 * mu + mo) (R)) H := hP
          have hD : va_D (ef_A (cC cI q (A1) (U1) (b1) (e1) (A2) (U2) (b2) (e2) (L) (R))) (cC cI q (A1) (U1 * mu + mo) (b1) (e1) (A2) (U2) (b2) (e2) (U1 * mu + mo) (R)) := hD
          refine W.eq (g2 := F0 m 56 ls [.int (iv ((bl (U1 * mu + mo) : Int)))]) rfl ?_
          exact ef_iret hx hb hr hlocks hP hD hS dX2_digit_56 (⟨_, _, rfl, rfl, by omega, hR⟩)
        ·
          exact absurd c3 (by omega)

set_option maxRecDepth 100000 in
set_option maxHeartbeats 4000000 in
/-- digit -/
theorem c_digit10F (l : Launch) (dC : Nat → ClassId) (dI : Nat → Nat → Nat) {cI : ClassId} {tys : List (ClassId × FieldType)} (ht : tys[0]? = some (cI, .int)) (q : Nat → Nat) {A1 U1 A2 U2 L R : Nat} {b1 e1 b2 e2 : Int} (hA1 : wl A1 ≤ 150) (hU1 : wl U1 ≤ 150) (hA2 : wl A2 ≤ 150) (hU2 : wl U2 ≤ 150) (hL : wl L ≤ 301) (hR : wl R ≤ 301) (mu mo : Nat) (hm1 : 1 ≤ mu) (hmu : mu ≤ 1000000) (hmo : mo ≤ 1000000) (hb4 : 4800 < bl (A2 * mu + mo)) : ef_C l yX2_digit wsX2_digit ({ frames := 4, cells := 0, slots := 0, locals := 88 } : Room) [.ref (q 0), .int (iv (1)), .int (iv (0)), .int (iv ((mu : Int))), .int (iv ((mo : Int)))] (dC, dI) vwCl tys (cC cI q (A1) (U1) (b1) (e1) (A2) (U2) (b2) (e2) (L) (R)) (fun o w1 => ∃ L2 R2 : Nat, o = some (.int (iv (-2))) ∧ w1 = cC cI q (A1) (U1) (b1) (e1) (A2) (U2) (b2) (e2) (L2) (R2) ∧ wl L2 ≤ 301 ∧ wl R2 ≤ 301) := by
  refine ef_C.of (cc := cX2_digit) (maxL := 6) (ret := (some .int)) (by decide) rfl (Nat.le_of_ble_eq_true rfl) ?_
  intro p e s m below meth c ls hx hb hml hr hts hown hlocks hK hNX hP hD hS hl
  have hl : lv_has ls 6 [(0, .ref (q 0)), (1, .int (iv (1))), (2, .int (iv (0))), (3, .int (iv ((mu : Int)))), (4, .int (iv ((mo : Int))))] := hl
  have hown : s.vm.findClass RX2 = some m.cls := hown
  generalize hH : s.heap = H at hP ⊢
  have hS : va_S (ef_A (cC cI q (A1) (U1) (b1) (e1) (A2) (U2) (b2) (e2) (L) (R))) s.heap H [] := by rw [← hH]; exact hS
  generalize ([] : List Loc) = locs at hS ⊢
  have hL2 := wl_mul hA2 hmu hmo
  refine lv_aload_n hx hb dX2_digit_0 rfl (lv_at hl 0 rfl) ?_
  refine lv_iload_n hx hb dX2_digit_1 rfl (lv_at hl 1 rfl) ?_
  refine lv_iload_n hx hb dX2_digit_2 rfl (lv_at hl 2 rfl) ?_
  refine ef_callV (As := [.int (iv (1)), .int (iv (0))]) (rest := []) ⟨hx, hb, hml, hown, hts⟩ (c_partOf10 l dC dI ht q) (cwV 2 hts gX2_digit_X2_partOf rfl rfl rfl (by decide +kernel) ⟨Nat.le_of_ble_eq_true rfl, Nat.le_of_ble_eq_true rfl⟩) hK hNX hP hD hS 0 rfl rfl rfl rfl hl.1 rfl (Nat.le_of_ble_eq_true rfl) dX2_digit_3 ⟨Nat.zero_le _, Nat.zero_le _⟩ (fun o w1 H locs hq hP hD hS => ?_)
  obtain ⟨rfl, e9⟩ := hq
  rw [e9] at hP hD
  refine W.eq (g2 := F0 m 6 ls [.ref (q 7)]) rfl ?_
  refine lv_astore (lv' := [(5, .ref (q 7)), (0, .ref (q 0)), (1, .int (iv (1))), (2, .int (iv (0))), (3, .int (iv ((mu : Int)))), (4, .int (iv ((mo : Int))))]) hx hb dX2_digit_6 hl (by decide) rfl (fun ls hl => ?_)
  refine lv_aload hx hb dX2_digit_8 (lv_at hl 0 rfl) ?_
  refine lv_ifnull hx hb dX2_digit_10 ?_
  refine lv_iload_n hx hb dX2_digit_13 rfl (lv_at hl 4 rfl) ?_
  refine lv_iconst (v := iv (1)) hx hb dX2_digit_14 (by decide) ?_
  refine iw_icmp_lt (tgt := 36) hx hb dX2_digit_15 (by decide) ⟨by omega, by omega⟩ ⟨by omega, by omega⟩ (fun c0 => ?_) (fun c0 => ?_)
  ·
    exact absurd c0 (by omega)
  ·
    refine lv_iload_n hx hb dX2_digit_18 rfl (lv_at hl 4 rfl) ?_
    refine lv_ldc (v := iv (1000000)) hx hb hown (hts (.constant RX2 40 (iv (1000000))) (by decide +kernel)) dX2_digit_19 ?_
    refine iw_icmp_gt (tgt := 36) hx hb dX2_digit_21 (by decide) ⟨by omega, by omega⟩ ⟨by omega, by omega⟩ (fun c1 => ?_) (fun c1 => ?_)
    ·
      exact absurd c1 (by omega)
    ·
      refine lv_iload hx hb dX2_digit_24 (lv_at hl 5 rfl) ?_
      refine iw_if_lt (tgt := 36) hx hb dX2_digit_26 (by decide) ⟨by omega, by omega⟩ (fun c2 => ?_) (fun c2 => ?_)
      ·
        exact absurd c2 (by omega)
      ·
        refine lv_iload hx hb dX2_digit_29 (lv_at hl 5 rfl) ?_
        refine lv_ldc (v := iv (1000000)) hx hb hown (hts (.constant RX2 40 (iv (1000000))) (by decide +kernel)) dX2_digit_31 ?_
        refine iw_icmp_le (tgt := 38) hx hb dX2_digit_33 (by decide) ⟨by omega, by omega⟩ ⟨by omega, by omega⟩ (fun c3 => ?_) (fun c3 => ?_)
        ·
          refine lv_aload_n hx hb dX2_digit_38 rfl (lv_at hl 1 rfl) ?_
          refine va_get (D := (dC, dI)) (ci := 2) (v := .ref (q 11)) (C := RX2) (T := TX2) (N := 4) hx hb hts (by decide +kernel) hown hK hP 0 rfl rfl 2 (by decide) (hts (.fieldLink RX2 22 "ExactFractions" "left" "LExactFractions$Whole;") (by decide +kernel)) (fun _ h9 => h9) rfl dX2_digit_39 ?_
          refine lv_aload hx hb dX2_digit_42 (lv_at hl 0 rfl) ?_
          refine lv_iload_n hx hb dX2_digit_44 rfl (lv_at hl 4 rfl) ?_
          refine lv_iload hx hb dX2_digit_45 (lv_at hl 5 rfl) ?_
          refine ef_callV (As := [.ref (q 7), .int (iv ((mu : Int))), .int (iv ((mo : Int)))]) (rest := []) ⟨hx, hb, hml, hown, hts⟩ (c_multiple l dC dI ht (isW_c (X := L) (ws := cC cI q (A1) (U1) (b1) (e1) (A2) (U2) (b2) (e2) (L) (R)) (k0 := 11) (k1 := 12) (by decide) rfl rfl) hL (wd_lt _) wd_z (isW_c (X := A2) (ws := cC cI q (A1) (U1) (b1) (e1) (A2) (U2) (b2) (e2) (L) (R)) (k0 := 7) (k1 := 8) (by decide) rfl rfl) (by omega) (apt_c (k0 := 11) (k1 := 12) (j0 := 7) (j1 := 8) rfl) mu mo hmu hmo) (cwV 3 hts gX2_digit_X1_becomeMultiple rfl rfl rfl (by decide +kernel) ⟨Nat.le_of_ble_eq_true rfl, Nat.le_of_ble_eq_true rfl⟩) hK hNX hP hD hS 11 rfl rfl rfl rfl hl.1 rfl (Nat.le_of_ble_eq_true rfl) dX2_digit_47 ⟨Nat.zero_le _, Nat.zero_le _⟩ (fun o w1 H locs hq hP hD hS => ?_)
          obtain ⟨rfl, rfl⟩ := hq
          have hP : va_P (dC, dI) vwCl (cC cI q (A1) (U1) (b1) (e1) (A2) (U2) (b2) (e2) (A2 * mu + mo) (R)) H := hP
          have hD : va_D (ef_A (cC cI q (A1) (U1) (b1) (e1) (A2) (U2) (b2) (e2) (L) (R))) (cC cI q (A1) (U1) (b1) (e1) (A2) (U2) (b2) (e2) (A2 * mu + mo) (R)) := hD
          refine W.eq (g2 := F0 m 50 ls []) rfl ?_
          refine lv_aload_n hx hb dX2_digit_50 rfl (lv_at hl 1 rfl) ?_
          refine lv_aload hx hb dX2_digit_51 (lv_at hl 0 rfl) ?_
          refine ef_callV (As := [.ref (q 7)]) (rest := []) ⟨hx, hb, hml, hown, hts⟩ (c_keep10F l dC dI ht q hA1 hU1 hA2 hU2 (by omega) hR hb4) (cwV 1 hts gX2_digit_X2_keepLeftIn rfl rfl rfl (by decide +kernel) ⟨Nat.le_of_ble_eq_true rfl, Nat.le_of_ble_eq_true rfl⟩) hK hNX hP hD hS 0 rfl rfl rfl rfl hl.1 rfl (Nat.le_of_ble_eq_true rfl) dX2_digit_53 ⟨Nat.zero_le _, Nat.zero_le _⟩ (fun o w1 H locs hq hP hD hS => ?_)
          obtain ⟨rfl, rfl⟩ := hq
          have hP : va_P (dC, dI) vwCl (cC cI q (A1) (U1) (b1) (e1) (A2) (U2) (b2) (e2) (A2 * mu + mo) (R)) H := hP
          have hD : va_D (ef_A (cC cI q (A1) (U1) (b1) (e1) (A2) (U2) (b2) (e2) (L) (R))) (cC cI q (A1) (U1) (b1) (e1) (A2) (U2) (b2) (e2) (A2 * mu + mo) (R)) := hD
          refine W.eq (g2 := F0 m 56 ls [.int (iv (-2))]) rfl ?_
          exact ef_iret hx hb hr hlocks hP hD hS dX2_digit_56 (⟨_, _, rfl, rfl, by omega, hR⟩)
        ·
          exact absurd c3 (by omega)

set_option maxRecDepth 100000 in
set_option maxHeartbeats 4000000 in
/-- digit -/
theorem c_digit10K (l : Launch) (dC : Nat → ClassId) (dI : Nat → Nat → Nat) {cI : ClassId} {tys : List (ClassId × FieldType)} (ht : tys[0]? = some (cI, .int)) (q : Nat → Nat) {A1 U1 A2 U2 L R : Nat} {b1 e1 b2 e2 : Int} (hA1 : wl A1 ≤ 150) (hU1 : wl U1 ≤ 150) (hA2 : wl A2 ≤ 150) (hU2 : wl U2 ≤ 150) (hL : wl L ≤ 301) (hR : wl R ≤ 301) (mu mo : Nat) (hm1 : 1 ≤ mu) (hmu : mu ≤ 1000000) (hmo : mo ≤ 1000000) (hb4 : bl (A2 * mu + mo) ≤ 4800) : ef_C l yX2_digit wsX2_digit ({ frames := 4, cells := 0, slots := 0, locals := 88 } : Room) [.ref (q 0), .int (iv (1)), .int (iv (0)), .int (iv ((mu : Int))), .int (iv ((mo : Int)))] (dC, dI) vwCl tys (cC cI q (A1) (U1) (b1) (e1) (A2) (U2) (b2) (e2) (L) (R)) (fun o w1 => ∃ L2 R2 : Nat, o = some (.int (iv (bl (A2 * mu + mo) : Int))) ∧ w1 = cC cI q (A1) (U1) (b1) (e1) (A2 * mu + mo) (U2) (b2) (e2) (L2) (R2) ∧ wl L2 ≤ 301 ∧ wl R2 ≤ 301) := by
  refine ef_C.of (cc := cX2_digit) (maxL := 6) (ret := (some .int)) (by decide) rfl (Nat.le_of_ble_eq_true rfl) ?_
  intro p e s m below meth c ls hx hb hml hr hts hown hlocks hK hNX hP hD hS hl
  have hl : lv_has ls 6 [(0, .ref (q 0)), (1, .int (iv (1))), (2, .int (iv (0))), (3, .int (iv ((mu : Int)))), (4, .int (iv ((mo : Int))))] := hl
  have hown : s.vm.findClass RX2 = some m.cls := hown
  generalize hH : s.heap = H at hP ⊢
  have hS : va_S (ef_A (cC cI q (A1) (U1) (b1) (e1) (A2) (U2) (b2) (e2) (L) (R))) s.heap H [] := by rw [← hH]; exact hS
  generalize ([] : List Loc) = locs at hS ⊢
  have hL2 := wl_mul hA2 hmu hmo
  refine lv_aload_n hx hb dX2_digit_0 rfl (lv_at hl 0 rfl) ?_
  refine lv_iload_n hx hb dX2_digit_1 rfl (lv_at hl 1 rfl) ?_
  refine lv_iload_n hx hb dX2_digit_2 rfl (lv_at hl 2 rfl) ?_
  refine ef_callV (As := [.int (iv (1)), .int (iv (0))]) (rest := []) ⟨hx, hb, hml, hown, hts⟩ (c_partOf10 l dC dI ht q) (cwV 2 hts gX2_digit_X2_partOf rfl rfl rfl (by decide +kernel) ⟨Nat.le_of_ble_eq_true rfl, Nat.le_of_ble_eq_true rfl⟩) hK hNX hP hD hS 0 rfl rfl rfl rfl hl.1 rfl (Nat.le_of_ble_eq_true rfl) dX2_digit_3 ⟨Nat.zero_le _, Nat.zero_le _⟩ (fun o w1 H locs hq hP hD hS => ?_)
  obtain ⟨rfl, e9⟩ := hq
  rw [e9] at hP hD
  refine W.eq (g2 := F0 m 6 ls [.ref (q 7)]) rfl ?_
  refine lv_astore (lv' := [(5, .ref (q 7)), (0, .ref (q 0)), (1, .int (iv (1))), (2, .int (iv (0))), (3, .int (iv ((mu : Int)))), (4, .int (iv ((mo : Int))))]) hx hb dX2_digit_6 hl (by decide) rfl (fun ls hl => ?_)
  refine lv_aload hx hb dX2_digit_8 (lv_at hl 0 rfl) ?_
  refine lv_ifnull hx hb dX2_digit_10 ?_
  refine lv_iload_n hx hb dX2_digit_13 rfl (lv_at hl 4 rfl) ?_
  refine lv_iconst (v := iv (1)) hx hb dX2_digit_14 (by decide) ?_
  refine iw_icmp_lt (tgt := 36) hx hb dX2_digit_15 (by decide) ⟨by omega, by omega⟩ ⟨by omega, by omega⟩ (fun c0 => ?_) (fun c0 => ?_)
  ·
    exact absurd c0 (by omega)
  ·
    refine lv_iload_n hx hb dX2_digit_18 rfl (lv_at hl 4 rfl) ?_
    refine lv_ldc (v := iv (1000000)) hx hb hown (hts (.constant RX2 40 (iv (1000000))) (by decide +kernel)) dX2_digit_19 ?_
    refine iw_icmp_gt (tgt := 36) hx hb dX2_digit_21 (by decide) ⟨by omega, by omega⟩ ⟨by omega, by omega⟩ (fun c1 => ?_) (fun c1 => ?_)
    ·
      exact absurd c1 (by omega)
    ·
      refine lv_iload hx hb dX2_digit_24 (lv_at hl 5 rfl) ?_
      refine iw_if_lt (tgt := 36) hx hb dX2_digit_26 (by decide) ⟨by omega, by omega⟩ (fun c2 => ?_) (fun c2 => ?_)
      ·
        exact absurd c2 (by omega)
      ·
        refine lv_iload hx hb dX2_digit_29 (lv_at hl 5 rfl) ?_
        refine lv_ldc (v := iv (1000000)) hx hb hown (hts (.constant RX2 40 (iv (1000000))) (by decide +kernel)) dX2_digit_31 ?_
        refine iw_icmp_le (tgt := 38) hx hb dX2_digit_33 (by decide) ⟨by omega, by omega⟩ ⟨by omega, by omega⟩ (fun c3 => ?_) (fun c3 => ?_)
        ·
          refine lv_aload_n hx hb dX2_digit_38 rfl (lv_at hl 1 rfl) ?_
          refine va_get (D := (dC, dI)) (ci := 2) (v := .ref (q 11)) (C := RX2) (T := TX2) (N := 4) hx hb hts (by decide +kernel) hown hK hP 0 rfl rfl 2 (by decide) (hts (.fieldLink RX2 22 "ExactFractions" "left" "LExactFractions$Whole;") (by decide +kernel)) (fun _ h9 => h9) rfl dX2_digit_39 ?_
          refine lv_aload hx hb dX2_digit_42 (lv_at hl 0 rfl) ?_
          refine lv_iload_n hx hb dX2_digit_44 rfl (lv_at hl 4 rfl) ?_
          refine lv_iload hx hb dX2_digit_45 (lv_at hl 5 rfl) ?_
          refine ef_callV (As := [.ref (q 7), .int (iv ((mu : Int))), .int (iv ((mo : Int)))]) (rest := []) ⟨hx, hb, hml, hown, hts⟩ (c_multiple l dC dI ht (isW_c (X := L) (ws := cC cI q (A1) (U1) (b1) (e1) (A2) (U2) (b2) (e2) (L) (R)) (k0 := 11) (k1 := 12) (by decide) rfl rfl) hL (wd_lt _) wd_z (isW_c (X := A2) (ws := cC cI q (A1) (U1) (b1) (e1) (A2) (U2) (b2) (e2) (L) (R)) (k0 := 7) (k1 := 8) (by decide) rfl rfl) (by omega) (apt_c (k0 := 11) (k1 := 12) (j0 := 7) (j1 := 8) rfl) mu mo hmu hmo) (cwV 3 hts gX2_digit_X1_becomeMultiple rfl rfl rfl (by decide +kernel) ⟨Nat.le_of_ble_eq_true rfl, Nat.le_of_ble_eq_true rfl⟩) hK hNX hP hD hS 11 rfl rfl rfl rfl hl.1 rfl (Nat.le_of_ble_eq_true rfl) dX2_digit_47 ⟨Nat.zero_le _, Nat.zero_le _⟩ (fun o w1 H locs hq hP hD hS => ?_)
          obtain ⟨rfl, rfl⟩ := hq
          have hP : va_P (dC, dI) vwCl (cC cI q (A1) (U1) (b1) (e1) (A2) (U2) (b2) (e2) (A2 * mu + mo) (R)) H := hP
          have hD : va_D (ef_A (cC cI q (A1) (U1) (b1) (e1) (A2) (U2) (b2) (e2) (L) (R))) (cC cI q (A1) (U1) (b1) (e1) (A2) (U2) (b2) (e2) (A2 * mu + mo) (R)) := hD
          refine W.eq (g2 := F0 m 50 ls []) rfl ?_
          refine lv_aload_n hx hb dX2_digit_50 rfl (lv_at hl 1 rfl) ?_
          refine lv_aload hx hb dX2_digit_51 (lv_at hl 0 rfl) ?_
          refine ef_callV (As := [.ref (q 7)]) (rest := []) ⟨hx, hb, hml, hown, hts⟩ (c_keep10K l dC dI ht q hA1 hU1 hA2 hU2 (by omega) hR hb4) (cwV 1 hts gX2_digit_X2_keepLeftIn rfl rfl rfl (by decide +kernel) ⟨Nat.le_of_ble_eq_true rfl, Nat.le_of_ble_eq_true rfl⟩) hK hNX hP hD hS 0 rfl rfl rfl rfl hl.1 rfl (Nat.le_of_ble_eq_true rfl) dX2_digit_53 ⟨Nat.zero_le _, Nat.zero_le _⟩ (fun o w1 H locs hq hP hD hS => ?_)
          obtain ⟨rfl, rfl⟩ := hq
          have hP : va_P (dC, dI) vwCl (cC cI q (A1) (U1) (b1) (e1) (A2 * mu + mo) (U2) (b2) (e2) (A2 * mu + mo) (R)) H := hP
          have hD : va_D (ef_A (cC cI q (A1) (U1) (b1) (e1) (A2) (U2) (b2) (e2) (L) (R))) (cC cI q (A1) (U1) (b1) (e1) (A2 * mu + mo) (U2) (b2) (e2) (A2 * mu + mo) (R)) := hD
          refine W.eq (g2 := F0 m 56 ls [.int (iv ((bl (A2 * mu + mo) : Int)))]) rfl ?_
          exact ef_iret hx hb hr hlocks hP hD hS dX2_digit_56 (⟨_, _, rfl, rfl, by omega, hR⟩)
        ·
          exact absurd c3 (by omega)

set_option maxRecDepth 100000 in
set_option maxHeartbeats 4000000 in
/-- digit -/
theorem c_digit11F (l : Launch) (dC : Nat → ClassId) (dI : Nat → Nat → Nat) {cI : ClassId} {tys : List (ClassId × FieldType)} (ht : tys[0]? = some (cI, .int)) (q : Nat → Nat) {A1 U1 A2 U2 L R : Nat} {b1 e1 b2 e2 : Int} (hA1 : wl A1 ≤ 150) (hU1 : wl U1 ≤ 150) (hA2 : wl A2 ≤ 150) (hU2 : wl U2 ≤ 150) (hL : wl L ≤ 301) (hR : wl R ≤ 301) (mu mo : Nat) (hm1 : 1 ≤ mu) (hmu : mu ≤ 1000000) (hmo : mo ≤ 1000000) (hb4 : 4800 < bl (U2 * mu + mo)) : ef_C l yX2_digit wsX2_digit ({ frames := 4, cells := 0, slots := 0, locals := 88 } : Room) [.ref (q 0), .int (iv (1)), .int (iv (1)), .int (iv ((mu : Int))), .int (iv ((mo : Int)))] (dC, dI) vwCl tys (cC cI q (A1) (U1) (b1) (e1) (A2) (U2) (b2) (e2) (L) (R)) (fun o w1 => ∃ L2 R2 : Nat, o = some (.int (iv (-2))) ∧ w1 = cC cI q (A1) (U1) (b1) (e1) (A2) (U2) (b2) (e2) (L2) (R2) ∧ wl L2 ≤ 301 ∧ wl R2 ≤ 301) := by
  refine ef_C.of (cc := cX2_digit) (maxL := 6) (ret := (some .int)) (by decide) rfl (Nat.le_of_ble_eq_true rfl) ?_
  intro p e s m below meth c ls hx hb hml hr hts hown hlocks hK hNX hP hD hS hl
  have hl : lv_has ls 6 [(0, .ref (q 0)), (1, .int (iv (1))), (2, .int (iv (1))), (3, .int (iv ((mu : Int)))), (4, .int (iv ((mo : Int))))] := hl
  have hown : s.vm.findClass RX2 = some m.cls := hown
  generalize hH : s.heap = H at hP ⊢
  have hS : va_S (ef_A (cC cI q (A1) (U1) (b1) (e1) (A2) (U2) (b2) (e2) (L) (R))) s.heap H [] := by rw [← hH]; exact hS
  generalize ([] : List Loc) = locs at hS ⊢
  have hL2 := wl_mul hU2 hmu hmo
  refine lv_aload_n hx hb dX2_digit_0 rfl (lv_at hl 0 rfl) ?_
  refine lv_iload_n hx hb dX2_digit_1 rfl (lv_at hl 1 rfl) ?_
  refine lv_iload_n hx hb dX2_digit_2 rfl (lv_at hl 2 rfl) ?_
  refine ef_callV (As := [.int (iv (1)), .int (iv (1))]) (rest := []) ⟨hx, hb, hml, hown, hts⟩ (c_partOf11 l dC dI ht q) (cwV 2 hts gX2_digit_X2_partOf rfl rfl rfl (by decide +kernel) ⟨Nat.le_of_ble_eq_true rfl, Nat.le_of_ble_eq_true rfl⟩) hK hNX hP hD hS 0 rfl rfl rfl rfl hl.1 rfl (Nat.le_of_ble_eq_true rfl) dX2_digit_3 ⟨Nat.zero_le _, Nat.zero_le _⟩ (fun o w1 H locs hq hP hD hS => ?_)
  obtain ⟨rfl, e9⟩ := hq
  rw [e9] at hP hD
  refine W.eq (g2 := F0 m 6 ls [.ref (q 9)]) rfl ?_
  refine lv_astore (lv' := [(5, .ref (q 9)), (0, .ref (q 0)), (1, .int (iv (1))), (2, .int (iv (1))), (3, .int (iv ((mu : Int)))), (4, .int (iv ((mo : Int))))]) hx hb dX2_digit_6 hl (by decide) rfl (fun ls hl => ?_)
  refine lv_aload hx hb dX2_digit_8 (lv_at hl 0 rfl) ?_
  refine lv_ifnull hx hb dX2_digit_10 ?_
  refine lv_iload_n hx hb dX2_digit_13 rfl (lv_at hl 4 rfl) ?_
  refine lv_iconst (v := iv (1)) hx hb dX2_digit_14 (by decide) ?_
  refine iw_icmp_lt (tgt := 36) hx hb dX2_digit_15 (by decide) ⟨by omega, by omega⟩ ⟨by omega, by omega⟩ (fun c0 => ?_) (fun c0 => ?_)
  ·
    exact absurd c0 (by omega)
  ·
    refine lv_iload_n hx hb dX2_digit_18 rfl (lv_at hl 4 rfl) ?_
    refine lv_ldc (v := iv (1000000)) hx hb hown (hts (.constant RX2 40 (iv (1000000))) (by decide +kernel)) dX2_digit_19 ?_
    refine iw_icmp_gt (tgt := 36) hx hb dX2_digit_21 (by decide) ⟨by omega, by omega⟩ ⟨by omega, by omega⟩ (fun c1 => ?_) (fun c1 => ?_)
    ·
      exact absurd c1 (by omega)
    ·
      refine lv_iload hx hb dX2_digit_24 (lv_at hl 5 rfl) ?_
      refine iw_if_lt (tgt := 36) hx hb dX2_digit_26 (by decide) ⟨by omega, by omega⟩ (fun c2 => ?_) (fun c2 => ?_)
      ·
        exact absurd c2 (by omega)
      ·
        refine lv_iload hx hb dX2_digit_29 (lv_at hl 5 rfl) ?_
        refine lv_ldc (v := iv (1000000)) hx hb hown (hts (.constant RX2 40 (iv (1000000))) (by decide +kernel)) dX2_digit_31 ?_
        refine iw_icmp_le (tgt := 38) hx hb dX2_digit_33 (by decide) ⟨by omega, by omega⟩ ⟨by omega, by omega⟩ (fun c3 => ?_) (fun c3 => ?_)
        ·
          refine lv_aload_n hx hb dX2_digit_38 rfl (lv_at hl 1 rfl) ?_
          refine va_get (D := (dC, dI)) (ci := 2) (v := .ref (q 11)) (C := RX2) (T := TX2) (N := 4) hx hb hts (by decide +kernel) hown hK hP 0 rfl rfl 2 (by decide) (hts (.fieldLink RX2 22 "ExactFractions" "left" "LExactFractions$Whole;") (by decide +kernel)) (fun _ h9 => h9) rfl dX2_digit_39 ?_
          refine lv_aload hx hb dX2_digit_42 (lv_at hl 0 rfl) ?_
          refine lv_iload_n hx hb dX2_digit_44 rfl (lv_at hl 4 rfl) ?_
          refine lv_iload hx hb dX2_digit_45 (lv_at hl 5 rfl) ?_
          refine ef_callV (As := [.ref (q 9), .int (iv ((mu : Int))), .int (iv ((mo : Int)))]) (rest := []) ⟨hx, hb, hml, hown, hts⟩ (c_multiple l dC dI ht (isW_c (X := L) (ws := cC cI q (A1) (U1) (b1) (e1) (A2) (U2) (b2) (e2) (L) (R)) (k0 := 11) (k1 := 12) (by decide) rfl rfl) hL (wd_lt _) wd_z (isW_c (X := U2) (ws := cC cI q (A1) (U1) (b1) (e1) (A2) (U2) (b2) (e2) (L) (R)) (k0 := 9) (k1 := 10) (by decide) rfl rfl) (by omega) (apt_c (k0 := 11) (k1 := 12) (j0 := 9) (j1 := 10) rfl) mu mo hmu hmo) (cwV 3 hts gX2_digit_X1_becomeMultiple rfl rfl rfl (by decide +kernel) ⟨Nat.le_of_ble_eq_true rfl, Nat.le_of_ble_eq_true rfl⟩) hK hNX hP hD hS 11 rfl rfl rfl rfl hl.1 rfl (Nat.le_of_ble_eq_true rfl) dX2_digit_47 ⟨Nat.zero_le _, Nat.zero_le _⟩ (fun o w1 H locs hq hP hD hS => ?_)
          obtain ⟨rfl, rfl⟩ := hq
          have hP : va_P (dC, dI) vwCl (cC cI q (A1) (U1) (b1) (e1) (A2) (U2) (b2) (e2) (U2 * mu + mo) (R)) H := hP
          have hD : va_D (ef_A (cC cI q (A1) (U1) (b1) (e1) (A2) (U2) (b2) (e2) (L) (R))) (cC cI q (A1) (U1) (b1) (e1) (A2) (U2) (b2) (e2) (U2 * mu + mo) (R)) := hD
          refine W.eq (g2 := F0 m 50 ls []) rfl ?_
          refine lv_aload_n hx hb dX2_digit_50 rfl (lv_at hl 1 rfl) ?_
          refine lv_aload hx hb dX2_digit_51 (lv_at hl 0 rfl) ?_
          refine ef_callV (As := [.ref (q 9)]) (rest := []) ⟨hx, hb, hml, hown, hts⟩ (c_keep11F l dC dI ht q hA1 hU1 hA2 hU2 (by omega) hR hb4) (cwV 1 hts gX2_digit_X2_keepLeftIn rfl rfl rfl (by decide +kernel) ⟨Nat.le_of_ble_eq_true rfl, Nat.le_of_ble_eq_true rfl⟩) hK hNX hP hD hS 0 rfl rfl rfl rfl hl.1 rfl (Nat.le_of_ble_eq_true rfl) dX2_digit_53 ⟨Nat.zero_le _, Nat.zero_le _⟩ (fun o w1 H locs hq hP hD hS => ?_)
          obtain ⟨rfl, rfl⟩ := hq
          have hP : va_P (dC, dI) vwCl (cC cI q (A1) (U1) (b1) (e1) (A2) (U2) (b2) (e2) (U2 * mu + mo) (R)) H := hP
          have hD : va_D (ef_A (cC cI q (A1) (U1) (b1) (e1) (A2) (U2) (b2) (e2) (L) (R))) (cC cI q (A1) (U1) (b1) (e1) (A2) (U2) (b2) (e2) (U2 * mu + mo) (R)) := hD
          refine W.eq (g2 := F0 m 56 ls [.int (iv (-2))]) rfl ?_
          exact ef_iret hx hb hr hlocks hP hD hS dX2_digit_56 (⟨_, _, rfl, rfl, by omega, hR⟩)
        ·
          exact absurd c3 (by omega)

set_option maxRecDepth 100000 in
set_option maxHeartbeats 4000000 in
/-- digit -/
theorem c_digit11K (l : Launch) (dC : Nat → ClassId) (dI : Nat → Nat → Nat) {cI : ClassId} {tys : List (ClassId × FieldType)} (ht : tys[0]? = some (cI, .int)) (q : Nat → Nat) {A1 U1 A2 U2 L R : Nat} {b1 e1 b2 e2 : Int} (hA1 : wl A1 ≤ 150) (hU1 : wl U1 ≤ 150) (hA2 : wl A2 ≤ 150) (hU2 : wl U2 ≤ 150) (hL : wl L ≤ 301) (hR : wl R ≤ 301) (mu mo : Nat) (hm1 : 1 ≤ mu) (hmu : mu ≤ 1000000) (hmo : mo ≤ 1000000) (hb4 : bl (U2 * mu + mo) ≤ 4800) : ef_C l yX2_digit wsX2_digit ({ frames := 4, cells := 0, slots := 0, locals := 88 } : Room) [.ref (q 0), .int (iv (1)), .int (iv (1)), .int (iv ((mu : Int))), .int (iv ((mo : Int)))] (dC, dI) vwCl tys (cC cI q (A1) (U1) (b1) (e1) (A2) (U2) (b2) (e2) (L) (R)) (fun o w1 => ∃ L2 R2 : Nat, o = some (.int (iv (bl (U2 * mu + mo) : Int))) ∧ w1 = cC cI q (A1) (U1) (b1) (e1) (A2) (U2 * mu + mo) (b2) (e2) (L2) (R2) ∧ wl L2 ≤ 301 ∧ wl R2 ≤ 301) := by
  refine ef_C.of (cc := cX2_digit) (maxL := 6) (ret := (some .int)) (by decide) rfl (Nat.le_of_ble_eq_true rfl) ?_
  intro p e s m below meth c ls hx hb hml hr hts hown hlocks hK hNX hP hD hS hl
  have hl : lv_has ls 6 [(0, .ref (q 0)), (1, .int (iv (1))), (2, .int (iv (1))), (3, .int (iv ((mu : Int)))), (4, .int (iv ((mo : Int))))] := hl
  have hown : s.vm.findClass RX2 = some m.cls := hown
  generalize hH : s.heap = H at hP ⊢
  have hS : va_S (ef_A (cC cI q (A1) (U1) (b1) (e1) (A2) (U2) (b2) (e2) (L) (R))) s.heap H [] := by rw [← hH]; exact hS
  generalize ([] : List Loc) = locs at hS ⊢
  have hL2 := wl_mul hU2 hmu hmo
  refine lv_aload_n hx hb dX2_digit_0 rfl (lv_at hl 0 rfl) ?_
  refine lv_iload_n hx hb dX2_digit_1 rfl (lv_at hl 1 rfl) ?_
  refine lv_iload_n hx hb dX2_digit_2 rfl (lv_at hl 2 rfl) ?_
  refine ef_callV (As := [.int (iv (1)), .int (iv (1))]) (rest := []) ⟨hx, hb, hml, hown, hts⟩ (c_partOf11 l dC dI ht q) (cwV 2 hts gX2_digit_X2_partOf rfl rfl rfl (by decide +kernel) ⟨Nat.le_of_ble_eq_true rfl, Nat.le_of_ble_eq_true rfl⟩) hK hNX hP hD hS 0 rfl rfl rfl rfl hl.1 rfl (Nat.le_of_ble_eq_true rfl) dX2_digit_3 ⟨Nat.zero_le _, Nat.zero_le _⟩ (fun o w1 H locs hq hP hD hS => ?_)
  obtain ⟨rfl, e9⟩ := hq
  rw [e9] at hP hD
  refine W.eq (g2 := F0 m 6 ls [.ref (q 9)]) rfl ?_
  refine lv_astore (lv' := [(5, .ref (q 9)), (0, .ref (q 0)), (1, .int (iv (1))), (2, .int (iv (1))), (3, .int (iv ((mu : Int)))), (4, .int (iv ((mo : Int))))]) hx hb dX2_digit_6 hl (by decide) rfl (fun ls hl => ?_)
  refine lv_aload hx hb dX2_digit_8 (lv_at hl 0 rfl) ?_
  refine lv_ifnull hx hb dX2_digit_10 ?_
  refine lv_iload_n hx hb dX2_digit_13 rfl (lv_at hl 4 rfl) ?_
  refine lv_iconst (v := iv (1)) hx hb dX2_digit_14 (by decide) ?_
  refine iw_icmp_lt (tgt := 36) hx hb dX2_digit_15 (by decide) ⟨by omega, by omega⟩ ⟨by omega, by omega⟩ (fun c0 => ?_) (fun c0 => ?_)
  ·
    exact absurd c0 (by omega)
  ·
    refine lv_iload_n hx hb dX2_digit_18 rfl (lv_at hl 4 rfl) ?_
    refine lv_ldc (v := iv (1000000)) hx hb hown (hts (.constant RX2 40 (iv (1000000))) (by decide +kernel)) dX2_digit_19 ?_
    refine iw_icmp_gt (tgt := 36) hx hb dX2_digit_21 (by decide) ⟨by omega, by omega⟩ ⟨by omega, by omega⟩ (fun c1 => ?_) (fun c1 => ?_)
    ·
      exact absurd c1 (by omega)
    ·
      refine lv_iload hx hb dX2_digit_24 (lv_at hl 5 rfl) ?_
      refine iw_if_lt (tgt := 36) hx hb dX2_digit_26 (by decide) ⟨by omega, by omega⟩ (fun c2 => ?_) (fun c2 => ?_)
      ·
        exact absurd c2 (by omega)
      ·
        refine lv_iload hx hb dX2_digit_29 (lv_at hl 5 rfl) ?_
        refine lv_ldc (v := iv (1000000)) hx hb hown (hts (.constant RX2 40 (iv (1000000))) (by decide +kernel)) dX2_digit_31 ?_
        refine iw_icmp_le (tgt := 38) hx hb dX2_digit_33 (by decide) ⟨by omega, by omega⟩ ⟨by omega, by omega⟩ (fun c3 => ?_) (fun c3 => ?_)
        ·
          refine lv_aload_n hx hb dX2_digit_38 rfl (lv_at hl 1 rfl) ?_
          refine va_get (D := (dC, dI)) (ci := 2) (v := .ref (q 11)) (C := RX2) (T := TX2) (N := 4) hx hb hts (by decide +kernel) hown hK hP 0 rfl rfl 2 (by decide) (hts (.fieldLink RX2 22 "ExactFractions" "left" "LExactFractions$Whole;") (by decide +kernel)) (fun _ h9 => h9) rfl dX2_digit_39 ?_
          refine lv_aload hx hb dX2_digit_42 (lv_at hl 0 rfl) ?_
          refine lv_iload_n hx hb dX2_digit_44 rfl (lv_at hl 4 rfl) ?_
          refine lv_iload hx hb dX2_digit_45 (lv_at hl 5 rfl) ?_
          refine ef_callV (As := [.ref (q 9), .int (iv ((mu : Int))), .int (iv ((mo : Int)))]) (rest := []) ⟨hx, hb, hml, hown, hts⟩ (c_multiple l dC dI ht (isW_c (X := L) (ws := cC cI q (A1) (U1) (b1) (e1) (A2) (U2) (b2) (e2) (L) (R)) (k0 := 11) (k1 := 12) (by decide) rfl rfl) hL (wd_lt _) wd_z (isW_c (X := U2) (ws := cC cI q (A1) (U1) (b1) (e1) (A2) (U2) (b2) (e2) (L) (R)) (k0 := 9) (k1 := 10) (by decide) rfl rfl) (by omega) (apt_c (k0 := 11) (k1 := 12) (j0 := 9) (j1 := 10) rfl) mu mo hmu hmo) (cwV 3 hts gX2_digit_X1_becomeMultiple rfl rfl rfl (by decide +kernel) ⟨Nat.le_of_ble_eq_true rfl, Nat.le_of_ble_eq_true rfl⟩) hK hNX hP hD hS 11 rfl rfl rfl rfl hl.1 rfl (Nat.le_of_ble_eq_true rfl) dX2_digit_47 ⟨Nat.zero_le _, Nat.zero_le _⟩ (fun o w1 H locs hq hP hD hS => ?_)
          obtain ⟨rfl, rfl⟩ := hq
          have hP : va_P (dC, dI) vwCl (cC cI q (A1) (U1) (b1) (e1) (A2) (U2) (b2) (e2) (U2 * mu + mo) (R)) H := hP
          have hD : va_D (ef_A (cC cI q (A1) (U1) (b1) (e1) (A2) (U2) (b2) (e2) (L) (R))) (cC cI q (A1) (U1) (b1) (e1) (A2) (U2) (b2) (e2) (U2 * mu + mo) (R)) := hD
          refine W.eq (g2 := F0 m 50 ls []) rfl ?_
          refine lv_aload_n hx hb dX2_digit_50 rfl (lv_at hl 1 rfl) ?_
          refine lv_aload hx hb dX2_digit_51 (lv_at hl 0 rfl) ?_
          refine ef_callV (As := [.ref (q 9)]) (rest := []) ⟨hx, hb, hml, hown, hts⟩ (c_keep11K l dC dI ht q hA1 hU1 hA2 hU2 (by omega) hR hb4) (cwV 1 hts gX2_digit_X2_keepLeftIn rfl rfl rfl (by decide +kernel) ⟨Nat.le_of_ble_eq_true rfl, Nat.le_of_ble_eq_true rfl⟩) hK hNX hP hD hS 0 rfl rfl rfl rfl hl.1 rfl (Nat.le_of_ble_eq_true rfl) dX2_digit_53 ⟨Nat.zero_le _, Nat.zero_le _⟩ (fun o w1 H locs hq hP hD hS => ?_)
          obtain ⟨rfl, rfl⟩ := hq
          have hP : va_P (dC, dI) vwCl (cC cI q (A1) (U1) (b1) (e1) (A2) (U2 * mu + mo) (b2) (e2) (U2 * mu + mo) (R)) H := hP
          have hD : va_D (ef_A (cC cI q (A1) (U1) (b1) (e1) (A2) (U2) (b2) (e2) (L) (R))) (cC cI q (A1) (U1) (b1) (e1) (A2) (U2 * mu + mo) (b2) (e2) (U2 * mu + mo) (R)) := hD
          refine W.eq (g2 := F0 m 56 ls [.int (iv ((bl (U2 * mu + mo) : Int)))]) rfl ?_
          exact ef_iret hx hb hr hlocks hP hD hS dX2_digit_56 (⟨_, _, rfl, rfl, by omega, hR⟩)
        ·
          exact absurd c3 (by omega)

set_option maxRecDepth 100000 in
set_option maxHeartbeats 4000000 in
/-- digit refused -/
theorem c_digit00B (l : Launch) (dC : Nat → ClassId) (dI : Nat → Nat → Nat) {cI : ClassId} {tys : List (ClassId × FieldType)} (ht : tys[0]? = some (cI, .int)) (q : Nat → Nat) {A1 U1 A2 U2 L R : Nat} {b1 e1 b2 e2 : Int} (hA1 : wl A1 ≤ 150) (hU1 : wl U1 ≤ 150) (hA2 : wl A2 ≤ 150) (hU2 : wl U2 ≤ 150) (hL : wl L ≤ 301) (hR : wl R ≤ 301) (mu mo : Int) (hm : ir mu) (ho : ir mo) (hbad : mu < 1 ∨ 1000000 < mu ∨ mo < 0 ∨ 1000000 < mo) : ef_C l yX2_digit wsX2_digit ({ frames := 4, cells := 0, slots := 0, locals := 88 } : Room) [.ref (q 0), .int (iv (0)), .int (iv (0)), .int (iv (mu)), .int (iv (mo))] (dC, dI) vwCl tys (cC cI q (A1) (U1) (b1) (e1) (A2) (U2) (b2) (e2) (L) (R)) (fun o w1 => ∃ L2 R2 : Nat, o = some (.int (iv (-1))) ∧ w1 = cC cI q (A1) (U1) (b1) (e1) (A2) (U2) (b2) (e2) (L2) (R2) ∧ wl L2 ≤ 301 ∧ wl R2 ≤ 301) := by
  refine ef_C.of (cc := cX2_digit) (maxL := 6) (ret := (some .int)) (by decide) rfl (Nat.le_of_ble_eq_true rfl) ?_
  intro p e s m below meth c ls hx hb hml hr hts hown hlocks hK hNX hP hD hS hl
  have hl : lv_has ls 6 [(0, .ref (q 0)), (1, .int (iv (0))), (2, .int (iv (0))), (3, .int (iv (mu))), (4, .int (iv (mo)))] := hl
  have hown : s.vm.findClass RX2 = some m.cls := hown
  generalize hH : s.heap = H at hP ⊢
  have hS : va_S (ef_A (cC cI q (A1) (U1) (b1) (e1) (A2) (U2) (b2) (e2) (L) (R))) s.heap H [] := by rw [← hH]; exact hS
  generalize ([] : List Loc) = locs at hS ⊢
  refine lv_aload_n hx hb dX2_digit_0 rfl (lv_at hl 0 rfl) ?_
  refine lv_iload_n hx hb dX2_digit_1 rfl (lv_at hl 1 rfl) ?_
  refine lv_iload_n hx hb dX2_digit_2 rfl (lv_at hl 2 rfl) ?_
  refine ef_callV (As := [.int (iv (0)), .int (iv (0))]) (rest := []) ⟨hx, hb, hml, hown, hts⟩ (c_partOf00 l dC dI ht q) (cwV 2 hts gX2_digit_X2_partOf rfl rfl rfl (by decide +kernel) ⟨Nat.le_of_ble_eq_true rfl, Nat.le_of_ble_eq_true rfl⟩) hK hNX hP hD hS 0 rfl rfl rfl rfl hl.1 rfl (Nat.le_of_ble_eq_true rfl) dX2_digit_3 ⟨Nat.zero_le _, Nat.zero_le _⟩ (fun o w1 H locs hq hP hD hS => ?_)
  obtain ⟨rfl, e9⟩ := hq
  rw [e9] at hP hD
  refine W.eq (g2 := F0 m 6 ls [.ref (q 3)]) rfl ?_
  refine lv_astore (lv' := [(5, .ref (q 3)), (0, .ref (q 0)), (1, .int (iv (0))), (2, .int (iv (0))), (3, .int (iv (mu))), (4, .int (iv (mo)))]) hx hb dX2_digit_6 hl (by decide) rfl (fun ls hl => ?_)
  refine lv_aload hx hb dX2_digit_8 (lv_at hl 0 rfl) ?_
  refine lv_ifnull hx hb dX2_digit_10 ?_
  refine lv_iload_n hx hb dX2_digit_13 rfl (lv_at hl 4 rfl) ?_
  refine lv_iconst (v := iv (1)) hx hb dX2_digit_14 (by decide) ?_
  refine iw_icmp_lt (tgt := 36) hx hb dX2_digit_15 (by decide) (hm) ⟨by omega, by omega⟩ (fun c0 => ?_) (fun c0 => ?_)
  ·
    refine lv_iconst (v := iv (-1)) hx hb dX2_digit_36 (by decide) ?_
    exact ef_iret hx hb hr hlocks hP hD hS dX2_digit_37 (⟨_, _, rfl, rfl, hL, hR⟩)
  ·
    refine lv_iload_n hx hb dX2_digit_18 rfl (lv_at hl 4 rfl) ?_
    refine lv_ldc (v := iv (1000000)) hx hb hown (hts (.constant RX2 40 (iv (1000000))) (by decide +kernel)) dX2_digit_19 ?_
    refine iw_icmp_gt (tgt := 36) hx hb dX2_digit_21 (by decide) (hm) ⟨by omega, by omega⟩ (fun c1 => ?_) (fun c1 => ?_)
    ·
      refine lv_iconst (v := iv (-1)) hx hb dX2_digit_36 (by decide) ?_
      exact ef_iret hx hb hr hlocks hP hD hS dX2_digit_37 (⟨_, _, rfl, rfl, hL, hR⟩)
    ·
      refine lv_iload hx hb dX2_digit_24 (lv_at hl 5 rfl) ?_
      refine iw_if_lt (tgt := 36) hx hb dX2_digit_26 (by decide) (ho) (fun c2 => ?_) (fun c2 => ?_)
      ·
        refine lv_iconst (v := iv (-1)) hx hb dX2_digit_36 (by decide) ?_
        exact ef_iret hx hb hr hlocks hP hD hS dX2_digit_37 (⟨_, _, rfl, rfl, hL, hR⟩)
      ·
        refine lv_iload hx hb dX2_digit_29 (lv_at hl 5 rfl) ?_
        refine lv_ldc (v := iv (1000000)) hx hb hown (hts (.constant RX2 40 (iv (1000000))) (by decide +kernel)) dX2_digit_31 ?_
        refine iw_icmp_le (tgt := 38) hx hb dX2_digit_33 (by decide) (ho) ⟨by omega, by omega⟩ (fun c3 => ?_) (fun c3 => ?_)
        ·
          exact absurd hbad (by omega)
        ·
          refine lv_iconst (v := iv (-1)) hx hb dX2_digit_36 (by decide) ?_
          exact ef_iret hx hb hr hlocks hP hD hS dX2_digit_37 (⟨_, _, rfl, rfl, hL, hR⟩)

set_option maxRecDepth 100000 in
set_option maxHeartbeats 4000000 in
/-- digit refused -/
theorem c_digit01B (l : Launch) (dC : Nat → ClassId) (dI : Nat → Nat → Nat) {cI : ClassId} {tys : List (ClassId × FieldType)} (ht : tys[0]? = some (cI, .int)) (q : Nat → Nat) {A1 U1 A2 U2 L R : Nat} {b1 e1 b2 e2 : Int} (hA1 : wl A1 ≤ 150) (hU1 : wl U1 ≤ 150) (hA2 : wl A2 ≤ 150) (hU2 : wl U2 ≤ 150) (hL : wl L ≤ 301) (hR : wl R ≤ 301) (mu mo : Int) (hm : ir mu) (ho : ir mo) (hbad : mu < 1 ∨ 1000000 < mu ∨ mo < 0 ∨ 1000000 < mo) : ef_C l yX2_digit wsX2_digit ({ frames := 4, cells := 0, slots := 0, locals := 88 } : Room) [.ref (q 0), .int (iv (0)), .int (iv (1)), .int (iv (mu)), .int (iv (mo))] (dC, dI) vwCl tys (cC cI q (A1) (U1) (b1) (e1) (A2) (U2) (b2) (e2) (L) (R)) (fun o w1 => ∃ L2 R2 : Nat, o = some (.int (iv (-1))) ∧ w1 = cC cI q (A1) (U1) (b1) (e1) (A2) (U2) (b2) (e2) (L2) (R2) ∧ wl L2 ≤ 301 ∧ wl R2 ≤ 301) := by
  refine ef_C.of (cc := cX2_digit) (maxL := 6) (ret := (some .int)) (by decide) rfl (Nat.le_of_ble_eq_true rfl) ?_
  intro p e s m below meth c ls hx hb hml hr hts hown hlocks hK hNX hP hD hS hl
  have hl : lv_has ls 6 [(0, .ref (q 0)), (1, .int (iv (0))), (2, .int (iv (1))), (3, .int (iv (mu))), (4, .int (iv (mo)))] := hl
  have hown : s.vm.findClass RX2 = some m.cls := hown
  generalize hH : s.heap = H at hP ⊢
  have hS : va_S (ef_A (cC cI q (A1) (U1) (b1) (e1) (A2) (U2) (b2) (e2) (L) (R))) s.heap H [] := by rw [← hH]; exact hS
  generalize ([] : List Loc) = locs at hS ⊢
  refine lv_aload_n hx hb dX2_digit_0 rfl (lv_at hl 0 rfl) ?_
  refine lv_iload_n hx hb dX2_digit_1 rfl (lv_at hl 1 rfl) ?_
  refine lv_iload_n hx hb dX2_digit_2 rfl (lv_at hl 2 rfl) ?_
  refine ef_callV (As := [.int (iv (0)), .int (iv (1))]) (rest := []) ⟨hx, hb, hml, hown, hts⟩ (c_partOf01 l dC dI ht q) (cwV 2 hts gX2_digit_X2_partOf rfl rfl rfl (by decide +kernel) ⟨Nat.le_of_ble_eq_true rfl, Nat.le_of_ble_eq_true rfl⟩) hK hNX hP hD hS 0 rfl rfl rfl rfl hl.1 rfl (Nat.le_of_ble_eq_true rfl) dX2_digit_3 ⟨Nat.zero_le _, Nat.zero_le _⟩ (fun o w1 H locs hq hP hD hS => ?_)
  obtain ⟨rfl, e9⟩ := hq
  rw [e9] at hP hD
  refine W.eq (g2 := F0 m 6 ls [.ref (q 5)]) rfl ?_
  refine lv_astore (lv' := [(5, .ref (q 5)), (0, .ref (q 0)), (1, .int (iv (0))), (2, .int (iv (1))), (3, .int (iv (mu))), (4, .int (iv (mo)))]) hx hb dX2_digit_6 hl (by decide) rfl (fun ls hl => ?_)
  refine lv_aload hx hb dX2_digit_8 (lv_at hl 0 rfl) ?_
  refine lv_ifnull hx hb dX2_digit_10 ?_
  refine lv_iload_n hx hb dX2_digit_13 rfl (lv_at hl 4 rfl) ?_
  refine lv_iconst (v := iv (1)) hx hb dX2_digit_14 (by decide) ?_
  refine iw_icmp_lt (tgt := 36) hx hb dX2_digit_15 (by decide) (hm) ⟨by omega, by omega⟩ (fun c0 => ?_) (fun c0 => ?_)
  ·
    refine lv_iconst (v := iv (-1)) hx hb dX2_digit_36 (by decide) ?_
    exact ef_iret hx hb hr hlocks hP hD hS dX2_digit_37 (⟨_, _, rfl, rfl, hL, hR⟩)
  ·
    refine lv_iload_n hx hb dX2_digit_18 rfl (lv_at hl 4 rfl) ?_
    refine lv_ldc (v := iv (1000000)) hx hb hown (hts (.constant RX2 40 (iv (1000000))) (by decide +kernel)) dX2_digit_19 ?_
    refine iw_icmp_gt (tgt := 36) hx hb dX2_digit_21 (by decide) (hm) ⟨by omega, by omega⟩ (fun c1 => ?_) (fun c1 => ?_)
    ·
      refine lv_iconst (v := iv (-1)) hx hb dX2_digit_36 (by decide) ?_
      exact ef_iret hx hb hr hlocks hP hD hS dX2_digit_37 (⟨_, _, rfl, rfl, hL, hR⟩)
    ·
      refine lv_iload hx hb dX2_digit_24 (lv_at hl 5 rfl) ?_
      refine iw_if_lt (tgt := 36) hx hb dX2_digit_26 (by decide) (ho) (fun c2 => ?_) (fun c2 => ?_)
      ·
        refine lv_iconst (v := iv (-1)) hx hb dX2_digit_36 (by decide) ?_
        exact ef_iret hx hb hr hlocks hP hD hS dX2_digit_37 (⟨_, _, rfl, rfl, hL, hR⟩)
      ·
        refine lv_iload hx hb dX2_digit_29 (lv_at hl 5 rfl) ?_
        refine lv_ldc (v := iv (1000000)) hx hb hown (hts (.constant RX2 40 (iv (1000000))) (by decide +kernel)) dX2_digit_31 ?_
        refine iw_icmp_le (tgt := 38) hx hb dX2_digit_33 (by decide) (ho) ⟨by omega, by omega⟩ (fun c3 => ?_) (fun c3 => ?_)
        ·
          exact absurd hbad (by omega)
        ·
          refine lv_iconst (v := iv (-1)) hx hb dX2_digit_36 (by decide) ?_
          exact ef_iret hx hb hr hlocks hP hD hS dX2_digit_37 (⟨_, _, rfl, rfl, hL, hR⟩)

set_option maxRecDepth 100000 in
set_option maxHeartbeats 4000000 in
/-- digit refused -/
theorem c_digit10B (l : Launch) (dC : Nat → ClassId) (dI : Nat → Nat → Nat) {cI : ClassId} {tys : List (ClassId × FieldType)} (ht : tys[0]? = some (cI, .int)) (q : Nat → Nat) {A1 U1 A2 U2 L R : Nat} {b1 e1 b2 e2 : Int} (hA1 : wl A1 ≤ 150) (hU1 : wl U1 ≤ 150) (hA2 : wl A2 ≤ 150) (hU2 : wl U2 ≤ 150) (hL : wl L ≤ 301) (hR : wl R ≤ 301) (mu mo : Int) (hm : ir mu) (ho : ir mo) (hbad : mu < 1 ∨ 1000000 < mu ∨ mo < 0 ∨ 1000000 < mo) : ef_C l yX2_digit wsX2_digit ({ frames := 4, cells := 0, slots := 0, locals := 88 } : Room) [.ref (q 0), .int (iv (1)), .int (iv (0)), .int (iv (mu)), .int (iv (mo))] (dC, dI) vwCl tys (cC cI q (A1) (U1) (b1) (e1) (A2) (U2) (b2) (e2) (L) (R)) (fun o w1 => ∃ L2 R2 : Nat, o = some (.int (iv (-1))) ∧ w1 = cC cI q (A1) (U1) (b1) (e1) (A2) (U2) (b2) (e2) (L2) (R2) ∧ wl L2 ≤ 301 ∧ wl R2 ≤ 301) := by
  refine ef_C.of (cc := cX2_digit) (maxL := 6) (ret := (some .int)) (by decide) rfl (Nat.le_of_ble_eq_true rfl) ?_
  intro p e s m below meth c ls hx hb hml hr hts hown hlocks hK hNX hP hD hS hl
  have hl : lv_has ls 6 [(0, .ref (q 0)), (1, .int (iv (1))), (2, .int (iv (0))), (3, .int (iv (mu))), (4, .int (iv (mo)))] := hl
  have hown : s.vm.findClass RX2 = some m.cls := hown
  generalize hH : s.heap = H at hP ⊢
  have hS : va_S (ef_A (cC cI q (A1) (U1) (b1) (e1) (A2) (U2) (b2) (e2) (L) (R))) s.heap H [] := by rw [← hH]; exact hS
  generalize ([] : List Loc) = locs at hS ⊢
  refine lv_aload_n hx hb dX2_digit_0 rfl (lv_at hl 0 rfl) ?_
  refine lv_iload_n hx hb dX2_digit_1 rfl (lv_at hl 1 rfl) ?_
  refine lv_iload_n hx hb dX2_digit_2 rfl (lv_at hl 2 rfl) ?_
  refine ef_callV (As := [.int (iv (1)), .int (iv (0))]) (rest := []) ⟨hx, hb, hml, hown, hts⟩ (c_partOf10 l dC dI ht q) (cwV 2 hts gX2_digit_X2_partOf rfl rfl rfl (by decide +kernel) ⟨Nat.le_of_ble_eq_true rfl, Nat.le_of_ble_eq_true rfl⟩) hK hNX hP hD hS 0 rfl rfl rfl rfl hl.1 rfl (Nat.le_of_ble_eq_true rfl) dX2_digit_3 ⟨Nat.zero_le _, Nat.zero_le _⟩ (fun o w1 H locs hq hP hD hS => ?_)
  obtain ⟨rfl, e9⟩ := hq
  rw [e9] at hP hD
  refine W.eq (g2 := F0 m 6 ls [.ref (q 7)]) rfl ?_
  refine lv_astore (lv' := [(5, .ref (q 7)), (0, .ref (q 0)), (1, .int (iv (1))), (2, .int (iv (0))), (3, .int (iv (mu))), (4, .int (iv (mo)))]) hx hb dX2_digit_6 hl (by decide) rfl (fun ls hl => ?_)
  refine lv_aload hx hb dX2_digit_8 (lv_at hl 0 rfl) ?_
  refine lv_ifnull hx hb dX2_digit_10 ?_
  refine lv_iload_n hx hb dX2_digit_13 rfl (lv_at hl 4 rfl) ?_
  refine lv_iconst (v := iv (1)) hx hb dX2_digit_14 (by decide) ?_
  refine iw_icmp_lt (tgt := 36) hx hb dX2_digit_15 (by decide) (hm) ⟨by omega, by omega⟩ (fun c0 => ?_) (fun c0 => ?_)
  ·
    refine lv_iconst (v := iv (-1)) hx hb dX2_digit_36 (by decide) ?_
    exact ef_iret hx hb hr hlocks hP hD hS dX2_digit_37 (⟨_, _, rfl, rfl, hL, hR⟩)
  ·
    refine lv_iload_n hx hb dX2_digit_18 rfl (lv_at hl 4 rfl) ?_
    refine lv_ldc (v := iv (1000000)) hx hb hown (hts (.constant RX2 40 (iv (1000000))) (by decide +kernel)) dX2_digit_19 ?_
    refine iw_icmp_gt (tgt := 36) hx hb dX2_digit_21 (by decide) (hm) ⟨by omega, by omega⟩ (fun c1 => ?_) (fun c1 => ?_)
    ·
      refine lv_iconst (v := iv (-1)) hx hb dX2_digit_36 (by decide) ?_
      exact ef_iret hx hb hr hlocks hP hD hS dX2_digit_37 (⟨_, _, rfl, rfl, hL, hR⟩)
    ·
      refine lv_iload hx hb dX2_digit_24 (lv_at hl 5 rfl) ?_
      refine iw_if_lt (tgt := 36) hx hb dX2_digit_26 (by decide) (ho) (fun c2 => ?_) (fun c2 => ?_)
      ·
        refine lv_iconst (v := iv (-1)) hx hb dX2_digit_36 (by decide) ?_
        exact ef_iret hx hb hr hlocks hP hD hS dX2_digit_37 (⟨_, _, rfl, rfl, hL, hR⟩)
      ·
        refine lv_iload hx hb dX2_digit_29 (lv_at hl 5 rfl) ?_
        refine lv_ldc (v := iv (1000000)) hx hb hown (hts (.constant RX2 40 (iv (1000000))) (by decide +kernel)) dX2_digit_31 ?_
        refine iw_icmp_le (tgt := 38) hx hb dX2_digit_33 (by decide) (ho) ⟨by omega, by omega⟩ (fun c3 => ?_) (fun c3 => ?_)
        ·
          exact absurd hbad (by omega)
        ·
          refine lv_iconst (v := iv (-1)) hx hb dX2_digit_36 (by decide) ?_
          exact ef_iret hx hb hr hlocks hP hD hS dX2_digit_37 (⟨_, _, rfl, rfl, hL, hR⟩)

set_option maxRecDepth 100000 in
set_option maxHeartbeats 4000000 in
/-- digit refused -/
theorem c_digit11B (l : Launch) (dC : Nat → ClassId) (dI : Nat → Nat → Nat) {cI : ClassId} {tys : List (ClassId × FieldType)} (ht : tys[0]? = some (cI, .int)) (q : Nat → Nat) {A1 U1 A2 U2 L R : Nat} {b1 e1 b2 e2 : Int} (hA1 : wl A1 ≤ 150) (hU1 : wl U1 ≤ 150) (hA2 : wl A2 ≤ 150) (hU2 : wl U2 ≤ 150) (hL : wl L ≤ 301) (hR : wl R ≤ 301) (mu mo : Int) (hm : ir mu) (ho : ir mo) (hbad : mu < 1 ∨ 1000000 < mu ∨ mo < 0 ∨ 1000000 < mo) : ef_C l yX2_digit wsX2_digit ({ frames := 4, cells := 0, slots := 0, locals := 88 } : Room) [.ref (q 0), .int (iv (1)), .int (iv (1)), .int (iv (mu)), .int (iv (mo))] (dC, dI) vwCl tys (cC cI q (A1) (U1) (b1) (e1) (A2) (U2) (b2) (e2) (L) (R)) (fun o w1 => ∃ L2 R2 : Nat, o = some (.int (iv (-1))) ∧ w1 = cC cI q (A1) (U1) (b1) (e1) (A2) (U2) (b2) (e2) (L2) (R2) ∧ wl L2 ≤ 301 ∧ wl R2 ≤ 301) := by
  refine ef_C.of (cc := cX2_digit) (maxL := 6) (ret := (some .int)) (by decide) rfl (Nat.le_of_ble_eq_true rfl) ?_
  intro p e s m below meth c ls hx hb hml hr hts hown hlocks hK hNX hP hD hS hl
  have hl : lv_has ls 6 [(0, .ref (q 0)), (1, .int (iv (1))), (2, .int (iv (1))), (3, .int (iv (mu))), (4, .int (iv (mo)))] := hl
  have hown : s.vm.findClass RX2 = some m.cls := hown
  generalize hH : s.heap = H at hP ⊢
  have hS : va_S (ef_A (cC cI q (A1) (U1) (b1) (e1) (A2) (U2) (b2) (e2) (L) (R))) s.heap H [] := by rw [← hH]; exact hS
  generalize ([] : List Loc) = locs at hS ⊢
  refine lv_aload_n hx hb dX2_digit_0 rfl (lv_at hl 0 rfl) ?_
  refine lv_iload_n hx hb dX2_digit_1 rfl (lv_at hl 1 rfl) ?_
  refine lv_iload_n hx hb dX2_digit_2 rfl (lv_at hl 2 rfl) ?_
  refine ef_callV (As := [.int (iv (1)), .int (iv (1))]) (rest := []) ⟨hx, hb, hml, hown, hts⟩ (c_partOf11 l dC dI ht q) (cwV 2 hts gX2_digit_X2_partOf rfl rfl rfl (by decide +kernel) ⟨Nat.le_of_ble_eq_true rfl, Nat.le_of_ble_eq_true rfl⟩) hK hNX hP hD hS 0 rfl rfl rfl rfl hl.1 rfl (Nat.le_of_ble_eq_true rfl) dX2_digit_3 ⟨Nat.zero_le _, Nat.zero_le _⟩ (fun o w1 H locs hq hP hD hS => ?_)
  obtain ⟨rfl, e9⟩ := hq
  rw [e9] at hP hD
  refine W.eq (g2 := F0 m 6 ls [.ref (q 9)]) rfl ?_
  refine lv_astore (lv' := [(5, .ref (q 9)), (0, .ref (q 0)), (1, .int (iv (1))), (2, .int (iv (1))), (3, .int (iv (mu))), (4, .int (iv (mo)))]) hx hb dX2_digit_6 hl (by decide) rfl (fun ls hl => ?_)
  refine lv_aload hx hb dX2_digit_8 (lv_at hl 0 rfl) ?_
  refine lv_ifnull hx hb dX2_digit_10 ?_
  refine lv_iload_n hx hb dX2_digit_13 rfl (lv_at hl 4 rfl) ?_
  refine lv_iconst (v := iv (1)) hx hb dX2_digit_14 (by decide) ?_
  refine iw_icmp_lt (tgt := 36) hx hb dX2_digit_15 (by decide) (hm) ⟨by omega, by omega⟩ (fun c0 => ?_) (fun c0 => ?_)
  ·
    refine lv_iconst (v := iv (-1)) hx hb dX2_digit_36 (by decide) ?_
    exact ef_iret hx hb hr hlocks hP hD hS dX2_digit_37 (⟨_, _, rfl, rfl, hL, hR⟩)
  ·
    refine lv_iload_n hx hb dX2_digit_18 rfl (lv_at hl 4 rfl) ?_
    refine lv_ldc (v := iv (1000000)) hx hb hown (hts (.constant RX2 40 (iv (1000000))) (by decide +kernel)) dX2_digit_19 ?_
    refine iw_icmp_gt (tgt := 36) hx hb dX2_digit_21 (by decide) (hm) ⟨by omega, by omega⟩ (fun c1 => ?_) (fun c1 => ?_)
    ·
      refine lv_iconst (v := iv (-1)) hx hb dX2_digit_36 (by decide) ?_
      exact ef_iret hx hb hr hlocks hP hD hS dX2_digit_37 (⟨_, _, rfl, rfl, hL, hR⟩)
    ·
      refine lv_iload hx hb dX2_digit_24 (lv_at hl 5 rfl) ?_
      refine iw_if_lt (tgt := 36) hx hb dX2_digit_26 (by decide) (ho) (fun c2 => ?_) (fun c2 => ?_)
      ·
        refine lv_iconst (v := iv (-1)) hx hb dX2_digit_36 (by decide) ?_
        exact ef_iret hx hb hr hlocks hP hD hS dX2_digit_37 (⟨_, _, rfl, rfl, hL, hR⟩)
      ·
        refine lv_iload hx hb dX2_digit_29 (lv_at hl 5 rfl) ?_
        refine lv_ldc (v := iv (1000000)) hx hb hown (hts (.constant RX2 40 (iv (1000000))) (by decide +kernel)) dX2_digit_31 ?_
        refine iw_icmp_le (tgt := 38) hx hb dX2_digit_33 (by decide) (ho) ⟨by omega, by omega⟩ (fun c3 => ?_) (fun c3 => ?_)
        ·
          exact absurd hbad (by omega)
        ·
          refine lv_iconst (v := iv (-1)) hx hb dX2_digit_36 (by decide) ?_
          exact ef_iret hx hb hr hlocks hP hD hS dX2_digit_37 (⟨_, _, rfl, rfl, hL, hR⟩)

set_option maxRecDepth 100000 in
set_option maxHeartbeats 4000000 in
/-- digit of no part -/
theorem c_digit0x (l : Launch) (dC : Nat → ClassId) (dI : Nat → Nat → Nat) {cI : ClassId} {tys : List (ClassId × FieldType)} (ht : tys[0]? = some (cI, .int)) (q : Nat → Nat) {A1 U1 A2 U2 L R : Nat} {b1 e1 b2 e2 : Int} (hA1 : wl A1 ≤ 150) (hU1 : wl U1 ≤ 150) (hA2 : wl A2 ≤ 150) (hU2 : wl U2 ≤ 150) (hL : wl L ≤ 301) (hR : wl R ≤ 301) (mu mo : Int) (z : Int) (hz : ir z) (hz0 : z ≠ 0) (hz1 : z ≠ 1) : ef_C l yX2_digit wsX2_digit ({ frames := 4, cells := 0, slots := 0, locals := 88 } : Room) [.ref (q 0), .int (iv (0)), .int (iv (z)), .int (iv (mu)), .int (iv (mo))] (dC, dI) vwCl tys (cC cI q (A1) (U1) (b1) (e1) (A2) (U2) (b2) (e2) (L) (R)) (fun o w1 => ∃ L2 R2 : Nat, o = some (.int (iv (-1))) ∧ w1 = cC cI q (A1) (U1) (b1) (e1) (A2) (U2) (b2) (e2) (L2) (R2) ∧ wl L2 ≤ 301 ∧ wl R2 ≤ 301) := by
  refine ef_C.of (cc := cX2_digit) (maxL := 6) (ret := (some .int)) (by decide) rfl (Nat.le_of_ble_eq_true rfl) ?_
  intro p e s m below meth c ls hx hb hml hr hts hown hlocks hK hNX hP hD hS hl
  have hl : lv_has ls 6 [(0, .ref (q 0)), (1, .int (iv (0))), (2, .int (iv (z))), (3, .int (iv (mu))), (4, .int (iv (mo)))] := hl
  have hown : s.vm.findClass RX2 = some m.cls := hown
  generalize hH : s.heap = H at hP ⊢
  have hS : va_S (ef_A (cC cI q (A1) (U1) (b1) (e1) (A2) (U2) (b2) (e2) (L) (R))) s.heap H [] := by rw [← hH]; exact hS
  generalize ([] : List Loc) = locs at hS ⊢
  refine lv_aload_n hx hb dX2_digit_0 rfl (lv_at hl 0 rfl) ?_
  refine lv_iload_n hx hb dX2_digit_1 rfl (lv_at hl 1 rfl) ?_
  refine lv_iload_n hx hb dX2_digit_2 rfl (lv_at hl 2 rfl) ?_
  refine ef_callV (As := [.int (iv (0)), .int (iv (z))]) (rest := []) ⟨hx, hb, hml, hown, hts⟩ (c_partOf0x l dC dI ht q z hz hz0 hz1) (cwV 2 hts gX2_digit_X2_partOf rfl rfl rfl (by decide +kernel) ⟨Nat.le_of_ble_eq_true rfl, Nat.le_of_ble_eq_true rfl⟩) hK hNX hP hD hS 0 rfl rfl rfl rfl hl.1 rfl (Nat.le_of_ble_eq_true rfl) dX2_digit_3 ⟨Nat.zero_le _, Nat.zero_le _⟩ (fun o w1 H locs hq hP hD hS => ?_)
  obtain ⟨rfl, e9⟩ := hq
  rw [e9] at hP hD
  refine W.eq (g2 := F0 m 6 ls [.null]) rfl ?_
  refine lv_astoreN (lv' := [(5, .null), (0, .ref (q 0)), (1, .int (iv (0))), (2, .int (iv (z))), (3, .int (iv (mu))), (4, .int (iv (mo)))]) hx hb dX2_digit_6 hl (by decide) rfl (fun ls hl => ?_)
  refine lv_aloadN hx hb dX2_digit_8 (lv_at hl 0 rfl) ?_
  refine lv_ifnullN (tgt := 36) hx hb dX2_digit_10 (by decide) ?_
  refine lv_iconst (v := iv (-1)) hx hb dX2_digit_36 (by decide) ?_
  exact ef_iret hx hb hr hlocks hP hD hS dX2_digit_37 (⟨_, _, rfl, rfl, hL, hR⟩)

set_option maxRecDepth 100000 in
set_option maxHeartbeats 4000000 in
/-- digit of no part -/
theorem c_digit1x (l : Launch) (dC : Nat → ClassId) (dI : Nat → Nat → Nat) {cI : ClassId} {tys : List (ClassId × FieldType)} (ht : tys[0]? = some (cI, .int)) (q : Nat → Nat) {A1 U1 A2 U2 L R : Nat} {b1 e1 b2 e2 : Int} (hA1 : wl A1 ≤ 150) (hU1 : wl U1 ≤ 150) (hA2 : wl A2 ≤ 150) (hU2 : wl U2 ≤ 150) (hL : wl L ≤ 301) (hR : wl R ≤ 301) (mu mo : Int) (z : Int) (hz : ir z) (hz0 : z ≠ 0) (hz1 : z ≠ 1) : ef_C l yX2_digit wsX2_digit ({ frames := 4, cells := 0, slots := 0, locals := 88 } : Room) [.ref (q 0), .int (iv (1)), .int (iv (z)), .int (iv (mu)), .int (iv (mo))] (dC, dI) vwCl tys (cC cI q (A1) (U1) (b1) (e1) (A2) (U2) (b2) (e2) (L) (R)) (fun o w1 => ∃ L2 R2 : Nat, o = some (.int (iv (-1))) ∧ w1 = cC cI q (A1) (U1) (b1) (e1) (A2) (U2) (b2) (e2) (L2) (R2) ∧ wl L2 ≤ 301 ∧ wl R2 ≤ 301) := by
  refine ef_C.of (cc := cX2_digit) (maxL := 6) (ret := (some .int)) (by decide) rfl (Nat.le_of_ble_eq_true rfl) ?_
  intro p e s m below meth c ls hx hb hml hr hts hown hlocks hK hNX hP hD hS hl
  have hl : lv_has ls 6 [(0, .ref (q 0)), (1, .int (iv (1))), (2, .int (iv (z))), (3, .int (iv (mu))), (4, .int (iv (mo)))] := hl
  have hown : s.vm.findClass RX2 = some m.cls := hown
  generalize hH : s.heap = H at hP ⊢
  have hS : va_S (ef_A (cC cI q (A1) (U1) (b1) (e1) (A2) (U2) (b2) (e2) (L) (R))) s.heap H [] := by rw [← hH]; exact hS
  generalize ([] : List Loc) = locs at hS ⊢
  refine lv_aload_n hx hb dX2_digit_0 rfl (lv_at hl 0 rfl) ?_
  refine lv_iload_n hx hb dX2_digit_1 rfl (lv_at hl 1 rfl) ?_
  refine lv_iload_n hx hb dX2_digit_2 rfl (lv_at hl 2 rfl) ?_
  refine ef_callV (As := [.int (iv (1)), .int (iv (z))]) (rest := []) ⟨hx, hb, hml, hown, hts⟩ (c_partOf1x l dC dI ht q z hz hz0 hz1) (cwV 2 hts gX2_digit_X2_partOf rfl rfl rfl (by decide +kernel) ⟨Nat.le_of_ble_eq_true rfl, Nat.le_of_ble_eq_true rfl⟩) hK hNX hP hD hS 0 rfl rfl rfl rfl hl.1 rfl (Nat.le_of_ble_eq_true rfl) dX2_digit_3 ⟨Nat.zero_le _, Nat.zero_le _⟩ (fun o w1 H locs hq hP hD hS => ?_)
  obtain ⟨rfl, e9⟩ := hq
  rw [e9] at hP hD
  refine W.eq (g2 := F0 m 6 ls [.null]) rfl ?_
  refine lv_astoreN (lv' := [(5, .null), (0, .ref (q 0)), (1, .int (iv (1))), (2, .int (iv (z))), (3, .int (iv (mu))), (4, .int (iv (mo)))]) hx hb dX2_digit_6 hl (by decide) rfl (fun ls hl => ?_)
  refine lv_aloadN hx hb dX2_digit_8 (lv_at hl 0 rfl) ?_
  refine lv_ifnullN (tgt := 36) hx hb dX2_digit_10 (by decide) ?_
  refine lv_iconst (v := iv (-1)) hx hb dX2_digit_36 (by decide) ?_
  exact ef_iret hx hb hr hlocks hP hD hS dX2_digit_37 (⟨_, _, rfl, rfl, hL, hR⟩)

set_option maxRecDepth 100000 in
set_option maxHeartbeats 4000000 in
/-- digit of no part -/
theorem c_digitxx (l : Launch) (dC : Nat → ClassId) (dI : Nat → Nat → Nat) {cI : ClassId} {tys : List (ClassId × FieldType)} (ht : tys[0]? = some (cI, .int)) (q : Nat → Nat) {A1 U1 A2 U2 L R : Nat} {b1 e1 b2 e2 : Int} (hA1 : wl A1 ≤ 150) (hU1 : wl U1 ≤ 150) (hA2 : wl A2 ≤ 150) (hU2 : wl U2 ≤ 150) (hL : wl L ≤ 301) (hR : wl R ≤ 301) (mu mo : Int) (z y : Int) (hz : ir z) (hz0 : z ≠ 0) (hz1 : z ≠ 1) : ef_C l yX2_digit wsX2_digit ({ frames := 4, cells := 0, slots := 0, locals := 88 } : Room) [.ref (q 0), .int (iv (z)), .int (iv (y)), .int (iv (mu)), .int (iv (mo))] (dC, dI) vwCl tys (cC cI q (A1) (U1) (b1) (e1) (A2) (U2) (b2) (e2) (L) (R)) (fun o w1 => ∃ L2 R2 : Nat, o = some (.int (iv (-1))) ∧ w1 = cC cI q (A1) (U1) (b1) (e1) (A2) (U2) (b2) (e2) (L2) (R2) ∧ wl L2 ≤ 301 ∧ wl R2 ≤ 301) := by
  refine ef_C.of (cc := cX2_digit) (maxL := 6) (ret := (some .int)) (by decide) rfl (Nat.le_of_ble_eq_true rfl) ?_
  intro p e s m below meth c ls hx hb hml hr hts hown hlocks hK hNX hP hD hS hl
  have hl : lv_has ls 6 [(0, .ref (q 0)), (1, .int (iv (z))), (2, .int (iv (y))), (3, .int (iv (mu))), (4, .int (iv (mo)))] := hl
  have hown : s.vm.findClass RX2 = some m.cls := hown
  generalize hH : s.heap = H at hP ⊢
  have hS : va_S (ef_A (cC cI q (A1) (U1) (b1) (e1) (A2) (U2) (b2) (e2) (L) (R))) s.heap H [] := by rw [← hH]; exact hS
  generalize ([] : List Loc) = locs at hS ⊢
  refine lv_aload_n hx hb dX2_digit_0 rfl (lv_at hl 0 rfl) ?_
  refine lv_iload_n hx hb dX2_digit_1 rfl (lv_at hl 1 rfl) ?_
  refine lv_iload_n hx hb dX2_digit_2 rfl (lv_at hl 2 rfl) ?_
  refine ef_callV (As := [.int (iv (z)), .int (iv (y))]) (rest := []) ⟨hx, hb, hml, hown, hts⟩ (c_partOfxx l dC dI ht q z y hz hz0 hz1) (cwV 2 hts gX2_digit_X2_partOf rfl rfl rfl (by decide +kernel) ⟨Nat.le_of_ble_eq_true rfl, Nat.le_of_ble_eq_true rfl⟩) hK hNX hP hD hS 0 rfl rfl rfl rfl hl.1 rfl (Nat.le_of_ble_eq_true rfl) dX2_digit_3 ⟨Nat.zero_le _, Nat.zero_le _⟩ (fun o w1 H locs hq hP hD hS => ?_)
  obtain ⟨rfl, e9⟩ := hq
  rw [e9] at hP hD
  refine W.eq (g2 := F0 m 6 ls [.null]) rfl ?_
  refine lv_astoreN (lv' := [(5, .null), (0, .ref (q 0)), (1, .int (iv (z))), (2, .int (iv (y))), (3, .int (iv (mu))), (4, .int (iv (mo)))]) hx hb dX2_digit_6 hl (by decide) rfl (fun ls hl => ?_)
  refine lv_aloadN hx hb dX2_digit_8 (lv_at hl 0 rfl) ?_
  refine lv_ifnullN (tgt := 36) hx hb dX2_digit_10 (by decide) ?_
  refine lv_iconst (v := iv (-1)) hx hb dX2_digit_36 (by decide) ?_
  exact ef_iret hx hb hr hlocks hP hD hS dX2_digit_37 (⟨_, _, rfl, rfl, hL, hR⟩)

set_option maxRecDepth 100000 in
set_option maxHeartbeats 4000000 in
/-- bits -/
theorem c_bits00 (l : Launch) (dC : Nat → ClassId) (dI : Nat → Nat → Nat) {cI : ClassId} {tys : List (ClassId × FieldType)} (ht : tys[0]? = some (cI, .int)) (q : Nat → Nat) {A1 U1 A2 U2 L R : Nat} {b1 e1 b2 e2 : Int} (hA1 : wl A1 ≤ 150) (hU1 : wl U1 ≤ 150) (hA2 : wl A2 ≤ 150) (hU2 : wl U2 ≤ 150) (hL : wl L ≤ 301) (hR : wl R ≤ 301) : ef_C l yX2_bits wsX2_bits ({ frames := 2, cells := 0, slots := 0, locals := 44 } : Room) [.ref (q 0), .int (iv (0)), .int (iv (0))] (dC, dI) vwCl tys (cC cI q (A1) (U1) (b1) (e1) (A2) (U2) (b2) (e2) (L) (R)) (fun o w1 => ∃ L2 R2 : Nat, o = some (.int (iv (bl A1 : Int))) ∧ w1 = cC cI q (A1) (U1) (b1) (e1) (A2) (U2) (b2) (e2) (L2) (R2) ∧ wl L2 ≤ 301 ∧ wl R2 ≤ 301) := by
  refine ef_C.of (cc := cX2_bits) (maxL := 4) (ret := (some .int)) (by decide) rfl (Nat.le_of_ble_eq_true rfl) ?_
  intro p e s m below meth c ls hx hb hml hr hts hown hlocks hK hNX hP hD hS hl
  have hl : lv_has ls 4 [(0, .ref (q 0)), (1, .int (iv (0))), (2, .int (iv (0)))] := hl
  have hown : s.vm.findClass RX2 = some m.cls := hown
  generalize hH : s.heap = H at hP ⊢
  have hS : va_S (ef_A (cC cI q (A1) (U1) (b1) (e1) (A2) (U2) (b2) (e2) (L) (R))) s.heap H [] := by rw [← hH]; exact hS
  generalize ([] : List Loc) = locs at hS ⊢
  refine lv_aload_n hx hb dX2_bits_0 rfl (lv_at hl 0 rfl) ?_
  refine lv_iload_n hx hb dX2_bits_1 rfl (lv_at hl 1 rfl) ?_
  refine lv_iload_n hx hb dX2_bits_2 rfl (lv_at hl 2 rfl) ?_
  refine ef_callV (As := [.int (iv (0)), .int (iv (0))]) (rest := []) ⟨hx, hb, hml, hown, hts⟩ (c_partOf00 l dC dI ht q) (cwV 2 hts gX2_bits_X2_partOf rfl rfl rfl (by decide +kernel) ⟨Nat.le_of_ble_eq_true rfl, Nat.le_of_ble_eq_true rfl⟩) hK hNX hP hD hS 0 rfl rfl rfl rfl hl.1 rfl (Nat.le_of_ble_eq_true rfl) dX2_bits_3 ⟨Nat.zero_le _, Nat.zero_le _⟩ (fun o w1 H locs hq hP hD hS => ?_)
  obtain ⟨rfl, e9⟩ := hq
  rw [e9] at hP hD
  refine W.eq (g2 := F0 m 6 ls [.ref (q 3)]) rfl ?_
  refine lv_astore_n (lv' := [(3, .ref (q 3)), (0, .ref (q 0)), (1, .int (iv (0))), (2, .int (iv (0)))]) hx hb dX2_bits_6 rfl hl (by decide) rfl (fun ls hl => ?_)
  refine lv_aload_n hx hb dX2_bits_7 rfl (lv_at hl 0 rfl) ?_
  refine lv_ifnonnull (tgt := 15) hx hb dX2_bits_8 (by decide) ?_
  refine lv_aload_n hx hb dX2_bits_15 rfl (lv_at hl 0 rfl) ?_
  refine ef_callV (As := []) (rest := []) ⟨hx, hb, hml, hown, hts⟩ (c_length l dC dI ht (isW_c (X := A1) (ws := cC cI q (A1) (U1) (b1) (e1) (A2) (U2) (b2) (e2) (L) (R)) (k0 := 3) (k1 := 4) (by decide) rfl rfl) (by omega)) (cwV 0 hts gX2_bits_X1_length rfl rfl rfl (by decide +kernel) ⟨Nat.le_of_ble_eq_true rfl, Nat.le_of_ble_eq_true rfl⟩) hK hNX hP hD hS 3 rfl rfl rfl rfl hl.1 rfl (Nat.le_of_ble_eq_true rfl) dX2_bits_16 ⟨Nat.zero_le _, Nat.zero_le _⟩ (fun o w1 H locs hq hP hD hS => ?_)
  obtain ⟨rfl, e9⟩ := hq
  rw [e9] at hP hD
  refine W.eq (g2 := F0 m 19 ls [.int (iv ((bl A1 : Int)))]) rfl ?_
  exact ef_iret hx hb hr hlocks hP hD hS dX2_bits_19 (⟨_, _, rfl, rfl, hL, hR⟩)

set_option maxRecDepth 100000 in
set_option maxHeartbeats 4000000 in
/-- bits -/
theorem c_bits01 (l : Launch) (dC : Nat → ClassId) (dI : Nat → Nat → Nat) {cI : ClassId} {tys : List (ClassId × FieldType)} (ht : tys[0]? = some (cI, .int)) (q : Nat → Nat) {A1 U1 A2 U2 L R : Nat} {b1 e1 b2 e2 : Int} (hA1 : wl A1 ≤ 150) (hU1 : wl U1 ≤ 150) (hA2 : wl A2 ≤ 150) (hU2 : wl U2 ≤ 150) (hL : wl L ≤ 301) (hR : wl R ≤ 301) : ef_C l yX2_bits wsX2_bits ({ frames := 2, cells := 0, slots := 0, locals := 44 } : Room) [.ref (q 0), .int (iv (0)), .int (iv (1))] (dC, dI) vwCl tys (cC cI q (A1) (U1) (b1) (e1) (A2) (U2) (b2) (e2) (L) (R)) (fun o w1 => ∃ L2 R2 : Nat, o = some (.int (iv (bl U1 : Int))) ∧ w1 = cC cI q (A1) (U1) (b1) (e1) (A2) (U2) (b2) (e2) (L2) (R2) ∧ wl L2 ≤ 301 ∧ wl R2 ≤ 301) := by
  refine ef_C.of (cc := cX2_bits) (maxL := 4) (ret := (some .int)) (by decide) rfl (Nat.le_of_ble_eq_true rfl) ?_
  intro p e s m below meth c ls hx hb hml hr hts hown hlocks hK hNX hP hD hS hl
  have hl : lv_has ls 4 [(0, .ref (q 0)), (1, .int (iv (0))), (2, .int (iv (1)))] := hl
  have hown : s.vm.findClass RX2 = some m.cls := hown
  generalize hH : s.heap = H at hP ⊢
  have hS : va_S (ef_A (cC cI q (A1) (U1) (b1) (e1) (A2) (U2) (b2) (e2) (L) (R))) s.heap H [] := by rw [← hH]; exact hS
  generalize ([] : List Loc) = locs at hS ⊢
  refine lv_aload_n hx hb dX2_bits_0 rfl (lv_at hl 0 rfl) ?_
  refine lv_iload_n hx hb dX2_bits_1 rfl (lv_at hl 1 rfl) ?_
  refine lv_iload_n hx hb dX2_bits_2 rfl (lv_at hl 2 rfl) ?_
  refine ef_callV (As := [.int (iv (0)), .int (iv (1))]) (rest := []) ⟨hx, hb, hml, hown, hts⟩ (c_partOf01 l dC dI ht q) (cwV 2 hts gX2_bits_X2_partOf rfl rfl rfl (by decide +kernel) ⟨Nat.le_of_ble_eq_true rfl, Nat.le_of_ble_eq_true rfl⟩) hK hNX hP hD hS 0 rfl rfl rfl rfl hl.1 rfl (Nat.le_of_ble_eq_true rfl) dX2_bits_3 ⟨Nat.zero_le _, Nat.zero_le _⟩ (fun o w1 H locs hq hP hD hS => ?_)
  obtain ⟨rfl, e9⟩ := hq
  rw [e9] at hP hD
  refine W.eq (g2 := F0 m 6 ls [.ref (q 5)]) rfl ?_
  refine lv_astore_n (lv' := [(3, .ref (q 5)), (0, .ref (q 0)), (1, .int (iv (0))), (2, .int (iv (1)))]) hx hb dX2_bits_6 rfl hl (by decide) rfl (fun ls hl => ?_)
  refine lv_aload_n hx hb dX2_bits_7 rfl (lv_at hl 0 rfl) ?_
  refine lv_ifnonnull (tgt := 15) hx hb dX2_bits_8 (by decide) ?_
  refine lv_aload_n hx hb dX2_bits_15 rfl (lv_at hl 0 rfl) ?_
  refine ef_callV (As := []) (rest := []) ⟨hx, hb, hml, hown, hts⟩ (c_length l dC dI ht (isW_c (X := U1) (ws := cC cI q (A1) (U1) (b1) (e1) (A2) (U2) (b2) (e2) (L) (R)) (k0 := 5) (k1 := 6) (by decide) rfl rfl) (by omega)) (cwV 0 hts gX2_bits_X1_length rfl rfl rfl (by decide +kernel) ⟨Nat.le_of_ble_eq_true rfl, Nat.le_of_ble_eq_true rfl⟩) hK hNX hP hD hS 5 rfl rfl rfl rfl hl.1 rfl (Nat.le_of_ble_eq_true rfl) dX2_bits_16 ⟨Nat.zero_le _, Nat.zero_le _⟩ (fun o w1 H locs hq hP hD hS => ?_)
  obtain ⟨rfl, e9⟩ := hq
  rw [e9] at hP hD
  refine W.eq (g2 := F0 m 19 ls [.int (iv ((bl U1 : Int)))]) rfl ?_
  exact ef_iret hx hb hr hlocks hP hD hS dX2_bits_19 (⟨_, _, rfl, rfl, hL, hR⟩)

set_option maxRecDepth 100000 in
set_option maxHeartbeats 4000000 in
/-- bits -/
theorem c_bits10 (l : Launch) (dC : Nat → ClassId) (dI : Nat → Nat → Nat) {cI : ClassId} {tys : List (ClassId × FieldType)} (ht : tys[0]? = some (cI, .int)) (q : Nat → Nat) {A1 U1 A2 U2 L R : Nat} {b1 e1 b2 e2 : Int} (hA1 : wl A1 ≤ 150) (hU1 : wl U1 ≤ 150) (hA2 : wl A2 ≤ 150) (hU2 : wl U2 ≤ 150) (hL : wl L ≤ 301) (hR : wl R ≤ 301) : ef_C l yX2_bits wsX2_bits ({ frames := 2, cells := 0, slots := 0, locals := 44 } : Room) [.ref (q 0), .int (iv (1)), .int (iv (0))] (dC, dI) vwCl tys (cC cI q (A1) (U1) (b1) (e1) (A2) (U2) (b2) (e2) (L) (R)) (fun o w1 => ∃ L2 R2 : Nat, o = some (.int (iv (bl A2 : Int))) ∧ w1 = cC cI q (A1) (U1) (b1) (e1) (A2) (U2) (b2) (e2) (L2) (R2) ∧ wl L2 ≤ 301 ∧ wl R2 ≤ 301) := by
  refine ef_C.of (cc := cX2_bits) (maxL := 4) (ret := (some .int)) (by decide) rfl (Nat.le_of_ble_eq_true rfl) ?_
  intro p e s m below meth c ls hx hb hml hr hts hown hlocks hK hNX hP hD hS hl
  have hl : lv_has ls 4 [(0, .ref (q 0)), (1, .int (iv (1))), (2, .int (iv (0)))] := hl
  have hown : s.vm.findClass RX2 = some m.cls := hown
  generalize hH : s.heap = H at hP ⊢
  have hS : va_S (ef_A (cC cI q (A1) (U1) (b1) (e1) (A2) (U2) (b2) (e2) (L) (R))) s.heap H [] := by rw [← hH]; exact hS
  generalize ([] : List Loc) = locs at hS ⊢
  refine lv_aload_n hx hb dX2_bits_0 rfl (lv_at hl 0 rfl) ?_
  refine lv_iload_n hx hb dX2_bits_1 rfl (lv_at hl 1 rfl) ?_
  refine lv_iload_n hx hb dX2_bits_2 rfl (lv_at hl 2 rfl) ?_
  refine ef_callV (As := [.int (iv (1)), .int (iv (0))]) (rest := []) ⟨hx, hb, hml, hown, hts⟩ (c_partOf10 l dC dI ht q) (cwV 2 hts gX2_bits_X2_partOf rfl rfl rfl (by decide +kernel) ⟨Nat.le_of_ble_eq_true rfl, Nat.le_of_ble_eq_true rfl⟩) hK hNX hP hD hS 0 rfl rfl rfl rfl hl.1 rfl (Nat.le_of_ble_eq_true rfl) dX2_bits_3 ⟨Nat.zero_le _, Nat.zero_le _⟩ (fun o w1 H locs hq hP hD hS => ?_)
  obtain ⟨rfl, e9⟩ := hq
  rw [e9] at hP hD
  refine W.eq (g2 := F0 m 6 ls [.ref (q 7)]) rfl ?_
  refine lv_astore_n (lv' := [(3, .ref (q 7)), (0, .ref (q 0)), (1, .int (iv (1))), (2, .int (iv (0)))]) hx hb dX2_bits_6 rfl hl (by decide) rfl (fun ls hl => ?_)
  refine lv_aload_n hx hb dX2_bits_7 rfl (lv_at hl 0 rfl) ?_
  refine lv_ifnonnull (tgt := 15) hx hb dX2_bits_8 (by decide) ?_
  refine lv_aload_n hx hb dX2_bits_15 rfl (lv_at hl 0 rfl) ?_
  refine ef_callV (As := []) (rest := []) ⟨hx, hb, hml, hown, hts⟩ (c_length l dC dI ht (isW_c (X := A2) (ws := cC cI q (A1) (U1) (b1) (e1) (A2) (U2) (b2) (e2) (L) (R)) (k0 := 7) (k1 := 8) (by decide) rfl rfl) (by omega)) (cwV 0 hts gX2_bits_X1_length rfl rfl rfl (by decide +kernel) ⟨Nat.le_of_ble_eq_true rfl, Nat.le_of_ble_eq_true rfl⟩) hK hNX hP hD hS 7 rfl rfl rfl rfl hl.1 rfl (Nat.le_of_ble_eq_true rfl) dX2_bits_16 ⟨Nat.zero_le _, Nat.zero_le _⟩ (fun o w1 H locs hq hP hD hS => ?_)
  obtain ⟨rfl, e9⟩ := hq
  rw [e9] at hP hD
  refine W.eq (g2 := F0 m 19 ls [.int (iv ((bl A2 : Int)))]) rfl ?_
  exact ef_iret hx hb hr hlocks hP hD hS dX2_bits_19 (⟨_, _, rfl, rfl, hL, hR⟩)

set_option maxRecDepth 100000 in
set_option maxHeartbeats 4000000 in
/-- bits -/
theorem c_bits11 (l : Launch) (dC : Nat → ClassId) (dI : Nat → Nat → Nat) {cI : ClassId} {tys : List (ClassId × FieldType)} (ht : tys[0]? = some (cI, .int)) (q : Nat → Nat) {A1 U1 A2 U2 L R : Nat} {b1 e1 b2 e2 : Int} (hA1 : wl A1 ≤ 150) (hU1 : wl U1 ≤ 150) (hA2 : wl A2 ≤ 150) (hU2 : wl U2 ≤ 150) (hL : wl L ≤ 301) (hR : wl R ≤ 301) : ef_C l yX2_bits wsX2_bits ({ frames := 2, cells := 0, slots := 0, locals := 44 } : Room) [.ref (q 0), .int (iv (1)), .int (iv (1))] (dC, dI) vwCl tys (cC cI q (A1) (U1) (b1) (e1) (A2) (U2) (b2) (e2) (L) (R)) (fun o w1 => ∃ L2 R2 : Nat, o = some (.int (iv (bl U2 : Int))) ∧ w1 = cC cI q (A1) (U1) (b1) (e1) (A2) (U2) (b2) (e2) (L2) (R2) ∧ wl L2 ≤ 301 ∧ wl R2 ≤ 301) := by
  refine ef_C.of (cc := cX2_bits) (maxL := 4) (ret := (some .int)) (by decide) rfl (Nat.le_of_ble_eq_true rfl) ?_
  intro p e s m below meth c ls hx hb hml hr hts hown hlocks hK hNX hP hD hS hl
  have hl : lv_has ls 4 [(0, .ref (q 0)), (1, .int (iv (1))), (2, .int (iv (1)))] := hl
  have hown : s.vm.findClass RX2 = some m.cls := hown
  generalize hH : s.heap = H at hP ⊢
  have hS : va_S (ef_A (cC cI q (A1) (U1) (b1) (e1) (A2) (U2) (b2) (e2) (L) (R))) s.heap H [] := by rw [← hH]; exact hS
  generalize ([] : List Loc) = locs at hS ⊢
  refine lv_aload_n hx hb dX2_bits_0 rfl (lv_at hl 0 rfl) ?_
  refine lv_iload_n hx hb dX2_bits_1 rfl (lv_at hl 1 rfl) ?_
  refine lv_iload_n hx hb dX2_bits_2 rfl (lv_at hl 2 rfl) ?_
  refine ef_callV (As := [.int (iv (1)), .int (iv (1))]) (rest := []) ⟨hx, hb, hml, hown, hts⟩ (c_partOf11 l dC dI ht q) (cwV 2 hts gX2_bits_X2_partOf rfl rfl rfl (by decide +kernel) ⟨Nat.le_of_ble_eq_true rfl, Nat.le_of_ble_eq_true rfl⟩) hK hNX hP hD hS 0 rfl rfl rfl rfl hl.1 rfl (Nat.le_of_ble_eq_true rfl) dX2_bits_3 ⟨Nat.zero_le _, Nat.zero_le _⟩ (fun o w1 H locs hq hP hD hS => ?_)
  obtain ⟨rfl, e9⟩ := hq
  rw [e9] at hP hD
  refine W.eq (g2 := F0 m 6 ls [.ref (q 9)]) rfl ?_
  refine lv_astore_n (lv' := [(3, .ref (q 9)), (0, .ref (q 0)), (1, .int (iv (1))), (2, .int (iv (1)))]) hx hb dX2_bits_6 rfl hl (by decide) rfl (fun ls hl => ?_)
  refine lv_aload_n hx hb dX2_bits_7 rfl (lv_at hl 0 rfl) ?_
  refine lv_ifnonnull (tgt := 15) hx hb dX2_bits_8 (by decide) ?_
  refine lv_aload_n hx hb dX2_bits_15 rfl (lv_at hl 0 rfl) ?_
  refine ef_callV (As := []) (rest := []) ⟨hx, hb, hml, hown, hts⟩ (c_length l dC dI ht (isW_c (X := U2) (ws := cC cI q (A1) (U1) (b1) (e1) (A2) (U2) (b2) (e2) (L) (R)) (k0 := 9) (k1 := 10) (by decide) rfl rfl) (by omega)) (cwV 0 hts gX2_bits_X1_length rfl rfl rfl (by decide +kernel) ⟨Nat.le_of_ble_eq_true rfl, Nat.le_of_ble_eq_true rfl⟩) hK hNX hP hD hS 9 rfl rfl rfl rfl hl.1 rfl (Nat.le_of_ble_eq_true rfl) dX2_bits_16 ⟨Nat.zero_le _, Nat.zero_le _⟩ (fun o w1 H locs hq hP hD hS => ?_)
  obtain ⟨rfl, e9⟩ := hq
  rw [e9] at hP hD
  refine W.eq (g2 := F0 m 19 ls [.int (iv ((bl U2 : Int)))]) rfl ?_
  exact ef_iret hx hb hr hlocks hP hD hS dX2_bits_19 (⟨_, _, rfl, rfl, hL, hR⟩)

set_option maxRecDepth 100000 in
set_option maxHeartbeats 4000000 in
/-- bits of no part -/
theorem c_bits0x (l : Launch) (dC : Nat → ClassId) (dI : Nat → Nat → Nat) {cI : ClassId} {tys : List (ClassId × FieldType)} (ht : tys[0]? = some (cI, .int)) (q : Nat → Nat) {A1 U1 A2 U2 L R : Nat} {b1 e1 b2 e2 : Int} (hA1 : wl A1 ≤ 150) (hU1 : wl U1 ≤ 150) (hA2 : wl A2 ≤ 150) (hU2 : wl U2 ≤ 150) (hL : wl L ≤ 301) (hR : wl R ≤ 301) (z : Int) (hz : ir z) (hz0 : z ≠ 0) (hz1 : z ≠ 1) : ef_C l yX2_bits wsX2_bits ({ frames := 2, cells := 0, slots := 0, locals := 44 } : Room) [.ref (q 0), .int (iv (0)), .int (iv (z))] (dC, dI) vwCl tys (cC cI q (A1) (U1) (b1) (e1) (A2) (U2) (b2) (e2) (L) (R)) (fun o w1 => ∃ L2 R2 : Nat, o = some (.int (iv (-1))) ∧ w1 = cC cI q (A1) (U1) (b1) (e1) (A2) (U2) (b2) (e2) (L2) (R2) ∧ wl L2 ≤ 301 ∧ wl R2 ≤ 301) := by
  refine ef_C.of (cc := cX2_bits) (maxL := 4) (ret := (some .int)) (by decide) rfl (Nat.le_of_ble_eq_true rfl) ?_
  intro p e s m below meth c ls hx hb hml hr hts hown hlocks hK hNX hP hD hS hl
  have hl : lv_has ls 4 [(0, .ref (q 0)), (1, .int (iv (0))), (2, .int (iv (z)))] := hl
  have hown : s.vm.findClass RX2 = some m.cls := hown
  generalize hH : s.heap = H at hP ⊢
  have hS : va_S (ef_A (cC cI q (A1) (U1) (b1) (e1) (A2) (U2) (b2) (e2) (L) (R))) s.heap H [] := by rw [← hH]; exact hS
  generalize ([] : List Loc) = locs at hS ⊢
  refine lv_aload_n hx hb dX2_bits_0 rfl (lv_at hl 0 rfl) ?_
  refine lv_iload_n hx hb dX2_bits_1 rfl (lv_at hl 1 rfl) ?_
  refine lv_iload_n hx hb dX2_bits_2 rfl (lv_at hl 2 rfl) ?_
  refine ef_callV (As := [.int (iv (0)), .int (iv (z))]) (rest := []) ⟨hx, hb, hml, hown, hts⟩ (c_partOf0x l dC dI ht q z hz hz0 hz1) (cwV 2 hts gX2_bits_X2_partOf rfl rfl rfl (by decide +kernel) ⟨Nat.le_of_ble_eq_true rfl, Nat.le_of_ble_eq_true rfl⟩) hK hNX hP hD hS 0 rfl rfl rfl rfl hl.1 rfl (Nat.le_of_ble_eq_true rfl) dX2_bits_3 ⟨Nat.zero_le _, Nat.zero_le _⟩ (fun o w1 H locs hq hP hD hS => ?_)
  obtain ⟨rfl, e9⟩ := hq
  rw [e9] at hP hD
  refine W.eq (g2 := F0 m 6 ls [.null]) rfl ?_
  refine lv_astore_nN (lv' := [(3, .null), (0, .ref (q 0)), (1, .int (iv (0))), (2, .int (iv (z)))]) hx hb dX2_bits_6 rfl hl (by decide) rfl (fun ls hl => ?_)
  refine lv_aload_nN hx hb dX2_bits_7 rfl (lv_at hl 0 rfl) ?_
  refine lv_ifnonnullN hx hb dX2_bits_8 ?_
  refine lv_iconst (v := iv (-1)) hx hb dX2_bits_11 (by decide) ?_
  refine lv_goto (tgt := 19) hx hb dX2_bits_12 (by decide) ?_
  exact ef_iret hx hb hr hlocks hP hD hS dX2_bits_19 (⟨_, _, rfl, rfl, hL, hR⟩)

set_option maxRecDepth 100000 in
set_option maxHeartbeats 4000000 in
/-- bits of no part -/
theorem c_bits1x (l : Launch) (dC : Nat → ClassId) (dI : Nat → Nat → Nat) {cI : ClassId} {tys : List (ClassId × FieldType)} (ht : tys[0]? = some (cI, .int)) (q : Nat → Nat) {A1 U1 A2 U2 L R : Nat} {b1 e1 b2 e2 : Int} (hA1 : wl A1 ≤ 150) (hU1 : wl U1 ≤ 150) (hA2 : wl A2 ≤ 150) (hU2 : wl U2 ≤ 150) (hL : wl L ≤ 301) (hR : wl R ≤ 301) (z : Int) (hz : ir z) (hz0 : z ≠ 0) (hz1 : z ≠ 1) : ef_C l yX2_bits wsX2_bits ({ frames := 2, cells := 0, slots := 0, locals := 44 } : Room) [.ref (q 0), .int (iv (1)), .int (iv (z))] (dC, dI) vwCl tys (cC cI q (A1) (U1) (b1) (e1) (A2) (U2) (b2) (e2) (L) (R)) (fun o w1 => ∃ L2 R2 : Nat, o = some (.int (iv (-1))) ∧ w1 = cC cI q (A1) (U1) (b1) (e1) (A2) (U2) (b2) (e2) (L2) (R2) ∧ wl L2 ≤ 301 ∧ wl R2 ≤ 301) := by
  refine ef_C.of (cc := cX2_bits) (maxL := 4) (ret := (some .int)) (by decide) rfl (Nat.le_of_ble_eq_true rfl) ?_
  intro p e s m below meth c ls hx hb hml hr hts hown hlocks hK hNX hP hD hS hl
  have hl : lv_has ls 4 [(0, .ref (q 0)), (1, .int (iv (1))), (2, .int (iv (z)))] := hl
  have hown : s.vm.findClass RX2 = some m.cls := hown
  generalize hH : s.heap = H at hP ⊢
  have hS : va_S (ef_A (cC cI q (A1) (U1) (b1) (e1) (A2) (U2) (b2) (e2) (L) (R))) s.heap H [] := by rw [← hH]; exact hS
  generalize ([] : List Loc) = locs at hS ⊢
  refine lv_aload_n hx hb dX2_bits_0 rfl (lv_at hl 0 rfl) ?_
  refine lv_iload_n hx hb dX2_bits_1 rfl (lv_at hl 1 rfl) ?_
  refine lv_iload_n hx hb dX2_bits_2 rfl (lv_at hl 2 rfl) ?_
  refine ef_callV (As := [.int (iv (1)), .int (iv (z))]) (rest := []) ⟨hx, hb, hml, hown, hts⟩ (c_partOf1x l dC dI ht q z hz hz0 hz1) (cwV 2 hts gX2_bits_X2_partOf rfl rfl rfl (by decide +kernel) ⟨Nat.le_of_ble_eq_true rfl, Nat.le_of_ble_eq_true rfl⟩) hK hNX hP hD hS 0 rfl rfl rfl rfl hl.1 rfl (Nat.le_of_ble_eq_true rfl) dX2_bits_3 ⟨Nat.zero_le _, Nat.zero_le _⟩ (fun o w1 H locs hq hP hD hS => ?_)
  obtain ⟨rfl, e9⟩ := hq
  rw [e9] at hP hD
  refine W.eq (g2 := F0 m 6 ls [.null]) rfl ?_
  refine lv_astore_nN (lv' := [(3, .null), (0, .ref (q 0)), (1, .int (iv (1))), (2, .int (iv (z)))]) hx hb dX2_bits_6 rfl hl (by decide) rfl (fun ls hl => ?_)
  refine lv_aload_nN hx hb dX2_bits_7 rfl (lv_at hl 0 rfl) ?_
  refine lv_ifnonnullN hx hb dX2_bits_8 ?_
  refine lv_iconst (v := iv (-1)) hx hb dX2_bits_11 (by decide) ?_
  refine lv_goto (tgt := 19) hx hb dX2_bits_12 (by decide) ?_
  exact ef_iret hx hb hr hlocks hP hD hS dX2_bits_19 (⟨_, _, rfl, rfl, hL, hR⟩)

set_option maxRecDepth 100000 in
set_option maxHeartbeats 4000000 in
/-- bits of no part -/
theorem c_bitsxx (l : Launch) (dC : Nat → ClassId) (dI : Nat → Nat → Nat) {cI : ClassId} {tys : List (ClassId × FieldType)} (ht : tys[0]? = some (cI, .int)) (q : Nat → Nat) {A1 U1 A2 U2 L R : Nat} {b1 e1 b2 e2 : Int} (hA1 : wl A1 ≤ 150) (hU1 : wl U1 ≤ 150) (hA2 : wl A2 ≤ 150) (hU2 : wl U2 ≤ 150) (hL : wl L ≤ 301) (hR : wl R ≤ 301) (z y : Int) (hz : ir z) (hz0 : z ≠ 0) (hz1 : z ≠ 1) : ef_C l yX2_bits wsX2_bits ({ frames := 2, cells := 0, slots := 0, locals := 44 } : Room) [.ref (q 0), .int (iv (z)), .int (iv (y))] (dC, dI) vwCl tys (cC cI q (A1) (U1) (b1) (e1) (A2) (U2) (b2) (e2) (L) (R)) (fun o w1 => ∃ L2 R2 : Nat, o = some (.int (iv (-1))) ∧ w1 = cC cI q (A1) (U1) (b1) (e1) (A2) (U2) (b2) (e2) (L2) (R2) ∧ wl L2 ≤ 301 ∧ wl R2 ≤ 301) := by
  refine ef_C.of (cc := cX2_bits) (maxL := 4) (ret := (some .int)) (by decide) rfl (Nat.le_of_ble_eq_true rfl) ?_
  intro p e s m below meth c ls hx hb hml hr hts hown hlocks hK hNX hP hD hS hl
  have hl : lv_has ls 4 [(0, .ref (q 0)), (1, .int (iv (z))), (2, .int (iv (y)))] := hl
  have hown : s.vm.findClass RX2 = some m.cls := hown
  generalize hH : s.heap = H at hP ⊢
  have hS : va_S (ef_A (cC cI q (A1) (U1) (b1) (e1) (A2) (U2) (b2) (e2) (L) (R))) s.heap H [] := by rw [← hH]; exact hS
  generalize ([] : List Loc) = locs at hS ⊢
  refine lv_aload_n hx hb dX2_bits_0 rfl (lv_at hl 0 rfl) ?_
  refine lv_iload_n hx hb dX2_bits_1 rfl (lv_at hl 1 rfl) ?_
  refine lv_iload_n hx hb dX2_bits_2 rfl (lv_at hl 2 rfl) ?_
  refine ef_callV (As := [.int (iv (z)), .int (iv (y))]) (rest := []) ⟨hx, hb, hml, hown, hts⟩ (c_partOfxx l dC dI ht q z y hz hz0 hz1) (cwV 2 hts gX2_bits_X2_partOf rfl rfl rfl (by decide +kernel) ⟨Nat.le_of_ble_eq_true rfl, Nat.le_of_ble_eq_true rfl⟩) hK hNX hP hD hS 0 rfl rfl rfl rfl hl.1 rfl (Nat.le_of_ble_eq_true rfl) dX2_bits_3 ⟨Nat.zero_le _, Nat.zero_le _⟩ (fun o w1 H locs hq hP hD hS => ?_)
  obtain ⟨rfl, e9⟩ := hq
  rw [e9] at hP hD
  refine W.eq (g2 := F0 m 6 ls [.null]) rfl ?_
  refine lv_astore_nN (lv' := [(3, .null), (0, .ref (q 0)), (1, .int (iv (z))), (2, .int (iv (y)))]) hx hb dX2_bits_6 rfl hl (by decide) rfl (fun ls hl => ?_)
  refine lv_aload_nN hx hb dX2_bits_7 rfl (lv_at hl 0 rfl) ?_
  refine lv_ifnonnullN hx hb dX2_bits_8 ?_
  refine lv_iconst (v := iv (-1)) hx hb dX2_bits_11 (by decide) ?_
  refine lv_goto (tgt := 19) hx hb dX2_bits_12 (by decide) ?_
  exact ef_iret hx hb hr hlocks hP hD hS dX2_bits_19 (⟨_, _, rfl, rfl, hL, hR⟩)

set_option maxRecDepth 100000 in
set_option maxHeartbeats 4000000 in
/-- word -/
theorem c_word00 (l : Launch) (dC : Nat → ClassId) (dI : Nat → Nat → Nat) {cI : ClassId} {tys : List (ClassId × FieldType)} (ht : tys[0]? = some (cI, .int)) (q : Nat → Nat) {A1 U1 A2 U2 L R : Nat} {b1 e1 b2 e2 : Int} (hA1 : wl A1 ≤ 150) (hU1 : wl U1 ≤ 150) (hA2 : wl A2 ≤ 150) (hU2 : wl U2 ≤ 150) (hL : wl L ≤ 301) (hR : wl R ≤ 301) (i : Int) (hi : ir i) : ef_C l yX2_word wsX2_word ({ frames := 2, cells := 0, slots := 0, locals := 44 } : Room) [.ref (q 0), .int (iv (0)), .int (iv (0)), .int (iv (i))] (dC, dI) vwCl tys (cC cI q (A1) (U1) (b1) (e1) (A2) (U2) (b2) (e2) (L) (R)) (fun o w1 => ∃ L2 R2 : Nat, o = some (.int (iv (wz (wd A1) i : Int))) ∧ w1 = cC cI q (A1) (U1) (b1) (e1) (A2) (U2) (b2) (e2) (L2) (R2) ∧ wl L2 ≤ 301 ∧ wl R2 ≤ 301) := by
  refine ef_C.of (cc := cX2_word) (maxL := 5) (ret := (some .int)) (by decide) rfl (Nat.le_of_ble_eq_true rfl) ?_
  intro p e s m below meth c ls hx hb hml hr hts hown hlocks hK hNX hP hD hS hl
  have hl : lv_has ls 5 [(0, .ref (q 0)), (1, .int (iv (0))), (2, .int (iv (0))), (3, .int (iv (i)))] := hl
  have hown : s.vm.findClass RX2 = some m.cls := hown
  generalize hH : s.heap = H at hP ⊢
  have hS : va_S (ef_A (cC cI q (A1) (U1) (b1) (e1) (A2) (U2) (b2) (e2) (L) (R))) s.heap H [] := by rw [← hH]; exact hS
  generalize ([] : List Loc) = locs at hS ⊢
  refine lv_aload_n hx hb dX2_word_0 rfl (lv_at hl 0 rfl) ?_
  refine lv_iload_n hx hb dX2_word_1 rfl (lv_at hl 1 rfl) ?_
  refine lv_iload_n hx hb dX2_word_2 rfl (lv_at hl 2 rfl) ?_
  refine ef_callV (As := [.int (iv (0)), .int (iv (0))]) (rest := []) ⟨hx, hb, hml, hown, hts⟩ (c_partOf00 l dC dI ht q) (cwV 2 hts gX2_word_X2_partOf rfl rfl rfl (by decide +kernel) ⟨Nat.le_of_ble_eq_true rfl, Nat.le_of_ble_eq_true rfl⟩) hK hNX hP hD hS 0 rfl rfl rfl rfl hl.1 rfl (Nat.le_of_ble_eq_true rfl) dX2_word_3 ⟨Nat.zero_le _, Nat.zero_le _⟩ (fun o w1 H locs hq hP hD hS => ?_)
  obtain ⟨rfl, e9⟩ := hq
  rw [e9] at hP hD
  refine W.eq (g2 := F0 m 6 ls [.ref (q 3)]) rfl ?_
  refine lv_astore (lv' := [(4, .ref (q 3)), (0, .ref (q 0)), (1, .int (iv (0))), (2, .int (iv (0))), (3, .int (iv (i)))]) hx hb dX2_word_6 hl (by decide) rfl (fun ls hl => ?_)
  refine lv_aload hx hb dX2_word_8 (lv_at hl 0 rfl) ?_
  refine lv_ifnonnull (tgt := 17) hx hb dX2_word_10 (by decide) ?_
  refine lv_aload hx hb dX2_word_17 (lv_at hl 0 rfl) ?_
  refine lv_iload_n hx hb dX2_word_19 rfl (lv_at hl 4 rfl) ?_
  refine ef_callV (As := [.int (iv (i))]) (rest := []) ⟨hx, hb, hml, hown, hts⟩ (c_wordAt l dC dI ht (isW_c (X := A1) (ws := cC cI q (A1) (U1) (b1) (e1) (A2) (U2) (b2) (e2) (L) (R)) (k0 := 3) (k1 := 4) (by decide) rfl rfl) i hi) (cwV 1 hts gX2_word_X1_wordAt rfl rfl rfl (by decide +kernel) ⟨Nat.le_of_ble_eq_true rfl, Nat.le_of_ble_eq_true rfl⟩) hK hNX hP hD hS 3 rfl rfl rfl rfl hl.1 rfl (Nat.le_of_ble_eq_true rfl) dX2_word_20 ⟨Nat.zero_le _, Nat.zero_le _⟩ (fun o w1 H locs hq hP hD hS => ?_)
  obtain ⟨rfl, e9⟩ := hq
  rw [e9] at hP hD
  refine W.eq (g2 := F0 m 23 ls [.int (iv ((wz (wd A1) i : Int)))]) rfl ?_
  exact ef_iret hx hb hr hlocks hP hD hS dX2_word_23 (⟨_, _, rfl, rfl, hL, hR⟩)

set_option maxRecDepth 100000 in
set_option maxHeartbeats 4000000 in
/-- word -/
theorem c_word01 (l : Launch) (dC : Nat → ClassId) (dI : Nat → Nat → Nat) {cI : ClassId} {tys : List (ClassId × FieldType)} (ht : tys[0]? = some (cI, .int)) (q : Nat → Nat) {A1 U1 A2 U2 L R : Nat} {b1 e1 b2 e2 : Int} (hA1 : wl A1 ≤ 150) (hU1 : wl U1 ≤ 150) (hA2 : wl A2 ≤ 150) (hU2 : wl U2 ≤ 150) (hL : wl L ≤ 301) (hR : wl R ≤ 301) (i : Int) (hi : ir i) : ef_C l yX2_word wsX2_word ({ frames := 2, cells := 0, slots := 0, locals := 44 } : Room) [.ref (q 0), .int (iv (0)), .int (iv (1)), .int (iv (i))] (dC, dI) vwCl tys (cC cI q (A1) (U1) (b1) (e1) (A2) (U2) (b2) (e2) (L) (R)) (fun o w1 => ∃ L2 R2 : Nat, o = some (.int (iv (wz (wd U1) i : Int))) ∧ w1 = cC cI q (A1) (U1) (b1) (e1) (A2) (U2) (b2) (e2) (L2) (R2) ∧ wl L2 ≤ 301 ∧ wl R2 ≤ 301) := by
  refine ef_C.of (cc := cX2_word) (maxL := 5) (ret := (some .int)) (by decide) rfl (Nat.le_of_ble_eq_true rfl) ?_
  intro p e s m below meth c ls hx hb hml hr hts hown hlocks hK hNX hP hD hS hl
  have hl : lv_has ls 5 [(0, .ref (q 0)), (1, .int (iv (0))), (2, .int (iv (1))), (3, .int (iv (i)))] := hl
  have hown : s.vm.findClass RX2 = some m.cls := hown
  generalize hH : s.heap = H at hP ⊢
  have hS : va_S (ef_A (cC cI q (A1) (U1) (b1) (e1) (A2) (U2) (b2) (e2) (L) (R))) s.heap H [] := by rw [← hH]; exact hS
  generalize ([] : List Loc) = locs at hS ⊢
  refine lv_aload_n hx hb dX2_word_0 rfl (lv_at hl 0 rfl) ?_
  refine lv_iload_n hx hb dX2_word_1 rfl (lv_at hl 1 rfl) ?_
  refine lv_iload_n hx hb dX2_word_2 rfl (lv_at hl 2 rfl) ?_
  refine ef_callV (As := [.int (iv (0)), .int (iv (1))]) (rest := []) ⟨hx, hb, hml, hown, hts⟩ (c_partOf01 l dC dI ht q) (cwV 2 hts gX2_word_X2_partOf rfl rfl rfl (by decide +kernel) ⟨Nat.le_of_ble_eq_true rfl, Nat.le_of_ble_eq_true rfl⟩) hK hNX hP hD hS 0 rfl rfl rfl rfl hl.1 rfl (Nat.le_of_ble_eq_true rfl) dX2_word_3 ⟨Nat.zero_le _, Nat.zero_le _⟩ (fun o w1 H locs hq hP hD hS => ?_)
  obtain ⟨rfl, e9⟩ := hq
  rw [e9] at hP hD
  refine W.eq (g2 := F0 m 6 ls [.ref (q 5)]) rfl ?_
  refine lv_astore (lv' := [(4, .ref (q 5)), (0, .ref (q 0)), (1, .int (iv (0))), (2, .int (iv (1))), (3, .int (iv (i)))]) hx hb dX2_word_6 hl (by decide) rfl (fun ls hl => ?_)
  refine lv_aload hx hb dX2_word_8 (lv_at hl 0 rfl) ?_
  refine lv_ifnonnull (tgt := 17) hx hb dX2_word_10 (by decide) ?_
  refine lv_aload hx hb dX2_word_17 (lv_at hl 0 rfl) ?_
  refine lv_iload_n hx hb dX2_word_19 rfl (lv_at hl 4 rfl) ?_
  refine ef_callV (As := [.int (iv (i))]) (rest := []) ⟨hx, hb, hml, hown, hts⟩ (c_wordAt l dC dI ht (isW_c (X := U1) (ws := cC cI q (A1) (U1) (b1) (e1) (A2) (U2) (b2) (e2) (L) (R)) (k0 := 5) (k1 := 6) (by decide) rfl rfl) i hi) (cwV 1 hts gX2_word_X1_wordAt rfl rfl rfl (by decide +kernel) ⟨Nat.le_of_ble_eq_true rfl, Nat.le_of_ble_eq_true rfl⟩) hK hNX hP hD hS 5 rfl rfl rfl rfl hl.1 rfl (Nat.le_of_ble_eq_true rfl) dX2_word_20 ⟨Nat.zero_le _, Nat.zero_le _⟩ (fun o w1 H locs hq hP hD hS => ?_)
  obtain ⟨rfl, e9⟩ := hq
  rw [e9] at hP hD
  refine W.eq (g2 := F0 m 23 ls [.int (iv ((wz (wd U1) i : Int)))]) rfl ?_
  exact ef_iret hx hb hr hlocks hP hD hS dX2_word_23 (⟨_, _, rfl, rfl, hL, hR⟩)

set_option maxRecDepth 100000 in
set_option maxHeartbeats 4000000 in
/-- word -/
theorem c_word10 (l : Launch) (dC : Nat → ClassId) (dI : Nat → Nat → Nat) {cI : ClassId} {tys : List (ClassId × FieldType)} (ht : tys[0]? = some (cI, .int)) (q : Nat → Nat) {A1 U1 A2 U2 L R : Nat} {b1 e1 b2 e2 : Int} (hA1 : wl A1 ≤ 150) (hU1 : wl U1 ≤ 150) (hA2 : wl A2 ≤ 150) (hU2 : wl U2 ≤ 150) (hL : wl L ≤ 301) (hR : wl R ≤ 301) (i : Int) (hi : ir i) : ef_C l yX2_word wsX2_word ({ frames := 2, cells := 0, slots := 0, locals := 44 } : Room) [.ref (q 0), .int (iv (1)), .int (iv (0)), .int (iv (i))] (dC, dI) vwCl tys (cC cI q (A1) (U1) (b1) (e1) (A2) (U2) (b2) (e2) (L) (R)) (fun o w1 => ∃ L2 R2 : Nat, o = some (.int (iv (wz (wd A2) i : Int))) ∧ w1 = cC cI q (A1) (U1) (b1) (e1) (A2) (U2) (b2) (e2) (L2) (R2) ∧ wl L2 ≤ 301 ∧ wl R2 ≤ 301) := by
  refine ef_C.of (cc := cX2_word) (maxL := 5) (ret := (some .int)) (by decide) rfl (Nat.le_of_ble_eq_true rfl) ?_
  intro p e s m below meth c ls hx hb hml hr hts hown hlocks hK hNX hP hD hS hl
  have hl : lv_has ls 5 [(0, .ref (q 0)), (1, .int (iv (1))), (2, .int (iv (0))), (3, .int (iv (i)))] := hl
  have hown : s.vm.findClass RX2 = some m.cls := hown
  generalize hH : s.heap = H at hP ⊢
  have hS : va_S (ef_A (cC cI q (A1) (U1) (b1) (e1) (A2) (U2) (b2) (e2) (L) (R))) s.heap H [] := by rw [← hH]; exact hS
  generalize ([] : List Loc) = locs at hS ⊢
  refine lv_aload_n hx hb dX2_word_0 rfl (lv_at hl 0 rfl) ?_
  refine lv_iload_n hx hb dX2_word_1 rfl (lv_at hl 1 rfl) ?_
  refine lv_iload_n hx hb dX2_word_2 rfl (lv_at hl 2 rfl) ?_
  refine ef_callV (As := [.int (iv (1)), .int (iv (0))]) (rest := []) ⟨hx, hb, hml, hown, hts⟩ (c_partOf10 l dC dI ht q) (cwV 2 hts gX2_word_X2_partOf rfl rfl rfl (by decide +kernel) ⟨Nat.le_of_ble_eq_true rfl, Nat.le_of_ble_eq_true rfl⟩) hK hNX hP hD hS 0 rfl rfl rfl rfl hl.1 rfl (Nat.le_of_ble_eq_true rfl) dX2_word_3 ⟨Nat.zero_le _, Nat.zero_le _⟩ (fun o w1 H locs hq hP hD hS => ?_)
  obtain ⟨rfl, e9⟩ := hq
  rw [e9] at hP hD
  refine W.eq (g2 := F0 m 6 ls [.ref (q 7)]) rfl ?_
  refine lv_astore (lv' := [(4, .ref (q 7)), (0, .ref (q 0)), (1, .int (iv (1))), (2, .int (iv (0))), (3, .int (iv (i)))]) hx hb dX2_word_6 hl (by decide) rfl (fun ls hl => ?_)
  refine lv_aload hx hb dX2_word_8 (lv_at hl 0 rfl) ?_
  refine lv_ifnonnull (tgt := 17) hx hb dX2_word_10 (by decide) ?_
  refine lv_aload hx hb dX2_word_17 (lv_at hl 0 rfl) ?_
  refine lv_iload_n hx hb dX2_word_19 rfl (lv_at hl 4 rfl) ?_
  refine ef_callV (As := [.int (iv (i))]) (rest := []) ⟨hx, hb, hml, hown, hts⟩ (c_wordAt l dC dI ht (isW_c (X := A2) (ws := cC cI q (A1) (U1) (b1) (e1) (A2) (U2) (b2) (e2) (L) (R)) (k0 := 7) (k1 := 8) (by decide) rfl rfl) i hi) (cwV 1 hts gX2_word_X1_wordAt rfl rfl rfl (by decide +kernel) ⟨Nat.le_of_ble_eq_true rfl, Nat.le_of_ble_eq_true rfl⟩) hK hNX hP hD hS 7 rfl rfl rfl rfl hl.1 rfl (Nat.le_of_ble_eq_true rfl) dX2_word_20 ⟨Nat.zero_le _, Nat.zero_le _⟩ (fun o w1 H locs hq hP hD hS => ?_)
  obtain ⟨rfl, e9⟩ := hq
  rw [e9] at hP hD
  refine W.eq (g2 := F0 m 23 ls [.int (iv ((wz (wd A2) i : Int)))]) rfl ?_
  exact ef_iret hx hb hr hlocks hP hD hS dX2_word_23 (⟨_, _, rfl, rfl, hL, hR⟩)

set_option maxRecDepth 100000 in
set_option maxHeartbeats 4000000 in
/-- word -/
theorem c_word11 (l : Launch) (dC : Nat → ClassId) (dI : Nat → Nat → Nat) {cI : ClassId} {tys : List (ClassId × FieldType)} (ht : tys[0]? = some (cI, .int)) (q : Nat → Nat) {A1 U1 A2 U2 L R : Nat} {b1 e1 b2 e2 : Int} (hA1 : wl A1 ≤ 150) (hU1 : wl U1 ≤ 150) (hA2 : wl A2 ≤ 150) (hU2 : wl U2 ≤ 150) (hL : wl L ≤ 301) (hR : wl R ≤ 301) (i : Int) (hi : ir i) : ef_C l yX2_word wsX2_word ({ frames := 2, cells := 0, slots := 0, locals := 44 } : Room) [.ref (q 0), .int (iv (1)), .int (iv (1)), .int (iv (i))] (dC, dI) vwCl tys (cC cI q (A1) (U1) (b1) (e1) (A2) (U2) (b2) (e2) (L) (R)) (fun o w1 => ∃ L2 R2 : Nat, o = some (.int (iv (wz (wd U2) i : Int))) ∧ w1 = cC cI q (A1) (U1) (b1) (e1) (A2) (U2) (b2) (e2) (L2) (R2) ∧ wl L2 ≤ 301 ∧ wl R2 ≤ 301) := by
  refine ef_C.of (cc := cX2_word) (maxL := 5) (ret := (some .int)) (by decide) rfl (Nat.le_of_ble_eq_true rfl) ?_
  intro p e s m below meth c ls hx hb hml hr hts hown hlocks hK hNX hP hD hS hl
  have hl : lv_has ls 5 [(0, .ref (q 0)), (1, .int (iv (1))), (2, .int (iv (1))), (3, .int (iv (i)))] := hl
  have hown : s.vm.findClass RX2 = some m.cls := hown
  generalize hH : s.heap = H at hP ⊢
  have hS : va_S (ef_A (cC cI q (A1) (U1) (b1) (e1) (A2) (U2) (b2) (e2) (L) (R))) s.heap H [] := by rw [← hH]; exact hS
  generalize ([] : List Loc) = locs at hS ⊢
  refine lv_aload_n hx hb dX2_word_0 rfl (lv_at hl 0 rfl) ?_
  refine lv_iload_n hx hb dX2_word_1 rfl (lv_at hl 1 rfl) ?_
  refine lv_iload_n hx hb dX2_word_2 rfl (lv_at hl 2 rfl) ?_
  refine ef_callV (As := [.int (iv (1)), .int (iv (1))]) (rest := []) ⟨hx, hb, hml, hown, hts⟩ (c_partOf11 l dC dI ht q) (cwV 2 hts gX2_word_X2_partOf rfl rfl rfl (by decide +kernel) ⟨Nat.le_of_ble_eq_true rfl, Nat.le_of_ble_eq_true rfl⟩) hK hNX hP hD hS 0 rfl rfl rfl rfl hl.1 rfl (Nat.le_of_ble_eq_true rfl) dX2_word_3 ⟨Nat.zero_le _, Nat.zero_le _⟩ (fun o w1 H locs hq hP hD hS => ?_)
  obtain ⟨rfl, e9⟩ := hq
  rw [e9] at hP hD
  refine W.eq (g2 := F0 m 6 ls [.ref (q 9)]) rfl ?_
  refine lv_astore (lv' := [(4, .ref (q 9)), (0, .ref (q 0)), (1, .int (iv (1))), (2, .int (iv (1))), (3, .int (iv (i)))]) hx hb dX2_word_6 hl (by decide) rfl (fun ls hl => ?_)
  refine lv_aload hx hb dX2_word_8 (lv_at hl 0 rfl) ?_
  refine lv_ifnonnull (tgt := 17) hx hb dX2_word_10 (by decide) ?_
  refine lv_aload hx hb dX2_word_17 (lv_at hl 0 rfl) ?_
  refine lv_iload_n hx hb dX2_word_19 rfl (lv_at hl 4 rfl) ?_
  refine ef_callV (As := [.int (iv (i))]) (rest := []) ⟨hx, hb, hml, hown, hts⟩ (c_wordAt l dC dI ht (isW_c (X := U2) (ws := cC cI q (A1) (U1) (b1) (e1) (A2) (U2) (b2) (e2) (L) (R)) (k0 := 9) (k1 := 10) (by decide) rfl rfl) i hi) (cwV 1 hts gX2_word_X1_wordAt rfl rfl rfl (by decide +kernel) ⟨Nat.le_of_ble_eq_true rfl, Nat.le_of_ble_eq_true rfl⟩) hK hNX hP hD hS 9 rfl rfl rfl rfl hl.1 rfl (Nat.le_of_ble_eq_true rfl) dX2_word_20 ⟨Nat.zero_le _, Nat.zero_le _⟩ (fun o w1 H locs hq hP hD hS => ?_)
  obtain ⟨rfl, e9⟩ := hq
  rw [e9] at hP hD
  refine W.eq (g2 := F0 m 23 ls [.int (iv ((wz (wd U2) i : Int)))]) rfl ?_
  exact ef_iret hx hb hr hlocks hP hD hS dX2_word_23 (⟨_, _, rfl, rfl, hL, hR⟩)

set_option maxRecDepth 100000 in
set_option maxHeartbeats 4000000 in
/-- word of no part -/
theorem c_word0x (l : Launch) (dC : Nat → ClassId) (dI : Nat → Nat → Nat) {cI : ClassId} {tys : List (ClassId × FieldType)} (ht : tys[0]? = some (cI, .int)) (q : Nat → Nat) {A1 U1 A2 U2 L R : Nat} {b1 e1 b2 e2 : Int} (hA1 : wl A1 ≤ 150) (hU1 : wl U1 ≤ 150) (hA2 : wl A2 ≤ 150) (hU2 : wl U2 ≤ 150) (hL : wl L ≤ 301) (hR : wl R ≤ 301) (z : Int) (hz : ir z) (hz0 : z ≠ 0) (hz1 : z ≠ 1) (i : Int) : ef_C l yX2_word wsX2_word ({ frames := 2, cells := 0, slots := 0, locals := 44 } : Room) [.ref (q 0), .int (iv (0)), .int (iv (z)), .int (iv (i))] (dC, dI) vwCl tys (cC cI q (A1) (U1) (b1) (e1) (A2) (U2) (b2) (e2) (L) (R)) (fun o w1 => ∃ L2 R2 : Nat, o = some (.int (iv (0))) ∧ w1 = cC cI q (A1) (U1) (b1) (e1) (A2) (U2) (b2) (e2) (L2) (R2) ∧ wl L2 ≤ 301 ∧ wl R2 ≤ 301) := by
  refine ef_C.of (cc := cX2_word) (maxL := 5) (ret := (some .int)) (by decide) rfl (Nat.le_of_ble_eq_true rfl) ?_
  intro p e s m below meth c ls hx hb hml hr hts hown hlocks hK hNX hP hD hS hl
  have hl : lv_has ls 5 [(0, .ref (q 0)), (1, .int (iv (0))), (2, .int (iv (z))), (3, .int (iv (i)))] := hl
  have hown : s.vm.findClass RX2 = some m.cls := hown
  generalize hH : s.heap = H at hP ⊢
  have hS : va_S (ef_A (cC cI q (A1) (U1) (b1) (e1) (A2) (U2) (b2) (e2) (L) (R))) s.heap H [] := by rw [← hH]; exact hS
  generalize ([] : List Loc) = locs at hS ⊢
  refine lv_aload_n hx hb dX2_word_0 rfl (lv_at hl 0 rfl) ?_
  refine lv_iload_n hx hb dX2_word_1 rfl (lv_at hl 1 rfl) ?_
  refine lv_iload_n hx hb dX2_word_2 rfl (lv_at hl 2 rfl) ?_
  refine ef_callV (As := [.int (iv (0)), .int (iv (z))]) (rest := []) ⟨hx, hb, hml, hown, hts⟩ (c_partOf0x l dC dI ht q z hz hz0 hz1) (cwV 2 hts gX2_word_X2_partOf rfl rfl rfl (by decide +kernel) ⟨Nat.le_of_ble_eq_true rfl, Nat.le_of_ble_eq_true rfl⟩) hK hNX hP hD hS 0 rfl rfl rfl rfl hl.1 rfl (Nat.le_of_ble_eq_true rfl) dX2_word_3 ⟨Nat.zero_le _, Nat.zero_le _⟩ (fun o w1 H locs hq hP hD hS => ?_)
  obtain ⟨rfl, e9⟩ := hq
  rw [e9] at hP hD
  refine W.eq (g2 := F0 m 6 ls [.null]) rfl ?_
  refine lv_astoreN (lv' := [(4, .null), (0, .ref (q 0)), (1, .int (iv (0))), (2, .int (iv (z))), (3, .int (iv (i)))]) hx hb dX2_word_6 hl (by decide) rfl (fun ls hl => ?_)
  refine lv_aloadN hx hb dX2_word_8 (lv_at hl 0 rfl) ?_
  refine lv_ifnonnullN hx hb dX2_word_10 ?_
  refine lv_iconst (v := iv (0)) hx hb dX2_word_13 (by decide) ?_
  refine lv_goto (tgt := 23) hx hb dX2_word_14 (by decide) ?_
  exact ef_iret hx hb hr hlocks hP hD hS dX2_word_23 (⟨_, _, rfl, rfl, hL, hR⟩)

set_option maxRecDepth 100000 in
set_option maxHeartbeats 4000000 in
/-- word of no part -/
theorem c_word1x (l : Launch) (dC : Nat → ClassId) (dI : Nat → Nat → Nat) {cI : ClassId} {tys : List (ClassId × FieldType)} (ht : tys[0]? = some (cI, .int)) (q : Nat → Nat) {A1 U1 A2 U2 L R : Nat} {b1 e1 b2 e2 : Int} (hA1 : wl A1 ≤ 150) (hU1 : wl U1 ≤ 150) (hA2 : wl A2 ≤ 150) (hU2 : wl U2 ≤ 150) (hL : wl L ≤ 301) (hR : wl R ≤ 301) (z : Int) (hz : ir z) (hz0 : z ≠ 0) (hz1 : z ≠ 1) (i : Int) : ef_C l yX2_word wsX2_word ({ frames := 2, cells := 0, slots := 0, locals := 44 } : Room) [.ref (q 0), .int (iv (1)), .int (iv (z)), .int (iv (i))] (dC, dI) vwCl tys (cC cI q (A1) (U1) (b1) (e1) (A2) (U2) (b2) (e2) (L) (R)) (fun o w1 => ∃ L2 R2 : Nat, o = some (.int (iv (0))) ∧ w1 = cC cI q (A1) (U1) (b1) (e1) (A2) (U2) (b2) (e2) (L2) (R2) ∧ wl L2 ≤ 301 ∧ wl R2 ≤ 301) := by
  refine ef_C.of (cc := cX2_word) (maxL := 5) (ret := (some .int)) (by decide) rfl (Nat.le_of_ble_eq_true rfl) ?_
  intro p e s m below meth c ls hx hb hml hr hts hown hlocks hK hNX hP hD hS hl
  have hl : lv_has ls 5 [(0, .ref (q 0)), (1, .int (iv (1))), (2, .int (iv (z))), (3, .int (iv (i)))] := hl
  have hown : s.vm.findClass RX2 = some m.cls := hown
  generalize hH : s.heap = H at hP ⊢
  have hS : va_S (ef_A (cC cI q (A1) (U1) (b1) (e1) (A2) (U2) (b2) (e2) (L) (R))) s.heap H [] := by rw [← hH]; exact hS
  generalize ([] : List Loc) = locs at hS ⊢
  refine lv_aload_n hx hb dX2_word_0 rfl (lv_at hl 0 rfl) ?_
  refine lv_iload_n hx hb dX2_word_1 rfl (lv_at hl 1 rfl) ?_
  refine lv_iload_n hx hb dX2_word_2 rfl (lv_at hl 2 rfl) ?_
  refine ef_callV (As := [.int (iv (1)), .int (iv (z))]) (rest := []) ⟨hx, hb, hml, hown, hts⟩ (c_partOf1x l dC dI ht q z hz hz0 hz1) (cwV 2 hts gX2_word_X2_partOf rfl rfl rfl (by decide +kernel) ⟨Nat.le_of_ble_eq_true rfl, Nat.le_of_ble_eq_true rfl⟩) hK hNX hP hD hS 0 rfl rfl rfl rfl hl.1 rfl (Nat.le_of_ble_eq_true rfl) dX2_word_3 ⟨Nat.zero_le _, Nat.zero_le _⟩ (fun o w1 H locs hq hP hD hS => ?_)
  obtain ⟨rfl, e9⟩ := hq
  rw [e9] at hP hD
  refine W.eq (g2 := F0 m 6 ls [.null]) rfl ?_
  refine lv_astoreN (lv' := [(4, .null), (0, .ref (q 0)), (1, .int (iv (1))), (2, .int (iv (z))), (3, .int (iv (i)))]) hx hb dX2_word_6 hl (by decide) rfl (fun ls hl => ?_)
  refine lv_aloadN hx hb dX2_word_8 (lv_at hl 0 rfl) ?_
  refine lv_ifnonnullN hx hb dX2_word_10 ?_
  refine lv_iconst (v := iv (0)) hx hb dX2_word_13 (by decide) ?_
  refine lv_goto (tgt := 23) hx hb dX2_word_14 (by decide) ?_
  exact ef_iret hx hb hr hlocks hP hD hS dX2_word_23 (⟨_, _, rfl, rfl, hL, hR⟩)

set_option maxRecDepth 100000 in
set_option maxHeartbeats 4000000 in
/-- word of no part -/
theorem c_wordxx (l : Launch) (dC : Nat → ClassId) (dI : Nat → Nat → Nat) {cI : ClassId} {tys : List (ClassId × FieldType)} (ht : tys[0]? = some (cI, .int)) (q : Nat → Nat) {A1 U1 A2 U2 L R : Nat} {b1 e1 b2 e2 : Int} (hA1 : wl A1 ≤ 150) (hU1 : wl U1 ≤ 150) (hA2 : wl A2 ≤ 150) (hU2 : wl U2 ≤ 150) (hL : wl L ≤ 301) (hR : wl R ≤ 301) (z y : Int) (hz : ir z) (hz0 : z ≠ 0) (hz1 : z ≠ 1) (i : Int) : ef_C l yX2_word wsX2_word ({ frames := 2, cells := 0, slots := 0, locals := 44 } : Room) [.ref (q 0), .int (iv (z)), .int (iv (y)), .int (iv (i))] (dC, dI) vwCl tys (cC cI q (A1) (U1) (b1) (e1) (A2) (U2) (b2) (e2) (L) (R)) (fun o w1 => ∃ L2 R2 : Nat, o = some (.int (iv (0))) ∧ w1 = cC cI q (A1) (U1) (b1) (e1) (A2) (U2) (b2) (e2) (L2) (R2) ∧ wl L2 ≤ 301 ∧ wl R2 ≤ 301) := by
  refine ef_C.of (cc := cX2_word) (maxL := 5) (ret := (some .int)) (by decide) rfl (Nat.le_of_ble_eq_true rfl) ?_
  intro p e s m below meth c ls hx hb hml hr hts hown hlocks hK hNX hP hD hS hl
  have hl : lv_has ls 5 [(0, .ref (q 0)), (1, .int (iv (z))), (2, .int (iv (y))), (3, .int (iv (i)))] := hl
  have hown : s.vm.findClass RX2 = some m.cls := hown
  generalize hH : s.heap = H at hP ⊢
  have hS : va_S (ef_A (cC cI q (A1) (U1) (b1) (e1) (A2) (U2) (b2) (e2) (L) (R))) s.heap H [] := by rw [← hH]; exact hS
  generalize ([] : List Loc) = locs at hS ⊢
  refine lv_aload_n hx hb dX2_word_0 rfl (lv_at hl 0 rfl) ?_
  refine lv_iload_n hx hb dX2_word_1 rfl (lv_at hl 1 rfl) ?_
  refine lv_iload_n hx hb dX2_word_2 rfl (lv_at hl 2 rfl) ?_
  refine ef_callV (As := [.int (iv (z)), .int (iv (y))]) (rest := []) ⟨hx, hb, hml, hown, hts⟩ (c_partOfxx l dC dI ht q z y hz hz0 hz1) (cwV 2 hts gX2_word_X2_partOf rfl rfl rfl (by decide +kernel) ⟨Nat.le_of_ble_eq_true rfl, Nat.le_of_ble_eq_true rfl⟩) hK hNX hP hD hS 0 rfl rfl rfl rfl hl.1 rfl (Nat.le_of_ble_eq_true rfl) dX2_word_3 ⟨Nat.zero_le _, Nat.zero_le _⟩ (fun o w1 H locs hq hP hD hS => ?_)
  obtain ⟨rfl, e9⟩ := hq
  rw [e9] at hP hD
  refine W.eq (g2 := F0 m 6 ls [.null]) rfl ?_
  refine lv_astoreN (lv' := [(4, .null), (0, .ref (q 0)), (1, .int (iv (z))), (2, .int (iv (y))), (3, .int (iv (i)))]) hx hb dX2_word_6 hl (by decide) rfl (fun ls hl => ?_)
  refine lv_aloadN hx hb dX2_word_8 (lv_at hl 0 rfl) ?_
  refine lv_ifnonnullN hx hb dX2_word_10 ?_
  refine lv_iconst (v := iv (0)) hx hb dX2_word_13 (by decide) ?_
  refine lv_goto (tgt := 23) hx hb dX2_word_14 (by decide) ?_
  exact ef_iret hx hb hr hlocks hP hD hS dX2_word_23 (⟨_, _, rfl, rfl, hL, hR⟩)
