theorem jv_ne0 {v : Nat} (hv : v < 18446744073709551616) (h : v ≠ 0) : jv (v : Int) ≠ jv 0 := by
  intro q
  have e : (jv (v : Int)).toBitVec.toNat = (jv 0).toBitVec.toNat := by rw [q]
  have e1 : (jv (v : Int)).toBitVec.toNat = ((v : Int) % 18446744073709551616).toNat := by
    show (BitVec.ofInt 64 (v : Int)).toNat = _
    rw [BitVec.toNat_ofInt]
    rfl
  have e2 : (jv 0).toBitVec.toNat = 0 := rfl
  rw [e1, e2] at e
  omega
theorem lcmp_ne {x y : Int64} (h : x ≠ y) : ¬ lg_cmp x y = 0 := by
  unfold lg_cmp
  split
  · decide
  · first | decide | (rw [if_neg h]; decide)

set_option maxRecDepth 100000 in
set_option maxHeartbeats 4000000 in
/-- set -/
theorem c_set00 (l : Launch) (dC : Nat → ClassId) (dI : Nat → Nat → Nat) {cI : ClassId} {tys : List (ClassId × FieldType)} (ht : tys[0]? = some (cI, .int)) (q : Nat → Nat) {A1 U1 A2 U2 L R : Nat} {b1 e1 b2 e2 : Int} (hA1 : wl A1 ≤ 150) (hU1 : wl U1 ≤ 150) (hA2 : wl A2 ≤ 150) (hU2 : wl U2 ≤ 150) (hL : wl L ≤ 301) (hR : wl R ≤ 301) (v : Nat) (hv : v < 18446744073709551616) : ef_C l yX2_set wsX2_set ({ frames := 3, cells := 0, slots := 0, locals := 67 } : Room) [.ref (q 0), .int (iv (0)), .int (iv (0)), .long (jv ((v : Int)))] (dC, dI) vwCl tys (cC cI q (A1) (U1) (b1) (e1) (A2) (U2) (b2) (e2) (L) (R)) (fun o w1 => ∃ L2 R2 : Nat, o = some (.int (iv (bl v : Int))) ∧ w1 = cC cI q (v) (U1) (b1) (e1) (A2) (U2) (b2) (e2) (L2) (R2) ∧ wl L2 ≤ 301 ∧ wl R2 ≤ 301) := by
  refine ef_C.of (cc := cX2_set) (maxL := 6) (ret := (some .int)) (by decide) rfl (Nat.le_of_ble_eq_true rfl) ?_
  intro p e s m below meth c ls hx hb hml hr hts hown hlocks hK hNX hP hD hS hl
  have hl : lv_has ls 6 [(0, .ref (q 0)), (1, .int (iv (0))), (2, .int (iv (0))), (3, .long (jv ((v : Int))))] := hl
  have hown : s.vm.findClass RX2 = some m.cls := hown
  generalize hH : s.heap = H at hP ⊢
  have hS : va_S (ef_A (cC cI q (A1) (U1) (b1) (e1) (A2) (U2) (b2) (e2) (L) (R))) s.heap H [] := by rw [← hH]; exact hS
  generalize ([] : List Loc) = locs at hS ⊢
  refine lv_aload_n hx hb dX2_set_0 rfl (lv_at hl 0 rfl) ?_
  refine lv_iload_n hx hb dX2_set_1 rfl (lv_at hl 1 rfl) ?_
  refine lv_iload_n hx hb dX2_set_2 rfl (lv_at hl 2 rfl) ?_
  refine ef_callV (As := [.int (iv (0)), .int (iv (0))]) (rest := []) ⟨hx, hb, hml, hown, hts⟩ (c_partOf00 l dC dI ht q) (cwV 2 hts gX2_set_X2_partOf rfl rfl rfl (by decide +kernel) ⟨Nat.le_of_ble_eq_true rfl, Nat.le_of_ble_eq_true rfl⟩) hK hNX hP hD hS 0 rfl rfl rfl rfl hl.1 rfl (Nat.le_of_ble_eq_true rfl) dX2_set_3 ⟨Nat.zero_le _, Nat.zero_le _⟩ (fun o w1 H locs hq hP hD hS => ?_)
  obtain ⟨rfl, e9⟩ := hq
  rw [e9] at hP hD
  refine W.eq (g2 := F0 m 6 ls [.ref (q 3)]) rfl ?_
  refine lv_astore (lv' := [(5, .ref (q 3)), (0, .ref (q 0)), (1, .int (iv (0))), (2, .int (iv (0))), (3, .long (jv ((v : Int))))]) hx hb dX2_set_6 hl (by decide) rfl (fun ls hl => ?_)
  refine lv_aload hx hb dX2_set_8 (lv_at hl 0 rfl) ?_
  refine lv_ifnonnull (tgt := 15) hx hb dX2_set_10 (by decide) ?_
  refine lv_iload_n hx hb dX2_set_15 rfl (lv_at hl 3 rfl) ?_
  refine lv_iconst (v := iv (1)) hx hb dX2_set_16 (by decide) ?_
  refine iw_icmp_ne (tgt := 29) hx hb dX2_set_17 (by decide) ⟨by omega, by omega⟩ ⟨by omega, by omega⟩ (fun c1 => ?_) (fun c1 => ?_)
  ·
    refine lv_aload hx hb dX2_set_29 (lv_at hl 0 rfl) ?_
    refine lv_lload_n hx hb dX2_set_31 rfl (lv_at hl 4 rfl) ?_
    refine ef_callV (As := [.long (jv ((v : Int)))]) (rest := []) ⟨hx, hb, hml, hown, hts⟩ (c_become l dC dI ht (isW_c (X := A1) (ws := cC cI q (A1) (U1) (b1) (e1) (A2) (U2) (b2) (e2) (L) (R)) (k0 := 3) (k1 := 4) (by decide) rfl rfl) (by omega) (wd_lt _) wd_z v hv) (cwV 1 hts gX2_set_X1_become rfl rfl rfl (by decide +kernel) ⟨Nat.le_of_ble_eq_true rfl, Nat.le_of_ble_eq_true rfl⟩) hK hNX hP hD hS 3 rfl rfl rfl rfl hl.1 rfl (Nat.le_of_ble_eq_true rfl) dX2_set_32 ⟨Nat.zero_le _, Nat.zero_le _⟩ (fun o w1 H locs hq hP hD hS => ?_)
    obtain ⟨rfl, rfl⟩ := hq
    have hP : va_P (dC, dI) vwCl (cC cI q (v) (U1) (b1) (e1) (A2) (U2) (b2) (e2) (L) (R)) H := hP
    have hD : va_D (ef_A (cC cI q (A1) (U1) (b1) (e1) (A2) (U2) (b2) (e2) (L) (R))) (cC cI q (v) (U1) (b1) (e1) (A2) (U2) (b2) (e2) (L) (R)) := hD
    refine W.eq (g2 := F0 m 35 ls []) rfl ?_
    have hwv : wl v ≤ 2 := wl_le (by show v < 2 ^ (32 * 2); omega)
    refine lv_aload hx hb dX2_set_35 (lv_at hl 0 rfl) ?_
    refine ef_callV (As := []) (rest := []) ⟨hx, hb, hml, hown, hts⟩ (c_length l dC dI ht (isW_c (X := v) (ws := cC cI q (v) (U1) (b1) (e1) (A2) (U2) (b2) (e2) (L) (R)) (k0 := 3) (k1 := 4) (by decide) rfl rfl) (by omega)) (cwV 0 hts gX2_set_X1_length rfl rfl rfl (by decide +kernel) ⟨Nat.le_of_ble_eq_true rfl, Nat.le_of_ble_eq_true rfl⟩) hK hNX hP hD hS 3 rfl rfl rfl rfl hl.1 rfl (Nat.le_of_ble_eq_true rfl) dX2_set_37 ⟨Nat.zero_le _, Nat.zero_le _⟩ (fun o w1 H locs hq hP hD hS => ?_)
    obtain ⟨rfl, e9⟩ := hq
    rw [e9] at hP hD
    refine W.eq (g2 := F0 m 40 ls [.int (iv ((bl v : Int)))]) rfl ?_
    exact ef_iret hx hb hr hlocks hP hD hS dX2_set_40 (⟨_, _, rfl, rfl, hL, hR⟩)
  ·
    exact absurd c1 (by decide)

set_option maxRecDepth 100000 in
set_option maxHeartbeats 4000000 in
/-- set -/
theorem c_set01 (l : Launch) (dC : Nat → ClassId) (dI : Nat → Nat → Nat) {cI : ClassId} {tys : List (ClassId × FieldType)} (ht : tys[0]? = some (cI, .int)) (q : Nat → Nat) {A1 U1 A2 U2 L R : Nat} {b1 e1 b2 e2 : Int} (hA1 : wl A1 ≤ 150) (hU1 : wl U1 ≤ 150) (hA2 : wl A2 ≤ 150) (hU2 : wl U2 ≤ 150) (hL : wl L ≤ 301) (hR : wl R ≤ 301) (v : Nat) (hv : v < 18446744073709551616) (hv0 : v ≠ 0) : ef_C l yX2_set wsX2_set ({ frames := 3, cells := 0, slots := 0, locals := 67 } : Room) [.ref (q 0), .int (iv (0)), .int (iv (1)), .long (jv ((v : Int)))] (dC, dI) vwCl tys (cC cI q (A1) (U1) (b1) (e1) (A2) (U2) (b2) (e2) (L) (R)) (fun o w1 => ∃ L2 R2 : Nat, o = some (.int (iv (bl v : Int))) ∧ w1 = cC cI q (A1) (v) (b1) (e1) (A2) (U2) (b2) (e2) (L2) (R2) ∧ wl L2 ≤ 301 ∧ wl R2 ≤ 301) := by
  refine ef_C.of (cc := cX2_set) (maxL := 6) (ret := (some .int)) (by decide) rfl (Nat.le_of_ble_eq_true rfl) ?_
  intro p e s m below meth c ls hx hb hml hr hts hown hlocks hK hNX hP hD hS hl
  have hl : lv_has ls 6 [(0, .ref (q 0)), (1, .int (iv (0))), (2, .int (iv (1))), (3, .long (jv ((v : Int))))] := hl
  have hown : s.vm.findClass RX2 = some m.cls := hown
  generalize hH : s.heap = H at hP ⊢
  have hS : va_S (ef_A (cC cI q (A1) (U1) (b1) (e1) (A2) (U2) (b2) (e2) (L) (R))) s.heap H [] := by rw [← hH]; exact hS
  generalize ([] : List Loc) = locs at hS ⊢
  refine lv_aload_n hx hb dX2_set_0 rfl (lv_at hl 0 rfl) ?_
  refine lv_iload_n hx hb dX2_set_1 rfl (lv_at hl 1 rfl) ?_
  refine lv_iload_n hx hb dX2_set_2 rfl (lv_at hl 2 rfl) ?_
  refine ef_callV (As := [.int (iv (0)), .int (iv (1))]) (rest := []) ⟨hx, hb, hml, hown, hts⟩ (c_partOf01 l dC dI ht q) (cwV 2 hts gX2_set_X2_partOf rfl rfl rfl (by decide +kernel) ⟨Nat.le_of_ble_eq_true rfl, Nat.le_of_ble_eq_true rfl⟩) hK hNX hP hD hS 0 rfl rfl rfl rfl hl.1 rfl (Nat.le_of_ble_eq_true rfl) dX2_set_3 ⟨Nat.zero_le _, Nat.zero_le _⟩ (fun o w1 H locs hq hP hD hS => ?_)
  obtain ⟨rfl, e9⟩ := hq
  rw [e9] at hP hD
  refine W.eq (g2 := F0 m 6 ls [.ref (q 5)]) rfl ?_
  refine lv_astore (lv' := [(5, .ref (q 5)), (0, .ref (q 0)), (1, .int (iv (0))), (2, .int (iv (1))), (3, .long (jv ((v : Int))))]) hx hb dX2_set_6 hl (by decide) rfl (fun ls hl => ?_)
  refine lv_aload hx hb dX2_set_8 (lv_at hl 0 rfl) ?_
  refine lv_ifnonnull (tgt := 15) hx hb dX2_set_10 (by decide) ?_
  refine lv_iload_n hx hb dX2_set_15 rfl (lv_at hl 3 rfl) ?_
  refine lv_iconst (v := iv (1)) hx hb dX2_set_16 (by decide) ?_
  refine iw_icmp_ne (tgt := 29) hx hb dX2_set_17 (by decide) ⟨by omega, by omega⟩ ⟨by omega, by omega⟩ (fun c1 => ?_) (fun c1 => ?_)
  ·
    exact absurd rfl c1
  ·
    refine lv_lload_n hx hb dX2_set_20 rfl (lv_at hl 4 rfl) ?_
    refine lv_lconst (v := jv (0)) hx hb dX2_set_21 (by decide) ?_
    refine W.lcmp hx hb dX2_set_22 ?_
    have hne : ¬ lg_cmp (jv (v : Int)) (jv 0) = 0 := lcmp_ne (jv_ne0 hv hv0)
    refine lv_if_ne (tgt := 29) hx hb dX2_set_23 (by decide) (fun c2 => ?_) (fun c2 => ?_)
    ·
      refine lv_aload hx hb dX2_set_29 (lv_at hl 0 rfl) ?_
      refine lv_lload_n hx hb dX2_set_31 rfl (lv_at hl 4 rfl) ?_
      refine ef_callV (As := [.long (jv ((v : Int)))]) (rest := []) ⟨hx, hb, hml, hown, hts⟩ (c_become l dC dI ht (isW_c (X := U1) (ws := cC cI q (A1) (U1) (b1) (e1) (A2) (U2) (b2) (e2) (L) (R)) (k0 := 5) (k1 := 6) (by decide) rfl rfl) (by omega) (wd_lt _) wd_z v hv) (cwV 1 hts gX2_set_X1_become rfl rfl rfl (by decide +kernel) ⟨Nat.le_of_ble_eq_true rfl, Nat.le_of_ble_eq_true rfl⟩) hK hNX hP hD hS 5 rfl rfl rfl rfl hl.1 rfl (Nat.le_of_ble_eq_true rfl) dX2_set_32 ⟨Nat.zero_le _, Nat.zero_le _⟩ (fun o w1 H locs hq hP hD hS => ?_)
      obtain ⟨rfl, rfl⟩ := hq
      have hP : va_P (dC, dI) vwCl (cC cI q (A1) (v) (b1) (e1) (A2) (U2) (b2) (e2) (L) (R)) H := hP
      have hD : va_D (ef_A (cC cI q (A1) (U1) (b1) (e1) (A2) (U2) (b2) (e2) (L) (R))) (cC cI q (A1) (v) (b1) (e1) (A2) (U2) (b2) (e2) (L) (R)) := hD
      refine W.eq (g2 := F0 m 35 ls []) rfl ?_
      have hwv : wl v ≤ 2 := wl_le (by show v < 2 ^ (32 * 2); omega)
      refine lv_aload hx hb dX2_set_35 (lv_at hl 0 rfl) ?_
      refine ef_callV (As := []) (rest := []) ⟨hx, hb, hml, hown, hts⟩ (c_length l dC dI ht (isW_c (X := v) (ws := cC cI q (A1) (v) (b1) (e1) (A2) (U2) (b2) (e2) (L) (R)) (k0 := 5) (k1 := 6) (by decide) rfl rfl) (by omega)) (cwV 0 hts gX2_set_X1_length rfl rfl rfl (by decide +kernel) ⟨Nat.le_of_ble_eq_true rfl, Nat.le_of_ble_eq_true rfl⟩) hK hNX hP hD hS 5 rfl rfl rfl rfl hl.1 rfl (Nat.le_of_ble_eq_true rfl) dX2_set_37 ⟨Nat.zero_le _, Nat.zero_le _⟩ (fun o w1 H locs hq hP hD hS => ?_)
      obtain ⟨rfl, e9⟩ := hq
      rw [e9] at hP hD
      refine W.eq (g2 := F0 m 40 ls [.int (iv ((bl v : Int)))]) rfl ?_
      exact ef_iret hx hb hr hlocks hP hD hS dX2_set_40 (⟨_, _, rfl, rfl, hL, hR⟩)
    ·
      exact absurd c2 hne

set_option maxRecDepth 100000 in
set_option maxHeartbeats 4000000 in
/-- set -/
theorem c_set10 (l : Launch) (dC : Nat → ClassId) (dI : Nat → Nat → Nat) {cI : ClassId} {tys : List (ClassId × FieldType)} (ht : tys[0]? = some (cI, .int)) (q : Nat → Nat) {A1 U1 A2 U2 L R : Nat} {b1 e1 b2 e2 : Int} (hA1 : wl A1 ≤ 150) (hU1 : wl U1 ≤ 150) (hA2 : wl A2 ≤ 150) (hU2 : wl U2 ≤ 150) (hL : wl L ≤ 301) (hR : wl R ≤ 301) (v : Nat) (hv : v < 18446744073709551616) : ef_C l yX2_set wsX2_set ({ frames := 3, cells := 0, slots := 0, locals := 67 } : Room) [.ref (q 0), .int (iv (1)), .int (iv (0)), .long (jv ((v : Int)))] (dC, dI) vwCl tys (cC cI q (A1) (U1) (b1) (e1) (A2) (U2) (b2) (e2) (L) (R)) (fun o w1 => ∃ L2 R2 : Nat, o = some (.int (iv (bl v : Int))) ∧ w1 = cC cI q (A1) (U1) (b1) (e1) (v) (U2) (b2) (e2) (L2) (R2) ∧ wl L2 ≤ 301 ∧ wl R2 ≤ 301) := by
  refine ef_C.of (cc := cX2_set) (maxL := 6) (ret := (some .int)) (by decide) rfl (Nat.le_of_ble_eq_true rfl) ?_
  intro p e s m below meth c ls hx hb hml hr hts hown hlocks hK hNX hP hD hS hl
  have hl : lv_has ls 6 [(0, .ref (q 0)), (1, .int (iv (1))), (2, .int (iv (0))), (3, .long (jv ((v : Int))))] := hl
  have hown : s.vm.findClass RX2 = some m.cls := hown
  generalize hH : s.heap = H at hP ⊢
  have hS : va_S (ef_A (cC cI q (A1) (U1) (b1) (e1) (A2) (U2) (b2) (e2) (L) (R))) s.heap H [] := by rw [← hH]; exact hS
  generalize ([] : List Loc) = locs at hS ⊢
  refine lv_aload_n hx hb dX2_set_0 rfl (lv_at hl 0 rfl) ?_
  refine lv_iload_n hx hb dX2_set_1 rfl (lv_at hl 1 rfl) ?_
  refine lv_iload_n hx hb dX2_set_2 rfl (lv_at hl 2 rfl) ?_
  refine ef_callV (As := [.int (iv (1)), .int (iv (0))]) (rest := []) ⟨hx, hb, hml, hown, hts⟩ (c_partOf10 l dC dI ht q) (cwV 2 hts gX2_set_X2_partOf rfl rfl rfl (by decide +kernel) ⟨Nat.le_of_ble_eq_true rfl, Nat.le_of_ble_eq_true rfl⟩) hK hNX hP hD hS 0 rfl rfl rfl rfl hl.1 rfl (Nat.le_of_ble_eq_true rfl) dX2_set_3 ⟨Nat.zero_le _, Nat.zero_le _⟩ (fun o w1 H locs hq hP hD hS => ?_)
  obtain ⟨rfl, e9⟩ := hq
  rw [e9] at hP hD
  refine W.eq (g2 := F0 m 6 ls [.ref (q 7)]) rfl ?_
  refine lv_astore (lv' := [(5, .ref (q 7)), (0, .ref (q 0)), (1, .int (iv (1))), (2, .int (iv (0))), (3, .long (jv ((v : Int))))]) hx hb dX2_set_6 hl (by decide) rfl (fun ls hl => ?_)
  refine lv_aload hx hb dX2_set_8 (lv_at hl 0 rfl) ?_
  refine lv_ifnonnull (tgt := 15) hx hb dX2_set_10 (by decide) ?_
  refine lv_iload_n hx hb dX2_set_15 rfl (lv_at hl 3 rfl) ?_
  refine lv_iconst (v := iv (1)) hx hb dX2_set_16 (by decide) ?_
  refine iw_icmp_ne (tgt := 29) hx hb dX2_set_17 (by decide) ⟨by omega, by omega⟩ ⟨by omega, by omega⟩ (fun c1 => ?_) (fun c1 => ?_)
  ·
    refine lv_aload hx hb dX2_set_29 (lv_at hl 0 rfl) ?_
    refine lv_lload_n hx hb dX2_set_31 rfl (lv_at hl 4 rfl) ?_
    refine ef_callV (As := [.long (jv ((v : Int)))]) (rest := []) ⟨hx, hb, hml, hown, hts⟩ (c_become l dC dI ht (isW_c (X := A2) (ws := cC cI q (A1) (U1) (b1) (e1) (A2) (U2) (b2) (e2) (L) (R)) (k0 := 7) (k1 := 8) (by decide) rfl rfl) (by omega) (wd_lt _) wd_z v hv) (cwV 1 hts gX2_set_X1_become rfl rfl rfl (by decide +kernel) ⟨Nat.le_of_ble_eq_true rfl, Nat.le_of_ble_eq_true rfl⟩) hK hNX hP hD hS 7 rfl rfl rfl rfl hl.1 rfl (Nat.le_of_ble_eq_true rfl) dX2_set_32 ⟨Nat.zero_le _, Nat.zero_le _⟩ (fun o w1 H locs hq hP hD hS => ?_)
    obtain ⟨rfl, rfl⟩ := hq
    have hP : va_P (dC, dI) vwCl (cC cI q (A1) (U1) (b1) (e1) (v) (U2) (b2) (e2) (L) (R)) H := hP
    have hD : va_D (ef_A (cC cI q (A1) (U1) (b1) (e1) (A2) (U2) (b2) (e2) (L) (R))) (cC cI q (A1) (U1) (b1) (e1) (v) (U2) (b2) (e2) (L) (R)) := hD
    refine W.eq (g2 := F0 m 35 ls []) rfl ?_
    have hwv : wl v ≤ 2 := wl_le (by show v < 2 ^ (32 * 2); omega)
    refine lv_aload hx hb dX2_set_35 (lv_at hl 0 rfl) ?_
    refine ef_callV (As := []) (rest := []) ⟨hx, hb, hml, hown, hts⟩ (c_length l dC dI ht (isW_c (X := v) (ws := cC cI q (A1) (U1) (b1) (e1) (v) (U2) (b2) (e2) (L) (R)) (k0 := 7) (k1 := 8) (by decide) rfl rfl) (by omega)) (cwV 0 hts gX2_set_X1_length rfl rfl rfl (by decide +kernel) ⟨Nat.le_of_ble_eq_true rfl, Nat.le_of_ble_eq_true rfl⟩) hK hNX hP hD hS 7 rfl rfl rfl rfl hl.1 rfl (Nat.le_of_ble_eq_true rfl) dX2_set_37 ⟨Nat.zero_le _, Nat.zero_le _⟩ (fun o w1 H locs hq hP hD hS => ?_)
    obtain ⟨rfl, e9⟩ := hq
    rw [e9] at hP hD
    refine W.eq (g2 := F0 m 40 ls [.int (iv ((bl v : Int)))]) rfl ?_
    exact ef_iret hx hb hr hlocks hP hD hS dX2_set_40 (⟨_, _, rfl, rfl, hL, hR⟩)
  ·
    exact absurd c1 (by decide)

set_option maxRecDepth 100000 in
set_option maxHeartbeats 4000000 in
/-- set -/
theorem c_set11 (l : Launch) (dC : Nat → ClassId) (dI : Nat → Nat → Nat) {cI : ClassId} {tys : List (ClassId × FieldType)} (ht : tys[0]? = some (cI, .int)) (q : Nat → Nat) {A1 U1 A2 U2 L R : Nat} {b1 e1 b2 e2 : Int} (hA1 : wl A1 ≤ 150) (hU1 : wl U1 ≤ 150) (hA2 : wl A2 ≤ 150) (hU2 : wl U2 ≤ 150) (hL : wl L ≤ 301) (hR : wl R ≤ 301) (v : Nat) (hv : v < 18446744073709551616) (hv0 : v ≠ 0) : ef_C l yX2_set wsX2_set ({ frames := 3, cells := 0, slots := 0, locals := 67 } : Room) [.ref (q 0), .int (iv (1)), .int (iv (1)), .long (jv ((v : Int)))] (dC, dI) vwCl tys (cC cI q (A1) (U1) (b1) (e1) (A2) (U2) (b2) (e2) (L) (R)) (fun o w1 => ∃ L2 R2 : Nat, o = some (.int (iv (bl v : Int))) ∧ w1 = cC cI q (A1) (U1) (b1) (e1) (A2) (v) (b2) (e2) (L2) (R2) ∧ wl L2 ≤ 301 ∧ wl R2 ≤ 301) := by
  refine ef_C.of (cc := cX2_set) (maxL := 6) (ret := (some .int)) (by decide) rfl (Nat.le_of_ble_eq_true rfl) ?_
  intro p e s m below meth c ls hx hb hml hr hts hown hlocks hK hNX hP hD hS hl
  have hl : lv_has ls 6 [(0, .ref (q 0)), (1, .int (iv (1))), (2, .int (iv (1))), (3, .long (jv ((v : Int))))] := hl
  have hown : s.vm.findClass RX2 = some m.cls := hown
  generalize hH : s.heap = H at hP ⊢
  have hS : va_S (ef_A (cC cI q (A1) (U1) (b1) (e1) (A2) (U2) (b2) (e2) (L) (R))) s.heap H [] := by rw [← hH]; exact hS
  generalize ([] : List Loc) = locs at hS ⊢
  refine lv_aload_n hx hb dX2_set_0 rfl (lv_at hl 0 rfl) ?_
  refine lv_iload_n hx hb dX2_set_1 rfl (lv_at hl 1 rfl) ?_
  refine lv_iload_n hx hb dX2_set_2 rfl (lv_at hl 2 rfl) ?_
  refine ef_callV (As := [.int (iv (1)), .int (iv (1))]) (rest := []) ⟨hx, hb, hml, hown, hts⟩ (c_partOf11 l dC dI ht q) (cwV 2 hts gX2_set_X2_partOf rfl rfl rfl (by decide +kernel) ⟨Nat.le_of_ble_eq_true rfl, Nat.le_of_ble_eq_true rfl⟩) hK hNX hP hD hS 0 rfl rfl rfl rfl hl.1 rfl (Nat.le_of_ble_eq_true rfl) dX2_set_3 ⟨Nat.zero_le _, Nat.zero_le _⟩ (fun o w1 H locs hq hP hD hS => ?_)
  obtain ⟨rfl, e9⟩ := hq
  rw [e9] at hP hD
  refine W.eq (g2 := F0 m 6 ls [.ref (q 9)]) rfl ?_
  refine lv_astore (lv' := [(5, .ref (q 9)), (0, .ref (q 0)), (1, .int (iv (1))), (2, .int (iv (1))), (3, .long (jv ((v : Int))))]) hx hb dX2_set_6 hl (by decide) rfl (fun ls hl => ?_)
  refine lv_aload hx hb dX2_set_8 (lv_at hl 0 rfl) ?_
  refine lv_ifnonnull (tgt := 15) hx hb dX2_set_10 (by decide) ?_
  refine lv_iload_n hx hb dX2_set_15 rfl (lv_at hl 3 rfl) ?_
  refine lv_iconst (v := iv (1)) hx hb dX2_set_16 (by decide) ?_
  refine iw_icmp_ne (tgt := 29) hx hb dX2_set_17 (by decide) ⟨by omega, by omega⟩ ⟨by omega, by omega⟩ (fun c1 => ?_) (fun c1 => ?_)
  ·
    exact absurd rfl c1
  ·
    refine lv_lload_n hx hb dX2_set_20 rfl (lv_at hl 4 rfl) ?_
    refine lv_lconst (v := jv (0)) hx hb dX2_set_21 (by decide) ?_
    refine W.lcmp hx hb dX2_set_22 ?_
    have hne : ¬ lg_cmp (jv (v : Int)) (jv 0) = 0 := lcmp_ne (jv_ne0 hv hv0)
    refine lv_if_ne (tgt := 29) hx hb dX2_set_23 (by decide) (fun c2 => ?_) (fun c2 => ?_)
    ·
      refine lv_aload hx hb dX2_set_29 (lv_at hl 0 rfl) ?_
      refine lv_lload_n hx hb dX2_set_31 rfl (lv_at hl 4 rfl) ?_
      refine ef_callV (As := [.long (jv ((v : Int)))]) (rest := []) ⟨hx, hb, hml, hown, hts⟩ (c_become l dC dI ht (isW_c (X := U2) (ws := cC cI q (A1) (U1) (b1) (e1) (A2) (U2) (b2) (e2) (L) (R)) (k0 := 9) (k1 := 10) (by decide) rfl rfl) (by omega) (wd_lt _) wd_z v hv) (cwV 1 hts gX2_set_X1_become rfl rfl rfl (by decide +kernel) ⟨Nat.le_of_ble_eq_true rfl, Nat.le_of_ble_eq_true rfl⟩) hK hNX hP hD hS 9 rfl rfl rfl rfl hl.1 rfl (Nat.le_of_ble_eq_true rfl) dX2_set_32 ⟨Nat.zero_le _, Nat.zero_le _⟩ (fun o w1 H locs hq hP hD hS => ?_)
      obtain ⟨rfl, rfl⟩ := hq
      have hP : va_P (dC, dI) vwCl (cC cI q (A1) (U1) (b1) (e1) (A2) (v) (b2) (e2) (L) (R)) H := hP
      have hD : va_D (ef_A (cC cI q (A1) (U1) (b1) (e1) (A2) (U2) (b2) (e2) (L) (R))) (cC cI q (A1) (U1) (b1) (e1) (A2) (v) (b2) (e2) (L) (R)) := hD
      refine W.eq (g2 := F0 m 35 ls []) rfl ?_
      have hwv : wl v ≤ 2 := wl_le (by show v < 2 ^ (32 * 2); omega)
      refine lv_aload hx hb dX2_set_35 (lv_at hl 0 rfl) ?_
      refine ef_callV (As := []) (rest := []) ⟨hx, hb, hml, hown, hts⟩ (c_length l dC dI ht (isW_c (X := v) (ws := cC cI q (A1) (U1) (b1) (e1) (A2) (v) (b2) (e2) (L) (R)) (k0 := 9) (k1 := 10) (by decide) rfl rfl) (by omega)) (cwV 0 hts gX2_set_X1_length rfl rfl rfl (by decide +kernel) ⟨Nat.le_of_ble_eq_true rfl, Nat.le_of_ble_eq_true rfl⟩) hK hNX hP hD hS 9 rfl rfl rfl rfl hl.1 rfl (Nat.le_of_ble_eq_true rfl) dX2_set_37 ⟨Nat.zero_le _, Nat.zero_le _⟩ (fun o w1 H locs hq hP hD hS => ?_)
      obtain ⟨rfl, e9⟩ := hq
      rw [e9] at hP hD
      refine W.eq (g2 := F0 m 40 ls [.int (iv ((bl v : Int)))]) rfl ?_
      exact ef_iret hx hb hr hlocks hP hD hS dX2_set_40 (⟨_, _, rfl, rfl, hL, hR⟩)
    ·
      exact absurd c2 hne

set_option maxRecDepth 100000 in
set_option maxHeartbeats 4000000 in
/-- set of 0 under -/
theorem c_set0Z (l : Launch) (dC : Nat → ClassId) (dI : Nat → Nat → Nat) {cI : ClassId} {tys : List (ClassId × FieldType)} (ht : tys[0]? = some (cI, .int)) (q : Nat → Nat) {A1 U1 A2 U2 L R : Nat} {b1 e1 b2 e2 : Int} (hA1 : wl A1 ≤ 150) (hU1 : wl U1 ≤ 150) (hA2 : wl A2 ≤ 150) (hU2 : wl U2 ≤ 150) (hL : wl L ≤ 301) (hR : wl R ≤ 301) : ef_C l yX2_set wsX2_set ({ frames := 3, cells := 0, slots := 0, locals := 67 } : Room) [.ref (q 0), .int (iv (0)), .int (iv (1)), .long (jv (0))] (dC, dI) vwCl tys (cC cI q (A1) (U1) (b1) (e1) (A2) (U2) (b2) (e2) (L) (R)) (fun o w1 => ∃ L2 R2 : Nat, o = some (.int (iv (-3))) ∧ w1 = cC cI q (A1) (U1) (b1) (e1) (A2) (U2) (b2) (e2) (L2) (R2) ∧ wl L2 ≤ 301 ∧ wl R2 ≤ 301) := by
  refine ef_C.of (cc := cX2_set) (maxL := 6) (ret := (some .int)) (by decide) rfl (Nat.le_of_ble_eq_true rfl) ?_
  intro p e s m below meth c ls hx hb hml hr hts hown hlocks hK hNX hP hD hS hl
  have hl : lv_has ls 6 [(0, .ref (q 0)), (1, .int (iv (0))), (2, .int (iv (1))), (3, .long (jv (0)))] := hl
  have hown : s.vm.findClass RX2 = some m.cls := hown
  generalize hH : s.heap = H at hP ⊢
  have hS : va_S (ef_A (cC cI q (A1) (U1) (b1) (e1) (A2) (U2) (b2) (e2) (L) (R))) s.heap H [] := by rw [← hH]; exact hS
  generalize ([] : List Loc) = locs at hS ⊢
  refine lv_aload_n hx hb dX2_set_0 rfl (lv_at hl 0 rfl) ?_
  refine lv_iload_n hx hb dX2_set_1 rfl (lv_at hl 1 rfl) ?_
  refine lv_iload_n hx hb dX2_set_2 rfl (lv_at hl 2 rfl) ?_
  refine ef_callV (As := [.int (iv (0)), .int (iv (1))]) (rest := []) ⟨hx, hb, hml, hown, hts⟩ (c_partOf01 l dC dI ht q) (cwV 2 hts gX2_set_X2_partOf rfl rfl rfl (by decide +kernel) ⟨Nat.le_of_ble_eq_true rfl, Nat.le_of_ble_eq_true rfl⟩) hK hNX hP hD hS 0 rfl rfl rfl rfl hl.1 rfl (Nat.le_of_ble_eq_true rfl) dX2_set_3 ⟨Nat.zero_le _, Nat.zero_le _⟩ (fun o w1 H locs hq hP hD hS => ?_)
  obtain ⟨rfl, e9⟩ := hq
  rw [e9] at hP hD
  refine W.eq (g2 := F0 m 6 ls [.ref (q 5)]) rfl ?_
  refine lv_astore (lv' := [(5, .ref (q 5)), (0, .ref (q 0)), (1, .int (iv (0))), (2, .int (iv (1))), (3, .long (jv (0)))]) hx hb dX2_set_6 hl (by decide) rfl (fun ls hl => ?_)
  refine lv_aload hx hb dX2_set_8 (lv_at hl 0 rfl) ?_
  refine lv_ifnonnull (tgt := 15) hx hb dX2_set_10 (by decide) ?_
  refine lv_iload_n hx hb dX2_set_15 rfl (lv_at hl 3 rfl) ?_
  refine lv_iconst (v := iv (1)) hx hb dX2_set_16 (by decide) ?_
  refine iw_icmp_ne (tgt := 29) hx hb dX2_set_17 (by decide) ⟨by omega, by omega⟩ ⟨by omega, by omega⟩ (fun c1 => ?_) (fun c1 => ?_)
  ·
    exact absurd rfl c1
  ·
    refine lv_lload_n hx hb dX2_set_20 rfl (lv_at hl 4 rfl) ?_
    refine lv_lconst (v := jv (0)) hx hb dX2_set_21 (by decide) ?_
    refine iw_lcmp hx hb (⟨by omega, by omega⟩) (⟨by omega, by omega⟩) dX2_set_22 ?_
    refine iw_if_ne (tgt := 29) hx hb dX2_set_23 (by decide) (ir_zc _ _) (fun c2 => ?_) (fun c2 => ?_)
    ·
      exact absurd (zc_eq 0) c2
    ·
      refine lv_bipush (v := iv (-3)) hx hb dX2_set_26 (by decide) ?_
      exact ef_iret hx hb hr hlocks hP hD hS dX2_set_28 (⟨_, _, rfl, rfl, hL, hR⟩)

set_option maxRecDepth 100000 in
set_option maxHeartbeats 4000000 in
/-- set of 0 under -/
theorem c_set1Z (l : Launch) (dC : Nat → ClassId) (dI : Nat → Nat → Nat) {cI : ClassId} {tys : List (ClassId × FieldType)} (ht : tys[0]? = some (cI, .int)) (q : Nat → Nat) {A1 U1 A2 U2 L R : Nat} {b1 e1 b2 e2 : Int} (hA1 : wl A1 ≤ 150) (hU1 : wl U1 ≤ 150) (hA2 : wl A2 ≤ 150) (hU2 : wl U2 ≤ 150) (hL : wl L ≤ 301) (hR : wl R ≤ 301) : ef_C l yX2_set wsX2_set ({ frames := 3, cells := 0, slots := 0, locals := 67 } : Room) [.ref (q 0), .int (iv (1)), .int (iv (1)), .long (jv (0))] (dC, dI) vwCl tys (cC cI q (A1) (U1) (b1) (e1) (A2) (U2) (b2) (e2) (L) (R)) (fun o w1 => ∃ L2 R2 : Nat, o = some (.int (iv (-3))) ∧ w1 = cC cI q (A1) (U1) (b1) (e1) (A2) (U2) (b2) (e2) (L2) (R2) ∧ wl L2 ≤ 301 ∧ wl R2 ≤ 301) := by
  refine ef_C.of (cc := cX2_set) (maxL := 6) (ret := (some .int)) (by decide) rfl (Nat.le_of_ble_eq_true rfl) ?_
  intro p e s m below meth c ls hx hb hml hr hts hown hlocks hK hNX hP hD hS hl
  have hl : lv_has ls 6 [(0, .ref (q 0)), (1, .int (iv (1))), (2, .int (iv (1))), (3, .long (jv (0)))] := hl
  have hown : s.vm.findClass RX2 = some m.cls := hown
  generalize hH : s.heap = H at hP ⊢
  have hS : va_S (ef_A (cC cI q (A1) (U1) (b1) (e1) (A2) (U2) (b2) (e2) (L) (R))) s.heap H [] := by rw [← hH]; exact hS
  generalize ([] : List Loc) = locs at hS ⊢
  refine lv_aload_n hx hb dX2_set_0 rfl (lv_at hl 0 rfl) ?_
  refine lv_iload_n hx hb dX2_set_1 rfl (lv_at hl 1 rfl) ?_
  refine lv_iload_n hx hb dX2_set_2 rfl (lv_at hl 2 rfl) ?_
  refine ef_callV (As := [.int (iv (1)), .int (iv (1))]) (rest := []) ⟨hx, hb, hml, hown, hts⟩ (c_partOf11 l dC dI ht q) (cwV 2 hts gX2_set_X2_partOf rfl rfl rfl (by decide +kernel) ⟨Nat.le_of_ble_eq_true rfl, Nat.le_of_ble_eq_true rfl⟩) hK hNX hP hD hS 0 rfl rfl rfl rfl hl.1 rfl (Nat.le_of_ble_eq_true rfl) dX2_set_3 ⟨Nat.zero_le _, Nat.zero_le _⟩ (fun o w1 H locs hq hP hD hS => ?_)
  obtain ⟨rfl, e9⟩ := hq
  rw [e9] at hP hD
  refine W.eq (g2 := F0 m 6 ls [.ref (q 9)]) rfl ?_
  refine lv_astore (lv' := [(5, .ref (q 9)), (0, .ref (q 0)), (1, .int (iv (1))), (2, .int (iv (1))), (3, .long (jv (0)))]) hx hb dX2_set_6 hl (by decide) rfl (fun ls hl => ?_)
  refine lv_aload hx hb dX2_set_8 (lv_at hl 0 rfl) ?_
  refine lv_ifnonnull (tgt := 15) hx hb dX2_set_10 (by decide) ?_
  refine lv_iload_n hx hb dX2_set_15 rfl (lv_at hl 3 rfl) ?_
  refine lv_iconst (v := iv (1)) hx hb dX2_set_16 (by decide) ?_
  refine iw_icmp_ne (tgt := 29) hx hb dX2_set_17 (by decide) ⟨by omega, by omega⟩ ⟨by omega, by omega⟩ (fun c1 => ?_) (fun c1 => ?_)
  ·
    exact absurd rfl c1
  ·
    refine lv_lload_n hx hb dX2_set_20 rfl (lv_at hl 4 rfl) ?_
    refine lv_lconst (v := jv (0)) hx hb dX2_set_21 (by decide) ?_
    refine iw_lcmp hx hb (⟨by omega, by omega⟩) (⟨by omega, by omega⟩) dX2_set_22 ?_
    refine iw_if_ne (tgt := 29) hx hb dX2_set_23 (by decide) (ir_zc _ _) (fun c2 => ?_) (fun c2 => ?_)
    ·
      exact absurd (zc_eq 0) c2
    ·
      refine lv_bipush (v := iv (-3)) hx hb dX2_set_26 (by decide) ?_
      exact ef_iret hx hb hr hlocks hP hD hS dX2_set_28 (⟨_, _, rfl, rfl, hL, hR⟩)

set_option maxRecDepth 100000 in
set_option maxHeartbeats 4000000 in
/-- set of no part -/
theorem c_set0x (l : Launch) (dC : Nat → ClassId) (dI : Nat → Nat → Nat) {cI : ClassId} {tys : List (ClassId × FieldType)} (ht : tys[0]? = some (cI, .int)) (q : Nat → Nat) {A1 U1 A2 U2 L R : Nat} {b1 e1 b2 e2 : Int} (hA1 : wl A1 ≤ 150) (hU1 : wl U1 ≤ 150) (hA2 : wl A2 ≤ 150) (hU2 : wl U2 ≤ 150) (hL : wl L ≤ 301) (hR : wl R ≤ 301) (z : Int) (hz : ir z) (hz0 : z ≠ 0) (hz1 : z ≠ 1) (v : Int) : ef_C l yX2_set wsX2_set ({ frames := 3, cells := 0, slots := 0, locals := 67 } : Room) [.ref (q 0), .int (iv (0)), .int (iv (z)), .long (jv (v))] (dC, dI) vwCl tys (cC cI q (A1) (U1) (b1) (e1) (A2) (U2) (b2) (e2) (L) (R)) (fun o w1 => ∃ L2 R2 : Nat, o = some (.int (iv (-1))) ∧ w1 = cC cI q (A1) (U1) (b1) (e1) (A2) (U2) (b2) (e2) (L2) (R2) ∧ wl L2 ≤ 301 ∧ wl R2 ≤ 301) := by
  refine ef_C.of (cc := cX2_set) (maxL := 6) (ret := (some .int)) (by decide) rfl (Nat.le_of_ble_eq_true rfl) ?_
  intro p e s m below meth c ls hx hb hml hr hts hown hlocks hK hNX hP hD hS hl
  have hl : lv_has ls 6 [(0, .ref (q 0)), (1, .int (iv (0))), (2, .int (iv (z))), (3, .long (jv (v)))] := hl
  have hown : s.vm.findClass RX2 = some m.cls := hown
  generalize hH : s.heap = H at hP ⊢
  have hS : va_S (ef_A (cC cI q (A1) (U1) (b1) (e1) (A2) (U2) (b2) (e2) (L) (R))) s.heap H [] := by rw [← hH]; exact hS
  generalize ([] : List Loc) = locs at hS ⊢
  refine lv_aload_n hx hb dX2_set_0 rfl (lv_at hl 0 rfl) ?_
  refine lv_iload_n hx hb dX2_set_1 rfl (lv_at hl 1 rfl) ?_
  refine lv_iload_n hx hb dX2_set_2 rfl (lv_at hl 2 rfl) ?_
  refine ef_callV (As := [.int (iv (0)), .int (iv (z))]) (rest := []) ⟨hx, hb, hml, hown, hts⟩ (c_partOf0x l dC dI ht q z hz hz0 hz1) (cwV 2 hts gX2_set_X2_partOf rfl rfl rfl (by decide +kernel) ⟨Nat.le_of_ble_eq_true rfl, Nat.le_of_ble_eq_true rfl⟩) hK hNX hP hD hS 0 rfl rfl rfl rfl hl.1 rfl (Nat.le_of_ble_eq_true rfl) dX2_set_3 ⟨Nat.zero_le _, Nat.zero_le _⟩ (fun o w1 H locs hq hP hD hS => ?_)
  obtain ⟨rfl, e9⟩ := hq
  rw [e9] at hP hD
  refine W.eq (g2 := F0 m 6 ls [.null]) rfl ?_
  refine lv_astoreN (lv' := [(5, .null), (0, .ref (q 0)), (1, .int (iv (0))), (2, .int (iv (z))), (3, .long (jv (v)))]) hx hb dX2_set_6 hl (by decide) rfl (fun ls hl => ?_)
  refine lv_aloadN hx hb dX2_set_8 (lv_at hl 0 rfl) ?_
  refine lv_ifnonnullN hx hb dX2_set_10 ?_
  refine lv_iconst (v := iv (-1)) hx hb dX2_set_13 (by decide) ?_
  exact ef_iret hx hb hr hlocks hP hD hS dX2_set_14 (⟨_, _, rfl, rfl, hL, hR⟩)

set_option maxRecDepth 100000 in
set_option maxHeartbeats 4000000 in
/-- set of no part -/
theorem c_set1x (l : Launch) (dC : Nat → ClassId) (dI : Nat → Nat → Nat) {cI : ClassId} {tys : List (ClassId × FieldType)} (ht : tys[0]? = some (cI, .int)) (q : Nat → Nat) {A1 U1 A2 U2 L R : Nat} {b1 e1 b2 e2 : Int} (hA1 : wl A1 ≤ 150) (hU1 : wl U1 ≤ 150) (hA2 : wl A2 ≤ 150) (hU2 : wl U2 ≤ 150) (hL : wl L ≤ 301) (hR : wl R ≤ 301) (z : Int) (hz : ir z) (hz0 : z ≠ 0) (hz1 : z ≠ 1) (v : Int) : ef_C l yX2_set wsX2_set ({ frames := 3, cells := 0, slots := 0, locals := 67 } : Room) [.ref (q 0), .int (iv (1)), .int (iv (z)), .long (jv (v))] (dC, dI) vwCl tys (cC cI q (A1) (U1) (b1) (e1) (A2) (U2) (b2) (e2) (L) (R)) (fun o w1 => ∃ L2 R2 : Nat, o = some (.int (iv (-1))) ∧ w1 = cC cI q (A1) (U1) (b1) (e1) (A2) (U2) (b2) (e2) (L2) (R2) ∧ wl L2 ≤ 301 ∧ wl R2 ≤ 301) := by
  refine ef_C.of (cc := cX2_set) (maxL := 6) (ret := (some .int)) (by decide) rfl (Nat.le_of_ble_eq_true rfl) ?_
  intro p e s m below meth c ls hx hb hml hr hts hown hlocks hK hNX hP hD hS hl
  have hl : lv_has ls 6 [(0, .ref (q 0)), (1, .int (iv (1))), (2, .int (iv (z))), (3, .long (jv (v)))] := hl
  have hown : s.vm.findClass RX2 = some m.cls := hown
  generalize hH : s.heap = H at hP ⊢
  have hS : va_S (ef_A (cC cI q (A1) (U1) (b1) (e1) (A2) (U2) (b2) (e2) (L) (R))) s.heap H [] := by rw [← hH]; exact hS
  generalize ([] : List Loc) = locs at hS ⊢
  refine lv_aload_n hx hb dX2_set_0 rfl (lv_at hl 0 rfl) ?_
  refine lv_iload_n hx hb dX2_set_1 rfl (lv_at hl 1 rfl) ?_
  refine lv_iload_n hx hb dX2_set_2 rfl (lv_at hl 2 rfl) ?_
  refine ef_callV (As := [.int (iv (1)), .int (iv (z))]) (rest := []) ⟨hx, hb, hml, hown, hts⟩ (c_partOf1x l dC dI ht q z hz hz0 hz1) (cwV 2 hts gX2_set_X2_partOf rfl rfl rfl (by decide +kernel) ⟨Nat.le_of_ble_eq_true rfl, Nat.le_of_ble_eq_true rfl⟩) hK hNX hP hD hS 0 rfl rfl rfl rfl hl.1 rfl (Nat.le_of_ble_eq_true rfl) dX2_set_3 ⟨Nat.zero_le _, Nat.zero_le _⟩ (fun o w1 H locs hq hP hD hS => ?_)
  obtain ⟨rfl, e9⟩ := hq
  rw [e9] at hP hD
  refine W.eq (g2 := F0 m 6 ls [.null]) rfl ?_
  refine lv_astoreN (lv' := [(5, .null), (0, .ref (q 0)), (1, .int (iv (1))), (2, .int (iv (z))), (3, .long (jv (v)))]) hx hb dX2_set_6 hl (by decide) rfl (fun ls hl => ?_)
  refine lv_aloadN hx hb dX2_set_8 (lv_at hl 0 rfl) ?_
  refine lv_ifnonnullN hx hb dX2_set_10 ?_
  refine lv_iconst (v := iv (-1)) hx hb dX2_set_13 (by decide) ?_
  exact ef_iret hx hb hr hlocks hP hD hS dX2_set_14 (⟨_, _, rfl, rfl, hL, hR⟩)

set_option maxRecDepth 100000 in
set_option maxHeartbeats 4000000 in
/-- set of no part -/
theorem c_setxx (l : Launch) (dC : Nat → ClassId) (dI : Nat → Nat → Nat) {cI : ClassId} {tys : List (ClassId × FieldType)} (ht : tys[0]? = some (cI, .int)) (q : Nat → Nat) {A1 U1 A2 U2 L R : Nat} {b1 e1 b2 e2 : Int} (hA1 : wl A1 ≤ 150) (hU1 : wl U1 ≤ 150) (hA2 : wl A2 ≤ 150) (hU2 : wl U2 ≤ 150) (hL : wl L ≤ 301) (hR : wl R ≤ 301) (z y : Int) (hz : ir z) (hz0 : z ≠ 0) (hz1 : z ≠ 1) (v : Int) : ef_C l yX2_set wsX2_set ({ frames := 3, cells := 0, slots := 0, locals := 67 } : Room) [.ref (q 0), .int (iv (z)), .int (iv (y)), .long (jv (v))] (dC, dI) vwCl tys (cC cI q (A1) (U1) (b1) (e1) (A2) (U2) (b2) (e2) (L) (R)) (fun o w1 => ∃ L2 R2 : Nat, o = some (.int (iv (-1))) ∧ w1 = cC cI q (A1) (U1) (b1) (e1) (A2) (U2) (b2) (e2) (L2) (R2) ∧ wl L2 ≤ 301 ∧ wl R2 ≤ 301) := by
  refine ef_C.of (cc := cX2_set) (maxL := 6) (ret := (some .int)) (by decide) rfl (Nat.le_of_ble_eq_true rfl) ?_
  intro p e s m below meth c ls hx hb hml hr hts hown hlocks hK hNX hP hD hS hl
  have hl : lv_has ls 6 [(0, .ref (q 0)), (1, .int (iv (z))), (2, .int (iv (y))), (3, .long (jv (v)))] := hl
  have hown : s.vm.findClass RX2 = some m.cls := hown
  generalize hH : s.heap = H at hP ⊢
  have hS : va_S (ef_A (cC cI q (A1) (U1) (b1) (e1) (A2) (U2) (b2) (e2) (L) (R))) s.heap H [] := by rw [← hH]; exact hS
  generalize ([] : List Loc) = locs at hS ⊢
  refine lv_aload_n hx hb dX2_set_0 rfl (lv_at hl 0 rfl) ?_
  refine lv_iload_n hx hb dX2_set_1 rfl (lv_at hl 1 rfl) ?_
  refine lv_iload_n hx hb dX2_set_2 rfl (lv_at hl 2 rfl) ?_
  refine ef_callV (As := [.int (iv (z)), .int (iv (y))]) (rest := []) ⟨hx, hb, hml, hown, hts⟩ (c_partOfxx l dC dI ht q z y hz hz0 hz1) (cwV 2 hts gX2_set_X2_partOf rfl rfl rfl (by decide +kernel) ⟨Nat.le_of_ble_eq_true rfl, Nat.le_of_ble_eq_true rfl⟩) hK hNX hP hD hS 0 rfl rfl rfl rfl hl.1 rfl (Nat.le_of_ble_eq_true rfl) dX2_set_3 ⟨Nat.zero_le _, Nat.zero_le _⟩ (fun o w1 H locs hq hP hD hS => ?_)
  obtain ⟨rfl, e9⟩ := hq
  rw [e9] at hP hD
  refine W.eq (g2 := F0 m 6 ls [.null]) rfl ?_
  refine lv_astoreN (lv' := [(5, .null), (0, .ref (q 0)), (1, .int (iv (z))), (2, .int (iv (y))), (3, .long (jv (v)))]) hx hb dX2_set_6 hl (by decide) rfl (fun ls hl => ?_)
  refine lv_aloadN hx hb dX2_set_8 (lv_at hl 0 rfl) ?_
  refine lv_ifnonnullN hx hb dX2_set_10 ?_
  refine lv_iconst (v := iv (-1)) hx hb dX2_set_13 (by decide) ?_
  exact ef_iret hx hb hr hlocks hP hD hS dX2_set_14 (⟨_, _, rfl, rfl, hL, hR⟩)

set_option maxRecDepth 100000 in
set_option maxHeartbeats 4000000 in
/-- scale -/
theorem c_scale0 (l : Launch) (dC : Nat → ClassId) (dI : Nat → Nat → Nat) {cI : ClassId} {tys : List (ClassId × FieldType)} (ht : tys[0]? = some (cI, .int)) (q : Nat → Nat) {A1 U1 A2 U2 L R : Nat} {b1 e1 b2 e2 : Int} (hA1 : wl A1 ≤ 150) (hU1 : wl U1 ≤ 150) (hA2 : wl A2 ≤ 150) (hU2 : wl U2 ≤ 150) (hL : wl L ≤ 301) (hR : wl R ≤ 301) (bb ee : Int) (hbb : bb = 0 ∨ bb = 1) (he1 : -12000 ≤ ee) (he2 : ee ≤ 12000) : ef_C l yX2_scale wsX2_scale ({ frames := 1, cells := 0, slots := 0, locals := 21 } : Room) [.ref (q 0), .int (iv (0)), .int (iv (bb)), .int (iv (ee))] (dC, dI) vwCl tys (cC cI q (A1) (U1) (b1) (e1) (A2) (U2) (b2) (e2) (L) (R)) (fun o w1 => ∃ L2 R2 : Nat, o = some (.int (iv (0))) ∧ w1 = cC cI q (A1) (U1) (bb) (ee) (A2) (U2) (b2) (e2) (L2) (R2) ∧ wl L2 ≤ 301 ∧ wl R2 ≤ 301) := by
  refine ef_C.of (cc := cX2_scale) (maxL := 5) (ret := (some .int)) (by decide) rfl (Nat.le_of_ble_eq_true rfl) ?_
  intro p e s m below meth c ls hx hb hml hr hts hown hlocks hK hNX hP hD hS hl
  have hl : lv_has ls 5 [(0, .ref (q 0)), (1, .int (iv (0))), (2, .int (iv (bb))), (3, .int (iv (ee)))] := hl
  have hown : s.vm.findClass RX2 = some m.cls := hown
  generalize hH : s.heap = H at hP ⊢
  have hS : va_S (ef_A (cC cI q (A1) (U1) (b1) (e1) (A2) (U2) (b2) (e2) (L) (R))) s.heap H [] := by rw [← hH]; exact hS
  generalize ([] : List Loc) = locs at hS ⊢
  refine lv_aload_n hx hb dX2_scale_0 rfl (lv_at hl 0 rfl) ?_
  refine lv_iload_n hx hb dX2_scale_1 rfl (lv_at hl 1 rfl) ?_
  refine ef_callV (As := [.int (iv (0))]) (rest := []) ⟨hx, hb, hml, hown, hts⟩ (c_numberOf0 l dC dI ht q) (cwV 1 hts gX2_scale_X2_numberOf rfl rfl rfl (by decide +kernel) ⟨Nat.le_of_ble_eq_true rfl, Nat.le_of_ble_eq_true rfl⟩) hK hNX hP hD hS 0 rfl rfl rfl rfl hl.1 rfl (Nat.le_of_ble_eq_true rfl) dX2_scale_2 ⟨Nat.zero_le _, Nat.zero_le _⟩ (fun o w1 H locs hq hP hD hS => ?_)
  obtain ⟨rfl, e9⟩ := hq
  rw [e9] at hP hD
  refine W.eq (g2 := F0 m 5 ls [.ref (q 1)]) rfl ?_
  refine lv_astore (lv' := [(4, .ref (q 1)), (0, .ref (q 0)), (1, .int (iv (0))), (2, .int (iv (bb))), (3, .int (iv (ee)))]) hx hb dX2_scale_5 hl (by decide) rfl (fun ls hl => ?_)
  refine lv_aload hx hb dX2_scale_7 (lv_at hl 0 rfl) ?_
  refine lv_ifnull hx hb dX2_scale_9 ?_
  refine lv_iload_n hx hb dX2_scale_12 rfl (lv_at hl 4 rfl) ?_
  refine lv_sipush (v := iv (-12000)) hx hb dX2_scale_13 (by decide) ?_
  refine iw_icmp_lt (tgt := 26) hx hb dX2_scale_16 (by decide) ⟨by omega, by omega⟩ ⟨by omega, by omega⟩ (fun c1 => ?_) (fun c1 => ?_)
  ·
    exact absurd c1 (by omega)
  ·
    refine lv_iload_n hx hb dX2_scale_19 rfl (lv_at hl 4 rfl) ?_
    refine lv_sipush (v := iv (12000)) hx hb dX2_scale_20 (by decide) ?_
    refine iw_icmp_le (tgt := 28) hx hb dX2_scale_23 (by decide) ⟨by omega, by omega⟩ ⟨by omega, by omega⟩ (fun c2 => ?_) (fun c2 => ?_)
    ·
      refine lv_aload hx hb dX2_scale_28 (lv_at hl 0 rfl) ?_
      refine lv_iload_n hx hb dX2_scale_30 rfl (lv_at hl 3 rfl) ?_
      refine va_put (D := (dC, dI)) (ci := 0) (v := .int (iv (bb))) (ty := .boolean) (C := RX0) (T := TX0) (N := 4) hx hb hts (by decide +kernel) tyX0 tyX0_ok nmX0 hown hK hP hD hS 1 rfl rfl 2 (by decide) (hts (.fieldLink RX2 57 "ExactFractions$Fraction" "below" "Z") (by decide +kernel)) (fun _ h9 => h9) rfl (by decide +kernel) (by rcases hbb with h9 | h9 <;> rw [h9] <;> rfl) (by rcases hbb with h9 | h9 <;> rw [h9] <;> rfl) (Nat.le_of_ble_eq_true rfl) dX2_scale_31 (fun H locs hP hD hS => ?_)
      have hP : va_P (dC, dI) vwCl (cC cI q (A1) (U1) (bb) (e1) (A2) (U2) (b2) (e2) (L) (R)) H := hP
      have hD : va_D (ef_A (cC cI q (A1) (U1) (b1) (e1) (A2) (U2) (b2) (e2) (L) (R))) (cC cI q (A1) (U1) (bb) (e1) (A2) (U2) (b2) (e2) (L) (R)) := hD
      refine lv_aload hx hb dX2_scale_34 (lv_at hl 0 rfl) ?_
      refine lv_iload_n hx hb dX2_scale_36 rfl (lv_at hl 4 rfl) ?_
      refine va_put (D := (dC, dI)) (ci := 0) (v := .int (iv (ee))) (ty := .int) (C := RX0) (T := TX0) (N := 4) hx hb hts (by decide +kernel) tyX0 tyX0_ok nmX0 hown hK hP hD hS 1 rfl rfl 3 (by decide) (hts (.fieldLink RX2 61 "ExactFractions$Fraction" "exponent" "I") (by decide +kernel)) (fun _ h9 => h9) rfl (by decide +kernel) rfl rfl (Nat.le_of_ble_eq_true rfl) dX2_scale_37 (fun H locs hP hD hS => ?_)
      have hP : va_P (dC, dI) vwCl (cC cI q (A1) (U1) (bb) (ee) (A2) (U2) (b2) (e2) (L) (R)) H := hP
      have hD : va_D (ef_A (cC cI q (A1) (U1) (b1) (e1) (A2) (U2) (b2) (e2) (L) (R))) (cC cI q (A1) (U1) (bb) (ee) (A2) (U2) (b2) (e2) (L) (R)) := hD
      refine lv_iconst (v := iv (0)) hx hb dX2_scale_40 (by decide) ?_
      exact ef_iret hx hb hr hlocks hP hD hS dX2_scale_41 (⟨_, _, rfl, rfl, hL, hR⟩)
    ·
      exact absurd c2 (by omega)

set_option maxRecDepth 100000 in
set_option maxHeartbeats 4000000 in
/-- scale refused -/
theorem c_scale0B (l : Launch) (dC : Nat → ClassId) (dI : Nat → Nat → Nat) {cI : ClassId} {tys : List (ClassId × FieldType)} (ht : tys[0]? = some (cI, .int)) (q : Nat → Nat) {A1 U1 A2 U2 L R : Nat} {b1 e1 b2 e2 : Int} (hA1 : wl A1 ≤ 150) (hU1 : wl U1 ≤ 150) (hA2 : wl A2 ≤ 150) (hU2 : wl U2 ≤ 150) (hL : wl L ≤ 301) (hR : wl R ≤ 301) (bb ee : Int) (he : ir ee) (hbad : ee < -12000 ∨ 12000 < ee) : ef_C l yX2_scale wsX2_scale ({ frames := 1, cells := 0, slots := 0, locals := 21 } : Room) [.ref (q 0), .int (iv (0)), .int (iv (bb)), .int (iv (ee))] (dC, dI) vwCl tys (cC cI q (A1) (U1) (b1) (e1) (A2) (U2) (b2) (e2) (L) (R)) (fun o w1 => ∃ L2 R2 : Nat, o = some (.int (iv (-1))) ∧ w1 = cC cI q (A1) (U1) (b1) (e1) (A2) (U2) (b2) (e2) (L2) (R2) ∧ wl L2 ≤ 301 ∧ wl R2 ≤ 301) := by
  refine ef_C.of (cc := cX2_scale) (maxL := 5) (ret := (some .int)) (by decide) rfl (Nat.le_of_ble_eq_true rfl) ?_
  intro p e s m below meth c ls hx hb hml hr hts hown hlocks hK hNX hP hD hS hl
  have hl : lv_has ls 5 [(0, .ref (q 0)), (1, .int (iv (0))), (2, .int (iv (bb))), (3, .int (iv (ee)))] := hl
  have hown : s.vm.findClass RX2 = some m.cls := hown
  generalize hH : s.heap = H at hP ⊢
  have hS : va_S (ef_A (cC cI q (A1) (U1) (b1) (e1) (A2) (U2) (b2) (e2) (L) (R))) s.heap H [] := by rw [← hH]; exact hS
  generalize ([] : List Loc) = locs at hS ⊢
  refine lv_aload_n hx hb dX2_scale_0 rfl (lv_at hl 0 rfl) ?_
  refine lv_iload_n hx hb dX2_scale_1 rfl (lv_at hl 1 rfl) ?_
  refine ef_callV (As := [.int (iv (0))]) (rest := []) ⟨hx, hb, hml, hown, hts⟩ (c_numberOf0 l dC dI ht q) (cwV 1 hts gX2_scale_X2_numberOf rfl rfl rfl (by decide +kernel) ⟨Nat.le_of_ble_eq_true rfl, Nat.le_of_ble_eq_true rfl⟩) hK hNX hP hD hS 0 rfl rfl rfl rfl hl.1 rfl (Nat.le_of_ble_eq_true rfl) dX2_scale_2 ⟨Nat.zero_le _, Nat.zero_le _⟩ (fun o w1 H locs hq hP hD hS => ?_)
  obtain ⟨rfl, e9⟩ := hq
  rw [e9] at hP hD
  refine W.eq (g2 := F0 m 5 ls [.ref (q 1)]) rfl ?_
  refine lv_astore (lv' := [(4, .ref (q 1)), (0, .ref (q 0)), (1, .int (iv (0))), (2, .int (iv (bb))), (3, .int (iv (ee)))]) hx hb dX2_scale_5 hl (by decide) rfl (fun ls hl => ?_)
  refine lv_aload hx hb dX2_scale_7 (lv_at hl 0 rfl) ?_
  refine lv_ifnull hx hb dX2_scale_9 ?_
  refine lv_iload_n hx hb dX2_scale_12 rfl (lv_at hl 4 rfl) ?_
  refine lv_sipush (v := iv (-12000)) hx hb dX2_scale_13 (by decide) ?_
  refine iw_icmp_lt (tgt := 26) hx hb dX2_scale_16 (by decide) (he) ⟨by omega, by omega⟩ (fun c1 => ?_) (fun c1 => ?_)
  ·
    refine lv_iconst (v := iv (-1)) hx hb dX2_scale_26 (by decide) ?_
    exact ef_iret hx hb hr hlocks hP hD hS dX2_scale_27 (⟨_, _, rfl, rfl, hL, hR⟩)
  ·
    refine lv_iload_n hx hb dX2_scale_19 rfl (lv_at hl 4 rfl) ?_
    refine lv_sipush (v := iv (12000)) hx hb dX2_scale_20 (by decide) ?_
    refine iw_icmp_le (tgt := 28) hx hb dX2_scale_23 (by decide) (he) ⟨by omega, by omega⟩ (fun c2 => ?_) (fun c2 => ?_)
    ·
      exact absurd hbad (by omega)
    ·
      refine lv_iconst (v := iv (-1)) hx hb dX2_scale_26 (by decide) ?_
      exact ef_iret hx hb hr hlocks hP hD hS dX2_scale_27 (⟨_, _, rfl, rfl, hL, hR⟩)

set_option maxRecDepth 100000 in
set_option maxHeartbeats 4000000 in
/-- scale -/
theorem c_scale1 (l : Launch) (dC : Nat → ClassId) (dI : Nat → Nat → Nat) {cI : ClassId} {tys : List (ClassId × FieldType)} (ht : tys[0]? = some (cI, .int)) (q : Nat → Nat) {A1 U1 A2 U2 L R : Nat} {b1 e1 b2 e2 : Int} (hA1 : wl A1 ≤ 150) (hU1 : wl U1 ≤ 150) (hA2 : wl A2 ≤ 150) (hU2 : wl U2 ≤ 150) (hL : wl L ≤ 301) (hR : wl R ≤ 301) (bb ee : Int) (hbb : bb = 0 ∨ bb = 1) (he1 : -12000 ≤ ee) (he2 : ee ≤ 12000) : ef_C l yX2_scale wsX2_scale ({ frames := 1, cells := 0, slots := 0, locals := 21 } : Room) [.ref (q 0), .int (iv (1)), .int (iv (bb)), .int (iv (ee))] (dC, dI) vwCl tys (cC cI q (A1) (U1) (b1) (e1) (A2) (U2) (b2) (e2) (L) (R)) (fun o w1 => ∃ L2 R2 : Nat, o = some (.int (iv (0))) ∧ w1 = cC cI q (A1) (U1) (b1) (e1) (A2) (U2) (bb) (ee) (L2) (R2) ∧ wl L2 ≤ 301 ∧ wl R2 ≤ 301) := by
  refine ef_C.of (cc := cX2_scale) (maxL := 5) (ret := (some .int)) (by decide) rfl (Nat.le_of_ble_eq_true rfl) ?_
  intro p e s m below meth c ls hx hb hml hr hts hown hlocks hK hNX hP hD hS hl
  have hl : lv_has ls 5 [(0, .ref (q 0)), (1, .int (iv (1))), (2, .int (iv (bb))), (3, .int (iv (ee)))] := hl
  have hown : s.vm.findClass RX2 = some m.cls := hown
  generalize hH : s.heap = H at hP ⊢
  have hS : va_S (ef_A (cC cI q (A1) (U1) (b1) (e1) (A2) (U2) (b2) (e2) (L) (R))) s.heap H [] := by rw [← hH]; exact hS
  generalize ([] : List Loc) = locs at hS ⊢
  refine lv_aload_n hx hb dX2_scale_0 rfl (lv_at hl 0 rfl) ?_
  refine lv_iload_n hx hb dX2_scale_1 rfl (lv_at hl 1 rfl) ?_
  refine ef_callV (As := [.int (iv (1))]) (rest := []) ⟨hx, hb, hml, hown, hts⟩ (c_numberOf1 l dC dI ht q) (cwV 1 hts gX2_scale_X2_numberOf rfl rfl rfl (by decide +kernel) ⟨Nat.le_of_ble_eq_true rfl, Nat.le_of_ble_eq_true rfl⟩) hK hNX hP hD hS 0 rfl rfl rfl rfl hl.1 rfl (Nat.le_of_ble_eq_true rfl) dX2_scale_2 ⟨Nat.zero_le _, Nat.zero_le _⟩ (fun o w1 H locs hq hP hD hS => ?_)
  obtain ⟨rfl, e9⟩ := hq
  rw [e9] at hP hD
  refine W.eq (g2 := F0 m 5 ls [.ref (q 2)]) rfl ?_
  refine lv_astore (lv' := [(4, .ref (q 2)), (0, .ref (q 0)), (1, .int (iv (1))), (2, .int (iv (bb))), (3, .int (iv (ee)))]) hx hb dX2_scale_5 hl (by decide) rfl (fun ls hl => ?_)
  refine lv_aload hx hb dX2_scale_7 (lv_at hl 0 rfl) ?_
  refine lv_ifnull hx hb dX2_scale_9 ?_
  refine lv_iload_n hx hb dX2_scale_12 rfl (lv_at hl 4 rfl) ?_
  refine lv_sipush (v := iv (-12000)) hx hb dX2_scale_13 (by decide) ?_
  refine iw_icmp_lt (tgt := 26) hx hb dX2_scale_16 (by decide) ⟨by omega, by omega⟩ ⟨by omega, by omega⟩ (fun c1 => ?_) (fun c1 => ?_)
  ·
    exact absurd c1 (by omega)
  ·
    refine lv_iload_n hx hb dX2_scale_19 rfl (lv_at hl 4 rfl) ?_
    refine lv_sipush (v := iv (12000)) hx hb dX2_scale_20 (by decide) ?_
    refine iw_icmp_le (tgt := 28) hx hb dX2_scale_23 (by decide) ⟨by omega, by omega⟩ ⟨by omega, by omega⟩ (fun c2 => ?_) (fun c2 => ?_)
    ·
      refine lv_aload hx hb dX2_scale_28 (lv_at hl 0 rfl) ?_
      refine lv_iload_n hx hb dX2_scale_30 rfl (lv_at hl 3 rfl) ?_
      refine va_put (D := (dC, dI)) (ci := 0) (v := .int (iv (bb))) (ty := .boolean) (C := RX0) (T := TX0) (N := 4) hx hb hts (by decide +kernel) tyX0 tyX0_ok nmX0 hown hK hP hD hS 2 rfl rfl 2 (by decide) (hts (.fieldLink RX2 57 "ExactFractions$Fraction" "below" "Z") (by decide +kernel)) (fun _ h9 => h9) rfl (by decide +kernel) (by rcases hbb with h9 | h9 <;> rw [h9] <;> rfl) (by rcases hbb with h9 | h9 <;> rw [h9] <;> rfl) (Nat.le_of_ble_eq_true rfl) dX2_scale_31 (fun H locs hP hD hS => ?_)
      have hP : va_P (dC, dI) vwCl (cC cI q (A1) (U1) (b1) (e1) (A2) (U2) (bb) (e2) (L) (R)) H := hP
      have hD : va_D (ef_A (cC cI q (A1) (U1) (b1) (e1) (A2) (U2) (b2) (e2) (L) (R))) (cC cI q (A1) (U1) (b1) (e1) (A2) (U2) (bb) (e2) (L) (R)) := hD
      refine lv_aload hx hb dX2_scale_34 (lv_at hl 0 rfl) ?_
      refine lv_iload_n hx hb dX2_scale_36 rfl (lv_at hl 4 rfl) ?_
      refine va_put (D := (dC, dI)) (ci := 0) (v := .int (iv (ee))) (ty := .int) (C := RX0) (T := TX0) (N := 4) hx hb hts (by decide +kernel) tyX0 tyX0_ok nmX0 hown hK hP hD hS 2 rfl rfl 3 (by decide) (hts (.fieldLink RX2 61 "ExactFractions$Fraction" "exponent" "I") (by decide +kernel)) (fun _ h9 => h9) rfl (by decide +kernel) rfl rfl (Nat.le_of_ble_eq_true rfl) dX2_scale_37 (fun H locs hP hD hS => ?_)
      have hP : va_P (dC, dI) vwCl (cC cI q (A1) (U1) (b1) (e1) (A2) (U2) (bb) (ee) (L) (R)) H := hP
      have hD : va_D (ef_A (cC cI q (A1) (U1) (b1) (e1) (A2) (U2) (b2) (e2) (L) (R))) (cC cI q (A1) (U1) (b1) (e1) (A2) (U2) (bb) (ee) (L) (R)) := hD
      refine lv_iconst (v := iv (0)) hx hb dX2_scale_40 (by decide) ?_
      exact ef_iret hx hb hr hlocks hP hD hS dX2_scale_41 (⟨_, _, rfl, rfl, hL, hR⟩)
    ·
      exact absurd c2 (by omega)

set_option maxRecDepth 100000 in
set_option maxHeartbeats 4000000 in
/-- scale refused -/
theorem c_scale1B (l : Launch) (dC : Nat → ClassId) (dI : Nat → Nat → Nat) {cI : ClassId} {tys : List (ClassId × FieldType)} (ht : tys[0]? = some (cI, .int)) (q : Nat → Nat) {A1 U1 A2 U2 L R : Nat} {b1 e1 b2 e2 : Int} (hA1 : wl A1 ≤ 150) (hU1 : wl U1 ≤ 150) (hA2 : wl A2 ≤ 150) (hU2 : wl U2 ≤ 150) (hL : wl L ≤ 301) (hR : wl R ≤ 301) (bb ee : Int) (he : ir ee) (hbad : ee < -12000 ∨ 12000 < ee) : ef_C l yX2_scale wsX2_scale ({ frames := 1, cells := 0, slots := 0, locals := 21 } : Room) [.ref (q 0), .int (iv (1)), .int (iv (bb)), .int (iv (ee))] (dC, dI) vwCl tys (cC cI q (A1) (U1) (b1) (e1) (A2) (U2) (b2) (e2) (L) (R)) (fun o w1 => ∃ L2 R2 : Nat, o = some (.int (iv (-1))) ∧ w1 = cC cI q (A1) (U1) (b1) (e1) (A2) (U2) (b2) (e2) (L2) (R2) ∧ wl L2 ≤ 301 ∧ wl R2 ≤ 301) := by
  refine ef_C.of (cc := cX2_scale) (maxL := 5) (ret := (some .int)) (by decide) rfl (Nat.le_of_ble_eq_true rfl) ?_
  intro p e s m below meth c ls hx hb hml hr hts hown hlocks hK hNX hP hD hS hl
  have hl : lv_has ls 5 [(0, .ref (q 0)), (1, .int (iv (1))), (2, .int (iv (bb))), (3, .int (iv (ee)))] := hl
  have hown : s.vm.findClass RX2 = some m.cls := hown
  generalize hH : s.heap = H at hP ⊢
  have hS : va_S (ef_A (cC cI q (A1) (U1) (b1) (e1) (A2) (U2) (b2) (e2) (L) (R))) s.heap H [] := by rw [← hH]; exact hS
  generalize ([] : List Loc) = locs at hS ⊢
  refine lv_aload_n hx hb dX2_scale_0 rfl (lv_at hl 0 rfl) ?_
  refine lv_iload_n hx hb dX2_scale_1 rfl (lv_at hl 1 rfl) ?_
  refine ef_callV (As := [.int (iv (1))]) (rest := []) ⟨hx, hb, hml, hown, hts⟩ (c_numberOf1 l dC dI ht q) (cwV 1 hts gX2_scale_X2_numberOf rfl rfl rfl (by decide +kernel) ⟨Nat.le_of_ble_eq_true rfl, Nat.le_of_ble_eq_true rfl⟩) hK hNX hP hD hS 0 rfl rfl rfl rfl hl.1 rfl (Nat.le_of_ble_eq_true rfl) dX2_scale_2 ⟨Nat.zero_le _, Nat.zero_le _⟩ (fun o w1 H locs hq hP hD hS => ?_)
  obtain ⟨rfl, e9⟩ := hq
  rw [e9] at hP hD
  refine W.eq (g2 := F0 m 5 ls [.ref (q 2)]) rfl ?_
  refine lv_astore (lv' := [(4, .ref (q 2)), (0, .ref (q 0)), (1, .int (iv (1))), (2, .int (iv (bb))), (3, .int (iv (ee)))]) hx hb dX2_scale_5 hl (by decide) rfl (fun ls hl => ?_)
  refine lv_aload hx hb dX2_scale_7 (lv_at hl 0 rfl) ?_
  refine lv_ifnull hx hb dX2_scale_9 ?_
  refine lv_iload_n hx hb dX2_scale_12 rfl (lv_at hl 4 rfl) ?_
  refine lv_sipush (v := iv (-12000)) hx hb dX2_scale_13 (by decide) ?_
  refine iw_icmp_lt (tgt := 26) hx hb dX2_scale_16 (by decide) (he) ⟨by omega, by omega⟩ (fun c1 => ?_) (fun c1 => ?_)
  ·
    refine lv_iconst (v := iv (-1)) hx hb dX2_scale_26 (by decide) ?_
    exact ef_iret hx hb hr hlocks hP hD hS dX2_scale_27 (⟨_, _, rfl, rfl, hL, hR⟩)
  ·
    refine lv_iload_n hx hb dX2_scale_19 rfl (lv_at hl 4 rfl) ?_
    refine lv_sipush (v := iv (12000)) hx hb dX2_scale_20 (by decide) ?_
    refine iw_icmp_le (tgt := 28) hx hb dX2_scale_23 (by decide) (he) ⟨by omega, by omega⟩ (fun c2 => ?_) (fun c2 => ?_)
    ·
      exact absurd hbad (by omega)
    ·
      refine lv_iconst (v := iv (-1)) hx hb dX2_scale_26 (by decide) ?_
      exact ef_iret hx hb hr hlocks hP hD hS dX2_scale_27 (⟨_, _, rfl, rfl, hL, hR⟩)

set_option maxRecDepth 100000 in
set_option maxHeartbeats 4000000 in
/-- scale of no number -/
theorem c_scalex (l : Launch) (dC : Nat → ClassId) (dI : Nat → Nat → Nat) {cI : ClassId} {tys : List (ClassId × FieldType)} (ht : tys[0]? = some (cI, .int)) (q : Nat → Nat) {A1 U1 A2 U2 L R : Nat} {b1 e1 b2 e2 : Int} (hA1 : wl A1 ≤ 150) (hU1 : wl U1 ≤ 150) (hA2 : wl A2 ≤ 150) (hU2 : wl U2 ≤ 150) (hL : wl L ≤ 301) (hR : wl R ≤ 301) (z : Int) (hz : ir z) (hz0 : z ≠ 0) (hz1 : z ≠ 1) (bb ee : Int) : ef_C l yX2_scale wsX2_scale ({ frames := 1, cells := 0, slots := 0, locals := 21 } : Room) [.ref (q 0), .int (iv (z)), .int (iv (bb)), .int (iv (ee))] (dC, dI) vwCl tys (cC cI q (A1) (U1) (b1) (e1) (A2) (U2) (b2) (e2) (L) (R)) (fun o w1 => ∃ L2 R2 : Nat, o = some (.int (iv (-1))) ∧ w1 = cC cI q (A1) (U1) (b1) (e1) (A2) (U2) (b2) (e2) (L2) (R2) ∧ wl L2 ≤ 301 ∧ wl R2 ≤ 301) := by
  refine ef_C.of (cc := cX2_scale) (maxL := 5) (ret := (some .int)) (by decide) rfl (Nat.le_of_ble_eq_true rfl) ?_
  intro p e s m below meth c ls hx hb hml hr hts hown hlocks hK hNX hP hD hS hl
  have hl : lv_has ls 5 [(0, .ref (q 0)), (1, .int (iv (z))), (2, .int (iv (bb))), (3, .int (iv (ee)))] := hl
  have hown : s.vm.findClass RX2 = some m.cls := hown
  generalize hH : s.heap = H at hP ⊢
  have hS : va_S (ef_A (cC cI q (A1) (U1) (b1) (e1) (A2) (U2) (b2) (e2) (L) (R))) s.heap H [] := by rw [← hH]; exact hS
  generalize ([] : List Loc) = locs at hS ⊢
  refine lv_aload_n hx hb dX2_scale_0 rfl (lv_at hl 0 rfl) ?_
  refine lv_iload_n hx hb dX2_scale_1 rfl (lv_at hl 1 rfl) ?_
  refine ef_callV (As := [.int (iv (z))]) (rest := []) ⟨hx, hb, hml, hown, hts⟩ (c_numberOfx l dC dI ht q z hz hz0 hz1) (cwV 1 hts gX2_scale_X2_numberOf rfl rfl rfl (by decide +kernel) ⟨Nat.le_of_ble_eq_true rfl, Nat.le_of_ble_eq_true rfl⟩) hK hNX hP hD hS 0 rfl rfl rfl rfl hl.1 rfl (Nat.le_of_ble_eq_true rfl) dX2_scale_2 ⟨Nat.zero_le _, Nat.zero_le _⟩ (fun o w1 H locs hq hP hD hS => ?_)
  obtain ⟨rfl, e9⟩ := hq
  rw [e9] at hP hD
  refine W.eq (g2 := F0 m 5 ls [.null]) rfl ?_
  refine lv_astoreN (lv' := [(4, .null), (0, .ref (q 0)), (1, .int (iv (z))), (2, .int (iv (bb))), (3, .int (iv (ee)))]) hx hb dX2_scale_5 hl (by decide) rfl (fun ls hl => ?_)
  refine lv_aloadN hx hb dX2_scale_7 (lv_at hl 0 rfl) ?_
  refine lv_ifnullN (tgt := 26) hx hb dX2_scale_9 (by decide) ?_
  refine lv_iconst (v := iv (-1)) hx hb dX2_scale_26 (by decide) ?_
  exact ef_iret hx hb hr hlocks hP hD hS dX2_scale_27 (⟨_, _, rfl, rfl, hL, hR⟩)

set_option maxRecDepth 100000 in
set_option maxHeartbeats 4000000 in
/-- flip -/
theorem c_flip0 (l : Launch) (dC : Nat → ClassId) (dI : Nat → Nat → Nat) {cI : ClassId} {tys : List (ClassId × FieldType)} (ht : tys[0]? = some (cI, .int)) (q : Nat → Nat) {A1 U1 A2 U2 L R : Nat} {b1 e1 b2 e2 : Int} : ef_C l yX0_flip wsX0_flip ({ frames := 0, cells := 0, slots := 0, locals := 0 } : Room) [.ref (q 1)] (dC, dI) vwCl tys (cC cI q (A1) (U1) (b1) (e1) (A2) (U2) (b2) (e2) (L) (R)) (fun o w1 => o = none ∧ w1 = (cC cI q (A1) (U1) (b1) (e1) (A2) (U2) (b2) (e2) (L) (R)).set 1 (fo (q 1) (q 5) (q 3) b1 (-e1))) := by
  refine ef_C.of (cc := cX0_flip) (maxL := 2) (ret := none) (by decide) rfl (Nat.le_of_ble_eq_true rfl) ?_
  intro p e s m below meth c ls hx hb hml hr hts hown hlocks hK hNX hP hD hS hl
  have hl : lv_has ls 2 [(0, .ref (q 1))] := hl
  have hown : s.vm.findClass RX0 = some m.cls := hown
  generalize hH : s.heap = H at hP ⊢
  have hS : va_S (ef_A (cC cI q (A1) (U1) (b1) (e1) (A2) (U2) (b2) (e2) (L) (R))) s.heap H [] := by rw [← hH]; exact hS
  generalize ([] : List Loc) = locs at hS ⊢
  refine lv_aload_n hx hb dX0_flip_0 rfl (lv_at hl 0 rfl) ?_
  refine va_get (D := (dC, dI)) (ci := 0) (v := .ref (q 3)) (C := RX0) (T := TX0) (N := 4) hx hb hts (by decide +kernel) hown hK hP 1 rfl rfl 0 (by decide) (hts (.fieldLink RX0 10 "ExactFractions$Fraction" "above" "LExactFractions$Whole;") (by decide +kernel)) (fun _ h9 => h9) rfl dX0_flip_1 ?_
  refine lv_astore_n (lv' := [(1, .ref (q 3)), (0, .ref (q 1))]) hx hb dX0_flip_4 rfl hl (by decide) rfl (fun ls hl => ?_)
  refine lv_aload_n hx hb dX0_flip_5 rfl (lv_at hl 1 rfl) ?_
  refine lv_aload_n hx hb dX0_flip_6 rfl (lv_at hl 1 rfl) ?_
  refine va_get (D := (dC, dI)) (ci := 0) (v := .ref (q 5)) (C := RX0) (T := TX0) (N := 4) hx hb hts (by decide +kernel) hown hK hP 1 rfl rfl 1 (by decide) (hts (.fieldLink RX0 16 "ExactFractions$Fraction" "under" "LExactFractions$Whole;") (by decide +kernel)) (fun _ h9 => h9) rfl dX0_flip_7 ?_
  refine va_put (D := (dC, dI)) (ci := 0) (v := .ref (q 5)) (ty := .object "ExactFractions$Whole") (C := RX0) (T := TX0) (N := 4) hx hb hts (by decide +kernel) tyX0 tyX0_ok nmX0 hown hK hP hD hS 1 rfl rfl 0 (by decide) (hts (.fieldLink RX0 10 "ExactFractions$Fraction" "above" "LExactFractions$Whole;") (by decide +kernel)) (fun _ h9 => h9) rfl (by decide +kernel) rfl rfl (Nat.le_of_ble_eq_true rfl) dX0_flip_10 (fun H locs hP hD hS => ?_)
  have hP : va_P (dC, dI) vwCl ((cC cI q (A1) (U1) (b1) (e1) (A2) (U2) (b2) (e2) (L) (R)).set 1 (fo (q 1) (q 5) (q 5) b1 (e1))) H := hP
  have hD : va_D (ef_A (cC cI q (A1) (U1) (b1) (e1) (A2) (U2) (b2) (e2) (L) (R))) ((cC cI q (A1) (U1) (b1) (e1) (A2) (U2) (b2) (e2) (L) (R)).set 1 (fo (q 1) (q 5) (q 5) b1 (e1))) := hD
  refine lv_aload_n hx hb dX0_flip_13 rfl (lv_at hl 1 rfl) ?_
  refine lv_aload_n hx hb dX0_flip_14 rfl (lv_at hl 0 rfl) ?_
  refine va_put (D := (dC, dI)) (ci := 0) (v := .ref (q 3)) (ty := .object "ExactFractions$Whole") (C := RX0) (T := TX0) (N := 4) hx hb hts (by decide +kernel) tyX0 tyX0_ok nmX0 hown hK hP hD hS 1 rfl rfl 1 (by decide) (hts (.fieldLink RX0 16 "ExactFractions$Fraction" "under" "LExactFractions$Whole;") (by decide +kernel)) (fun _ h9 => h9) rfl (by decide +kernel) rfl rfl (Nat.le_of_ble_eq_true rfl) dX0_flip_15 (fun H locs hP hD hS => ?_)
  have hP : va_P (dC, dI) vwCl ((cC cI q (A1) (U1) (b1) (e1) (A2) (U2) (b2) (e2) (L) (R)).set 1 (fo (q 1) (q 5) (q 3) b1 (e1))) H := hP
  have hD : va_D (ef_A (cC cI q (A1) (U1) (b1) (e1) (A2) (U2) (b2) (e2) (L) (R))) ((cC cI q (A1) (U1) (b1) (e1) (A2) (U2) (b2) (e2) (L) (R)).set 1 (fo (q 1) (q 5) (q 3) b1 (e1))) := hD
  refine lv_aload_n hx hb dX0_flip_18 rfl (lv_at hl 1 rfl) ?_
  refine lv_aload_n hx hb dX0_flip_19 rfl (lv_at hl 1 rfl) ?_
  refine va_get (D := (dC, dI)) (ci := 0) (v := .int (iv (e1))) (C := RX0) (T := TX0) (N := 4) hx hb hts (by decide +kernel) hown hK hP 1 rfl rfl 3 (by decide) (hts (.fieldLink RX0 30 "ExactFractions$Fraction" "exponent" "I") (by decide +kernel)) (fun _ h9 => h9) rfl dX0_flip_20 ?_
  refine iw_ineg hx hb dX0_flip_23 ?_
  refine va_put (D := (dC, dI)) (ci := 0) (v := .int (iv (-(e1)))) (ty := .int) (C := RX0) (T := TX0) (N := 4) hx hb hts (by decide +kernel) tyX0 tyX0_ok nmX0 hown hK hP hD hS 1 rfl rfl 3 (by decide) (hts (.fieldLink RX0 30 "ExactFractions$Fraction" "exponent" "I") (by decide +kernel)) (fun _ h9 => h9) rfl (by decide +kernel) rfl rfl (Nat.le_of_ble_eq_true rfl) dX0_flip_24 (fun H locs hP hD hS => ?_)
  have hP : va_P (dC, dI) vwCl ((cC cI q (A1) (U1) (b1) (e1) (A2) (U2) (b2) (e2) (L) (R)).set 1 (fo (q 1) (q 5) (q 3) b1 (-e1))) H := hP
  have hD : va_D (ef_A (cC cI q (A1) (U1) (b1) (e1) (A2) (U2) (b2) (e2) (L) (R))) ((cC cI q (A1) (U1) (b1) (e1) (A2) (U2) (b2) (e2) (L) (R)).set 1 (fo (q 1) (q 5) (q 3) b1 (-e1))) := hD
  exact ef_vret hx hb hr hlocks hP hD hS dX0_flip_27 (⟨rfl, rfl⟩)

set_option maxRecDepth 100000 in
set_option maxHeartbeats 4000000 in
/-- flip -/
theorem c_flip1 (l : Launch) (dC : Nat → ClassId) (dI : Nat → Nat → Nat) {cI : ClassId} {tys : List (ClassId × FieldType)} (ht : tys[0]? = some (cI, .int)) (q : Nat → Nat) {A1 U1 A2 U2 L R : Nat} {b1 e1 b2 e2 : Int} : ef_C l yX0_flip wsX0_flip ({ frames := 0, cells := 0, slots := 0, locals := 0 } : Room) [.ref (q 2)] (dC, dI) vwCl tys (cC cI q (A1) (U1) (b1) (e1) (A2) (U2) (b2) (e2) (L) (R)) (fun o w1 => o = none ∧ w1 = (cC cI q (A1) (U1) (b1) (e1) (A2) (U2) (b2) (e2) (L) (R)).set 2 (fo (q 2) (q 9) (q 7) b2 (-e2))) := by
  refine ef_C.of (cc := cX0_flip) (maxL := 2) (ret := none) (by decide) rfl (Nat.le_of_ble_eq_true rfl) ?_
  intro p e s m below meth c ls hx hb hml hr hts hown hlocks hK hNX hP hD hS hl
  have hl : lv_has ls 2 [(0, .ref (q 2))] := hl
  have hown : s.vm.findClass RX0 = some m.cls := hown
  generalize hH : s.heap = H at hP ⊢
  have hS : va_S (ef_A (cC cI q (A1) (U1) (b1) (e1) (A2) (U2) (b2) (e2) (L) (R))) s.heap H [] := by rw [← hH]; exact hS
  generalize ([] : List Loc) = locs at hS ⊢
  refine lv_aload_n hx hb dX0_flip_0 rfl (lv_at hl 0 rfl) ?_
  refine va_get (D := (dC, dI)) (ci := 0) (v := .ref (q 7)) (C := RX0) (T := TX0) (N := 4) hx hb hts (by decide +kernel) hown hK hP 2 rfl rfl 0 (by decide) (hts (.fieldLink RX0 10 "ExactFractions$Fraction" "above" "LExactFractions$Whole;") (by decide +kernel)) (fun _ h9 => h9) rfl dX0_flip_1 ?_
  refine lv_astore_n (lv' := [(1, .ref (q 7)), (0, .ref (q 2))]) hx hb dX0_flip_4 rfl hl (by decide) rfl (fun ls hl => ?_)
  refine lv_aload_n hx hb dX0_flip_5 rfl (lv_at hl 1 rfl) ?_
  refine lv_aload_n hx hb dX0_flip_6 rfl (lv_at hl 1 rfl) ?_
  refine va_get (D := (dC, dI)) (ci := 0) (v := .ref (q 9)) (C := RX0) (T := TX0) (N := 4) hx hb hts (by decide +kernel) hown hK hP 2 rfl rfl 1 (by decide) (hts (.fieldLink RX0 16 "ExactFractions$Fraction" "under" "LExactFractions$Whole;") (by decide +kernel)) (fun _ h9 => h9) rfl dX0_flip_7 ?_
  refine va_put (D := (dC, dI)) (ci := 0) (v := .ref (q 9)) (ty := .object "ExactFractions$Whole") (C := RX0) (T := TX0) (N := 4) hx hb hts (by decide +kernel) tyX0 tyX0_ok nmX0 hown hK hP hD hS 2 rfl rfl 0 (by decide) (hts (.fieldLink RX0 10 "ExactFractions$Fraction" "above" "LExactFractions$Whole;") (by decide +kernel)) (fun _ h9 => h9) rfl (by decide +kernel) rfl rfl (Nat.le_of_ble_eq_true rfl) dX0_flip_10 (fun H locs hP hD hS => ?_)
  have hP : va_P (dC, dI) vwCl ((cC cI q (A1) (U1) (b1) (e1) (A2) (U2) (b2) (e2) (L) (R)).set 2 (fo (q 2) (q 9) (q 9) b2 (e2))) H := hP
  have hD : va_D (ef_A (cC cI q (A1) (U1) (b1) (e1) (A2) (U2) (b2) (e2) (L) (R))) ((cC cI q (A1) (U1) (b1) (e1) (A2) (U2) (b2) (e2) (L) (R)).set 2 (fo (q 2) (q 9) (q 9) b2 (e2))) := hD
  refine lv_aload_n hx hb dX0_flip_13 rfl (lv_at hl 1 rfl) ?_
  refine lv_aload_n hx hb dX0_flip_14 rfl (lv_at hl 0 rfl) ?_
  refine va_put (D := (dC, dI)) (ci := 0) (v := .ref (q 7)) (ty := .object "ExactFractions$Whole") (C := RX0) (T := TX0) (N := 4) hx hb hts (by decide +kernel) tyX0 tyX0_ok nmX0 hown hK hP hD hS 2 rfl rfl 1 (by decide) (hts (.fieldLink RX0 16 "ExactFractions$Fraction" "under" "LExactFractions$Whole;") (by decide +kernel)) (fun _ h9 => h9) rfl (by decide +kernel) rfl rfl (Nat.le_of_ble_eq_true rfl) dX0_flip_15 (fun H locs hP hD hS => ?_)
  have hP : va_P (dC, dI) vwCl ((cC cI q (A1) (U1) (b1) (e1) (A2) (U2) (b2) (e2) (L) (R)).set 2 (fo (q 2) (q 9) (q 7) b2 (e2))) H := hP
  have hD : va_D (ef_A (cC cI q (A1) (U1) (b1) (e1) (A2) (U2) (b2) (e2) (L) (R))) ((cC cI q (A1) (U1) (b1) (e1) (A2) (U2) (b2) (e2) (L) (R)).set 2 (fo (q 2) (q 9) (q 7) b2 (e2))) := hD
  refine lv_aload_n hx hb dX0_flip_18 rfl (lv_at hl 1 rfl) ?_
  refine lv_aload_n hx hb dX0_flip_19 rfl (lv_at hl 1 rfl) ?_
  refine va_get (D := (dC, dI)) (ci := 0) (v := .int (iv (e2))) (C := RX0) (T := TX0) (N := 4) hx hb hts (by decide +kernel) hown hK hP 2 rfl rfl 3 (by decide) (hts (.fieldLink RX0 30 "ExactFractions$Fraction" "exponent" "I") (by decide +kernel)) (fun _ h9 => h9) rfl dX0_flip_20 ?_
  refine iw_ineg hx hb dX0_flip_23 ?_
  refine va_put (D := (dC, dI)) (ci := 0) (v := .int (iv (-(e2)))) (ty := .int) (C := RX0) (T := TX0) (N := 4) hx hb hts (by decide +kernel) tyX0 tyX0_ok nmX0 hown hK hP hD hS 2 rfl rfl 3 (by decide) (hts (.fieldLink RX0 30 "ExactFractions$Fraction" "exponent" "I") (by decide +kernel)) (fun _ h9 => h9) rfl (by decide +kernel) rfl rfl (Nat.le_of_ble_eq_true rfl) dX0_flip_24 (fun H locs hP hD hS => ?_)
  have hP : va_P (dC, dI) vwCl ((cC cI q (A1) (U1) (b1) (e1) (A2) (U2) (b2) (e2) (L) (R)).set 2 (fo (q 2) (q 9) (q 7) b2 (-e2))) H := hP
  have hD : va_D (ef_A (cC cI q (A1) (U1) (b1) (e1) (A2) (U2) (b2) (e2) (L) (R))) ((cC cI q (A1) (U1) (b1) (e1) (A2) (U2) (b2) (e2) (L) (R)).set 2 (fo (q 2) (q 9) (q 7) b2 (-e2))) := hD
  exact ef_vret hx hb hr hlocks hP hD hS dX0_flip_27 (⟨rfl, rfl⟩)

set_option maxRecDepth 100000 in
set_option maxHeartbeats 4000000 in
/-- turn -/
theorem c_turn0Z (l : Launch) (dC : Nat → ClassId) (dI : Nat → Nat → Nat) {cI : ClassId} {tys : List (ClassId × FieldType)} (ht : tys[0]? = some (cI, .int)) (q : Nat → Nat) {A1 U1 A2 U2 L R : Nat} {b1 e1 b2 e2 : Int} (hA1 : wl A1 ≤ 150) (hU1 : wl U1 ≤ 150) (hA2 : wl A2 ≤ 150) (hU2 : wl U2 ≤ 150) (hL : wl L ≤ 301) (hR : wl R ≤ 301) (hA0 : A1 = 0) : ef_C l yX2_turn wsX2_turn ({ frames := 1, cells := 0, slots := 0, locals := 21 } : Room) [.ref (q 0), .int (iv (0))] (dC, dI) vwCl tys (cC cI q (A1) (U1) (b1) (e1) (A2) (U2) (b2) (e2) (L) (R)) (fun o w1 => ∃ L2 R2 : Nat, o = some (.int (iv (-3))) ∧ w1 = cC cI q (A1) (U1) (b1) (e1) (A2) (U2) (b2) (e2) (L2) (R2) ∧ wl L2 ≤ 301 ∧ wl R2 ≤ 301) := by
  refine ef_C.of (cc := cX2_turn) (maxL := 3) (ret := (some .int)) (by decide) rfl (Nat.le_of_ble_eq_true rfl) ?_
  intro p e s m below meth c ls hx hb hml hr hts hown hlocks hK hNX hP hD hS hl
  have hl : lv_has ls 3 [(0, .ref (q 0)), (1, .int (iv (0)))] := hl
  have hown : s.vm.findClass RX2 = some m.cls := hown
  generalize hH : s.heap = H at hP ⊢
  have hS : va_S (ef_A (cC cI q (A1) (U1) (b1) (e1) (A2) (U2) (b2) (e2) (L) (R))) s.heap H [] := by rw [← hH]; exact hS
  generalize ([] : List Loc) = locs at hS ⊢
  refine lv_aload_n hx hb dX2_turn_0 rfl (lv_at hl 0 rfl) ?_
  refine lv_iload_n hx hb dX2_turn_1 rfl (lv_at hl 1 rfl) ?_
  refine ef_callV (As := [.int (iv (0))]) (rest := []) ⟨hx, hb, hml, hown, hts⟩ (c_numberOf0 l dC dI ht q) (cwV 1 hts gX2_turn_X2_numberOf rfl rfl rfl (by decide +kernel) ⟨Nat.le_of_ble_eq_true rfl, Nat.le_of_ble_eq_true rfl⟩) hK hNX hP hD hS 0 rfl rfl rfl rfl hl.1 rfl (Nat.le_of_ble_eq_true rfl) dX2_turn_2 ⟨Nat.zero_le _, Nat.zero_le _⟩ (fun o w1 H locs hq hP hD hS => ?_)
  obtain ⟨rfl, e9⟩ := hq
  rw [e9] at hP hD
  refine W.eq (g2 := F0 m 5 ls [.ref (q 1)]) rfl ?_
  refine lv_astore_n (lv' := [(2, .ref (q 1)), (0, .ref (q 0)), (1, .int (iv (0)))]) hx hb dX2_turn_5 rfl hl (by decide) rfl (fun ls hl => ?_)
  refine lv_aload_n hx hb dX2_turn_6 rfl (lv_at hl 0 rfl) ?_
  refine lv_ifnonnull (tgt := 12) hx hb dX2_turn_7 (by decide) ?_
  refine lv_aload_n hx hb dX2_turn_12 rfl (lv_at hl 0 rfl) ?_
  refine va_get (D := (dC, dI)) (ci := 0) (v := .ref (q 3)) (C := RX0) (T := TX0) (N := 4) hx hb hts (by decide +kernel) hown hK hP 1 rfl rfl 0 (by decide) (hts (.fieldLink RX2 65 "ExactFractions$Fraction" "above" "LExactFractions$Whole;") (by decide +kernel)) (fun _ h9 => h9) rfl dX2_turn_13 ?_
  refine ef_callV (As := []) (rest := []) ⟨hx, hb, hml, hown, hts⟩ (c_isZero l dC dI ht (isW_c (X := A1) (ws := cC cI q (A1) (U1) (b1) (e1) (A2) (U2) (b2) (e2) (L) (R)) (k0 := 3) (k1 := 4) (by decide) rfl rfl) (by omega)) (cwV 0 hts gX2_turn_X1_isZero rfl rfl rfl (by decide +kernel) ⟨Nat.le_of_ble_eq_true rfl, Nat.le_of_ble_eq_true rfl⟩) hK hNX hP hD hS 3 rfl rfl rfl rfl hl.1 rfl (Nat.le_of_ble_eq_true rfl) dX2_turn_16 ⟨Nat.zero_le _, Nat.zero_le _⟩ (fun o w1 H locs hq hP hD hS => ?_)
  obtain ⟨rfl, e9⟩ := hq
  rw [e9] at hP hD
  refine W.eq (g2 := F0 m 19 ls [.int (iv (if A1 = 0 then 1 else 0))]) rfl ?_
  refine iw_topi (y := iv (1)) (congrArg iv (by rw [if_pos hA0] : ((if A1 = 0 then 1 else 0) : Int) = (1))) ?_
  refine iw_if_eq (tgt := 25) hx hb dX2_turn_19 (by decide) ⟨by omega, by omega⟩ (fun c1 => ?_) (fun c1 => ?_)
  ·
    exact absurd c1 (by decide)
  ·
    refine lv_bipush (v := iv (-3)) hx hb dX2_turn_22 (by decide) ?_
    exact ef_iret hx hb hr hlocks hP hD hS dX2_turn_24 (⟨_, _, rfl, rfl, hL, hR⟩)

set_option maxRecDepth 100000 in
set_option maxHeartbeats 4000000 in
/-- turn -/
theorem c_turn0K (l : Launch) (dC : Nat → ClassId) (dI : Nat → Nat → Nat) {cI : ClassId} {tys : List (ClassId × FieldType)} (ht : tys[0]? = some (cI, .int)) (q : Nat → Nat) {A1 U1 A2 U2 L R : Nat} {b1 e1 b2 e2 : Int} (hA1 : wl A1 ≤ 150) (hU1 : wl U1 ≤ 150) (hA2 : wl A2 ≤ 150) (hU2 : wl U2 ≤ 150) (hL : wl L ≤ 301) (hR : wl R ≤ 301) (hA0 : A1 ≠ 0) : ef_C l yX2_turn wsX2_turn ({ frames := 1, cells := 0, slots := 0, locals := 21 } : Room) [.ref (q 0), .int (iv (0))] (dC, dI) vwCl tys (cC cI q (A1) (U1) (b1) (e1) (A2) (U2) (b2) (e2) (L) (R)) (fun o w1 => ∃ L2 R2 : Nat, o = some (.int (iv (0))) ∧ w1 = cC cI (sw0 q) (U1) (A1) (b1) (-e1) (A2) (U2) (b2) (e2) (L2) (R2) ∧ wl L2 ≤ 301 ∧ wl R2 ≤ 301) := by
  refine ef_C.of (cc := cX2_turn) (maxL := 3) (ret := (some .int)) (by decide) rfl (Nat.le_of_ble_eq_true rfl) ?_
  intro p e s m below meth c ls hx hb hml hr hts hown hlocks hK hNX hP hD hS hl
  have hl : lv_has ls 3 [(0, .ref (q 0)), (1, .int (iv (0)))] := hl
  have hown : s.vm.findClass RX2 = some m.cls := hown
  generalize hH : s.heap = H at hP ⊢
  have hS : va_S (ef_A (cC cI q (A1) (U1) (b1) (e1) (A2) (U2) (b2) (e2) (L) (R))) s.heap H [] := by rw [← hH]; exact hS
  generalize ([] : List Loc) = locs at hS ⊢
  refine lv_aload_n hx hb dX2_turn_0 rfl (lv_at hl 0 rfl) ?_
  refine lv_iload_n hx hb dX2_turn_1 rfl (lv_at hl 1 rfl) ?_
  refine ef_callV (As := [.int (iv (0))]) (rest := []) ⟨hx, hb, hml, hown, hts⟩ (c_numberOf0 l dC dI ht q) (cwV 1 hts gX2_turn_X2_numberOf rfl rfl rfl (by decide +kernel) ⟨Nat.le_of_ble_eq_true rfl, Nat.le_of_ble_eq_true rfl⟩) hK hNX hP hD hS 0 rfl rfl rfl rfl hl.1 rfl (Nat.le_of_ble_eq_true rfl) dX2_turn_2 ⟨Nat.zero_le _, Nat.zero_le _⟩ (fun o w1 H locs hq hP hD hS => ?_)
  obtain ⟨rfl, e9⟩ := hq
  rw [e9] at hP hD
  refine W.eq (g2 := F0 m 5 ls [.ref (q 1)]) rfl ?_
  refine lv_astore_n (lv' := [(2, .ref (q 1)), (0, .ref (q 0)), (1, .int (iv (0)))]) hx hb dX2_turn_5 rfl hl (by decide) rfl (fun ls hl => ?_)
  refine lv_aload_n hx hb dX2_turn_6 rfl (lv_at hl 0 rfl) ?_
  refine lv_ifnonnull (tgt := 12) hx hb dX2_turn_7 (by decide) ?_
  refine lv_aload_n hx hb dX2_turn_12 rfl (lv_at hl 0 rfl) ?_
  refine va_get (D := (dC, dI)) (ci := 0) (v := .ref (q 3)) (C := RX0) (T := TX0) (N := 4) hx hb hts (by decide +kernel) hown hK hP 1 rfl rfl 0 (by decide) (hts (.fieldLink RX2 65 "ExactFractions$Fraction" "above" "LExactFractions$Whole;") (by decide +kernel)) (fun _ h9 => h9) rfl dX2_turn_13 ?_
  refine ef_callV (As := []) (rest := []) ⟨hx, hb, hml, hown, hts⟩ (c_isZero l dC dI ht (isW_c (X := A1) (ws := cC cI q (A1) (U1) (b1) (e1) (A2) (U2) (b2) (e2) (L) (R)) (k0 := 3) (k1 := 4) (by decide) rfl rfl) (by omega)) (cwV 0 hts gX2_turn_X1_isZero rfl rfl rfl (by decide +kernel) ⟨Nat.le_of_ble_eq_true rfl, Nat.le_of_ble_eq_true rfl⟩) hK hNX hP hD hS 3 rfl rfl rfl rfl hl.1 rfl (Nat.le_of_ble_eq_true rfl) dX2_turn_16 ⟨Nat.zero_le _, Nat.zero_le _⟩ (fun o w1 H locs hq hP hD hS => ?_)
  obtain ⟨rfl, e9⟩ := hq
  rw [e9] at hP hD
  refine W.eq (g2 := F0 m 19 ls [.int (iv (if A1 = 0 then 1 else 0))]) rfl ?_
  refine iw_topi (y := iv (0)) (congrArg iv (by rw [if_neg hA0] : ((if A1 = 0 then 1 else 0) : Int) = (0))) ?_
  refine iw_if_eq (tgt := 25) hx hb dX2_turn_19 (by decide) ⟨by omega, by omega⟩ (fun c1 => ?_) (fun c1 => ?_)
  ·
    refine lv_aload_n hx hb dX2_turn_25 rfl (lv_at hl 0 rfl) ?_
    refine ef_callV (As := []) (rest := []) ⟨hx, hb, hml, hown, hts⟩ (c_flip0 l dC dI ht q) (cwV 0 hts gX2_turn_X0_flip rfl rfl rfl (by decide +kernel) ⟨Nat.le_of_ble_eq_true rfl, Nat.le_of_ble_eq_true rfl⟩) hK hNX hP hD hS 1 rfl rfl rfl rfl hl.1 rfl (Nat.le_of_ble_eq_true rfl) dX2_turn_26 ⟨Nat.zero_le _, Nat.zero_le _⟩ (fun o w1 H locs hq hP hD hS => ?_)
    obtain ⟨rfl, rfl⟩ := hq
    have hP : va_P (dC, dI) vwCl (cC cI (sw0 q) (U1) (A1) (b1) (-e1) (A2) (U2) (b2) (e2) (L) (R)) H := hP.sub [0, 1, 2, 5, 6, 3, 4, 7, 8, 9, 10, 11, 12, 13, 14] rfl
    have hD : va_D (ef_A (cC cI q (A1) (U1) (b1) (e1) (A2) (U2) (b2) (e2) (L) (R))) (cC cI (sw0 q) (U1) (A1) (b1) (-e1) (A2) (U2) (b2) (e2) (L) (R)) := hD.sub [0, 1, 2, 5, 6, 3, 4, 7, 8, 9, 10, 11, 12, 13, 14] (by decide) rfl
    refine W.eq (g2 := F0 m 29 ls []) rfl ?_
    refine lv_iconst (v := iv (0)) hx hb dX2_turn_29 (by decide) ?_
    exact ef_iret hx hb hr hlocks hP hD hS dX2_turn_30 (⟨_, _, rfl, rfl, hL, hR⟩)
  ·
    exact absurd rfl c1

set_option maxRecDepth 100000 in
set_option maxHeartbeats 4000000 in
/-- turn -/
theorem c_turn1Z (l : Launch) (dC : Nat → ClassId) (dI : Nat → Nat → Nat) {cI : ClassId} {tys : List (ClassId × FieldType)} (ht : tys[0]? = some (cI, .int)) (q : Nat → Nat) {A1 U1 A2 U2 L R : Nat} {b1 e1 b2 e2 : Int} (hA1 : wl A1 ≤ 150) (hU1 : wl U1 ≤ 150) (hA2 : wl A2 ≤ 150) (hU2 : wl U2 ≤ 150) (hL : wl L ≤ 301) (hR : wl R ≤ 301) (hA0 : A2 = 0) : ef_C l yX2_turn wsX2_turn ({ frames := 1, cells := 0, slots := 0, locals := 21 } : Room) [.ref (q 0), .int (iv (1))] (dC, dI) vwCl tys (cC cI q (A1) (U1) (b1) (e1) (A2) (U2) (b2) (e2) (L) (R)) (fun o w1 => ∃ L2 R2 : Nat, o = some (.int (iv (-3))) ∧ w1 = cC cI q (A1) (U1) (b1) (e1) (A2) (U2) (b2) (e2) (L2) (R2) ∧ wl L2 ≤ 301 ∧ wl R2 ≤ 301) := by
  refine ef_C.of (cc := cX2_turn) (maxL := 3) (ret := (some .int)) (by decide) rfl (Nat.le_of_ble_eq_true rfl) ?_
  intro p e s m below meth c ls hx hb hml hr hts hown hlocks hK hNX hP hD hS hl
  have hl : lv_has ls 3 [(0, .ref (q 0)), (1, .int (iv (1)))] := hl
  have hown : s.vm.findClass RX2 = some m.cls := hown
  generalize hH : s.heap = H at hP ⊢
  have hS : va_S (ef_A (cC cI q (A1) (U1) (b1) (e1) (A2) (U2) (b2) (e2) (L) (R))) s.heap H [] := by rw [← hH]; exact hS
  generalize ([] : List Loc) = locs at hS ⊢
  refine lv_aload_n hx hb dX2_turn_0 rfl (lv_at hl 0 rfl) ?_
  refine lv_iload_n hx hb dX2_turn_1 rfl (lv_at hl 1 rfl) ?_
  refine ef_callV (As := [.int (iv (1))]) (rest := []) ⟨hx, hb, hml, hown, hts⟩ (c_numberOf1 l dC dI ht q) (cwV 1 hts gX2_turn_X2_numberOf rfl rfl rfl (by decide +kernel) ⟨Nat.le_of_ble_eq_true rfl, Nat.le_of_ble_eq_true rfl⟩) hK hNX hP hD hS 0 rfl rfl rfl rfl hl.1 rfl (Nat.le_of_ble_eq_true rfl) dX2_turn_2 ⟨Nat.zero_le _, Nat.zero_le _⟩ (fun o w1 H locs hq hP hD hS => ?_)
  obtain ⟨rfl, e9⟩ := hq
  rw [e9] at hP hD
  refine W.eq (g2 := F0 m 5 ls [.ref (q 2)]) rfl ?_
  refine lv_astore_n (lv' := [(2, .ref (q 2)), (0, .ref (q 0)), (1, .int (iv (1)))]) hx hb dX2_turn_5 rfl hl (by decide) rfl (fun ls hl => ?_)
  refine lv_aload_n hx hb dX2_turn_6 rfl (lv_at hl 0 rfl) ?_
  refine lv_ifnonnull (tgt := 12) hx hb dX2_turn_7 (by decide) ?_
  refine lv_aload_n hx hb dX2_turn_12 rfl (lv_at hl 0 rfl) ?_
  refine va_get (D := (dC, dI)) (ci := 0) (v := .ref (q 7)) (C := RX0) (T := TX0) (N := 4) hx hb hts (by decide +kernel) hown hK hP 2 rfl rfl 0 (by decide) (hts (.fieldLink RX2 65 "ExactFractions$Fraction" "above" "LExactFractions$Whole;") (by decide +kernel)) (fun _ h9 => h9) rfl dX2_turn_13 ?_
  refine ef_callV (As := []) (rest := []) ⟨hx, hb, hml, hown, hts⟩ (c_isZero l dC dI ht (isW_c (X := A2) (ws := cC cI q (A1) (U1) (b1) (e1) (A2) (U2) (b2) (e2) (L) (R)) (k0 := 7) (k1 := 8) (by decide) rfl rfl) (by omega)) (cwV 0 hts gX2_turn_X1_isZero rfl rfl rfl (by decide +kernel) ⟨Nat.le_of_ble_eq_true rfl, Nat.le_of_ble_eq_true rfl⟩) hK hNX hP hD hS 7 rfl rfl rfl rfl hl.1 rfl (Nat.le_of_ble_eq_true rfl) dX2_turn_16 ⟨Nat.zero_le _, Nat.zero_le _⟩ (fun o w1 H locs hq hP hD hS => ?_)
  obtain ⟨rfl, e9⟩ := hq
  rw [e9] at hP hD
  refine W.eq (g2 := F0 m 19 ls [.int (iv (if A2 = 0 then 1 else 0))]) rfl ?_
  refine iw_topi (y := iv (1)) (congrArg iv (by rw [if_pos hA0] : ((if A2 = 0 then 1 else 0) : Int) = (1))) ?_
  refine iw_if_eq (tgt := 25) hx hb dX2_turn_19 (by decide) ⟨by omega, by omega⟩ (fun c1 => ?_) (fun c1 => ?_)
  ·
    exact absurd c1 (by decide)
  ·
    refine lv_bipush (v := iv (-3)) hx hb dX2_turn_22 (by decide) ?_
    exact ef_iret hx hb hr hlocks hP hD hS dX2_turn_24 (⟨_, _, rfl, rfl, hL, hR⟩)

set_option maxRecDepth 100000 in
set_option maxHeartbeats 4000000 in
/-- turn -/
theorem c_turn1K (l : Launch) (dC : Nat → ClassId) (dI : Nat → Nat → Nat) {cI : ClassId} {tys : List (ClassId × FieldType)} (ht : tys[0]? = some (cI, .int)) (q : Nat → Nat) {A1 U1 A2 U2 L R : Nat} {b1 e1 b2 e2 : Int} (hA1 : wl A1 ≤ 150) (hU1 : wl U1 ≤ 150) (hA2 : wl A2 ≤ 150) (hU2 : wl U2 ≤ 150) (hL : wl L ≤ 301) (hR : wl R ≤ 301) (hA0 : A2 ≠ 0) : ef_C l yX2_turn wsX2_turn ({ frames := 1, cells := 0, slots := 0, locals := 21 } : Room) [.ref (q 0), .int (iv (1))] (dC, dI) vwCl tys (cC cI q (A1) (U1) (b1) (e1) (A2) (U2) (b2) (e2) (L) (R)) (fun o w1 => ∃ L2 R2 : Nat, o = some (.int (iv (0))) ∧ w1 = cC cI (sw1 q) (A1) (U1) (b1) (e1) (U2) (A2) (b2) (-e2) (L2) (R2) ∧ wl L2 ≤ 301 ∧ wl R2 ≤ 301) := by
  refine ef_C.of (cc := cX2_turn) (maxL := 3) (ret := (some .int)) (by decide) rfl (Nat.le_of_ble_eq_true rfl) ?_
  intro p e s m below meth c ls hx hb hml hr hts hown hlocks hK hNX hP hD hS hl
  have hl : lv_has ls 3 [(0, .ref (q 0)), (1, .int (iv (1)))] := hl
  have hown : s.vm.findClass RX2 = some m.cls := hown
  generalize hH : s.heap = H at hP ⊢
  have hS : va_S (ef_A (cC cI q (A1) (U1) (b1) (e1) (A2) (U2) (b2) (e2) (L) (R))) s.heap H [] := by rw [← hH]; exact hS
  generalize ([] : List Loc) = locs at hS ⊢
  refine lv_aload_n hx hb dX2_turn_0 rfl (lv_at hl 0 rfl) ?_
  refine lv_iload_n hx hb dX2_turn_1 rfl (lv_at hl 1 rfl) ?_
  refine ef_callV (As := [.int (iv (1))]) (rest := []) ⟨hx, hb, hml, hown, hts⟩ (c_numberOf1 l dC dI ht q) (cwV 1 hts gX2_turn_X2_numberOf rfl rfl rfl (by decide +kernel) ⟨Nat.le_of_ble_eq_true rfl, Nat.le_of_ble_eq_true rfl⟩) hK hNX hP hD hS 0 rfl rfl rfl rfl hl.1 rfl (Nat.le_of_ble_eq_true rfl) dX2_turn_2 ⟨Nat.zero_le _, Nat.zero_le _⟩ (fun o w1 H locs hq hP hD hS => ?_)
  obtain ⟨rfl, e9⟩ := hq
  rw [e9] at hP hD
  refine W.eq (g2 := F0 m 5 ls [.ref (q 2)]) rfl ?_
  refine lv_astore_n (lv' := [(2, .ref (q 2)), (0, .ref (q 0)), (1, .int (iv (1)))]) hx hb dX2_turn_5 rfl hl (by decide) rfl (fun ls hl => ?_)
  refine lv_aload_n hx hb dX2_turn_6 rfl (lv_at hl 0 rfl) ?_
  refine lv_ifnonnull (tgt := 12) hx hb dX2_turn_7 (by decide) ?_
  refine lv_aload_n hx hb dX2_turn_12 rfl (lv_at hl 0 rfl) ?_
  refine va_get (D := (dC, dI)) (ci := 0) (v := .ref (q 7)) (C := RX0) (T := TX0) (N := 4) hx hb hts (by decide +kernel) hown hK hP 2 rfl rfl 0 (by decide) (hts (.fieldLink RX2 65 "ExactFractions$Fraction" "above" "LExactFractions$Whole;") (by decide +kernel)) (fun _ h9 => h9) rfl dX2_turn_13 ?_
  refine ef_callV (As := []) (rest := []) ⟨hx, hb, hml, hown, hts⟩ (c_isZero l dC dI ht (isW_c (X := A2) (ws := cC cI q (A1) (U1) (b1) (e1) (A2) (U2) (b2) (e2) (L) (R)) (k0 := 7) (k1 := 8) (by decide) rfl rfl) (by omega)) (cwV 0 hts gX2_turn_X1_isZero rfl rfl rfl (by decide +kernel) ⟨Nat.le_of_ble_eq_true rfl, Nat.le_of_ble_eq_true rfl⟩) hK hNX hP hD hS 7 rfl rfl rfl rfl hl.1 rfl (Nat.le_of_ble_eq_true rfl) dX2_turn_16 ⟨Nat.zero_le _, Nat.zero_le _⟩ (fun o w1 H locs hq hP hD hS => ?_)
  obtain ⟨rfl, e9⟩ := hq
  rw [e9] at hP hD
  refine W.eq (g2 := F0 m 19 ls [.int (iv (if A2 = 0 then 1 else 0))]) rfl ?_
  refine iw_topi (y := iv (0)) (congrArg iv (by rw [if_neg hA0] : ((if A2 = 0 then 1 else 0) : Int) = (0))) ?_
  refine iw_if_eq (tgt := 25) hx hb dX2_turn_19 (by decide) ⟨by omega, by omega⟩ (fun c1 => ?_) (fun c1 => ?_)
  ·
    refine lv_aload_n hx hb dX2_turn_25 rfl (lv_at hl 0 rfl) ?_
    refine ef_callV (As := []) (rest := []) ⟨hx, hb, hml, hown, hts⟩ (c_flip1 l dC dI ht q) (cwV 0 hts gX2_turn_X0_flip rfl rfl rfl (by decide +kernel) ⟨Nat.le_of_ble_eq_true rfl, Nat.le_of_ble_eq_true rfl⟩) hK hNX hP hD hS 2 rfl rfl rfl rfl hl.1 rfl (Nat.le_of_ble_eq_true rfl) dX2_turn_26 ⟨Nat.zero_le _, Nat.zero_le _⟩ (fun o w1 H locs hq hP hD hS => ?_)
    obtain ⟨rfl, rfl⟩ := hq
    have hP : va_P (dC, dI) vwCl (cC cI (sw1 q) (A1) (U1) (b1) (e1) (U2) (A2) (b2) (-e2) (L) (R)) H := hP.sub [0, 1, 2, 3, 4, 5, 6, 9, 10, 7, 8, 11, 12, 13, 14] rfl
    have hD : va_D (ef_A (cC cI q (A1) (U1) (b1) (e1) (A2) (U2) (b2) (e2) (L) (R))) (cC cI (sw1 q) (A1) (U1) (b1) (e1) (U2) (A2) (b2) (-e2) (L) (R)) := hD.sub [0, 1, 2, 3, 4, 5, 6, 9, 10, 7, 8, 11, 12, 13, 14] (by decide) rfl
    refine W.eq (g2 := F0 m 29 ls []) rfl ?_
    refine lv_iconst (v := iv (0)) hx hb dX2_turn_29 (by decide) ?_
    exact ef_iret hx hb hr hlocks hP hD hS dX2_turn_30 (⟨_, _, rfl, rfl, hL, hR⟩)
  ·
    exact absurd rfl c1

set_option maxRecDepth 100000 in
set_option maxHeartbeats 4000000 in
/-- turn of no number -/
theorem c_turnx (l : Launch) (dC : Nat → ClassId) (dI : Nat → Nat → Nat) {cI : ClassId} {tys : List (ClassId × FieldType)} (ht : tys[0]? = some (cI, .int)) (q : Nat → Nat) {A1 U1 A2 U2 L R : Nat} {b1 e1 b2 e2 : Int} (hA1 : wl A1 ≤ 150) (hU1 : wl U1 ≤ 150) (hA2 : wl A2 ≤ 150) (hU2 : wl U2 ≤ 150) (hL : wl L ≤ 301) (hR : wl R ≤ 301) (z : Int) (hz : ir z) (hz0 : z ≠ 0) (hz1 : z ≠ 1) : ef_C l yX2_turn wsX2_turn ({ frames := 1, cells := 0, slots := 0, locals := 21 } : Room) [.ref (q 0), .int (iv (z))] (dC, dI) vwCl tys (cC cI q (A1) (U1) (b1) (e1) (A2) (U2) (b2) (e2) (L) (R)) (fun o w1 => ∃ L2 R2 : Nat, o = some (.int (iv (-1))) ∧ w1 = cC cI q (A1) (U1) (b1) (e1) (A2) (U2) (b2) (e2) (L2) (R2) ∧ wl L2 ≤ 301 ∧ wl R2 ≤ 301) := by
  refine ef_C.of (cc := cX2_turn) (maxL := 3) (ret := (some .int)) (by decide) rfl (Nat.le_of_ble_eq_true rfl) ?_
  intro p e s m below meth c ls hx hb hml hr hts hown hlocks hK hNX hP hD hS hl
  have hl : lv_has ls 3 [(0, .ref (q 0)), (1, .int (iv (z)))] := hl
  have hown : s.vm.findClass RX2 = some m.cls := hown
  generalize hH : s.heap = H at hP ⊢
  have hS : va_S (ef_A (cC cI q (A1) (U1) (b1) (e1) (A2) (U2) (b2) (e2) (L) (R))) s.heap H [] := by rw [← hH]; exact hS
  generalize ([] : List Loc) = locs at hS ⊢
  refine lv_aload_n hx hb dX2_turn_0 rfl (lv_at hl 0 rfl) ?_
  refine lv_iload_n hx hb dX2_turn_1 rfl (lv_at hl 1 rfl) ?_
  refine ef_callV (As := [.int (iv (z))]) (rest := []) ⟨hx, hb, hml, hown, hts⟩ (c_numberOfx l dC dI ht q z hz hz0 hz1) (cwV 1 hts gX2_turn_X2_numberOf rfl rfl rfl (by decide +kernel) ⟨Nat.le_of_ble_eq_true rfl, Nat.le_of_ble_eq_true rfl⟩) hK hNX hP hD hS 0 rfl rfl rfl rfl hl.1 rfl (Nat.le_of_ble_eq_true rfl) dX2_turn_2 ⟨Nat.zero_le _, Nat.zero_le _⟩ (fun o w1 H locs hq hP hD hS => ?_)
  obtain ⟨rfl, e9⟩ := hq
  rw [e9] at hP hD
  refine W.eq (g2 := F0 m 5 ls [.null]) rfl ?_
  refine lv_astore_nN (lv' := [(2, .null), (0, .ref (q 0)), (1, .int (iv (z)))]) hx hb dX2_turn_5 rfl hl (by decide) rfl (fun ls hl => ?_)
  refine lv_aload_nN hx hb dX2_turn_6 rfl (lv_at hl 0 rfl) ?_
  refine lv_ifnonnullN hx hb dX2_turn_7 ?_
  refine lv_iconst (v := iv (-1)) hx hb dX2_turn_10 (by decide) ?_
  exact ef_iret hx hb hr hlocks hP hD hS dX2_turn_11 (⟨_, _, rfl, rfl, hL, hR⟩)

set_option maxRecDepth 100000 in
set_option maxHeartbeats 4000000 in
/-- move -/
theorem c_move0sumF (l : Launch) (dC : Nat → ClassId) (dI : Nat → Nat → Nat) {cI : ClassId} {tys : List (ClassId × FieldType)} (ht : tys[0]? = some (cI, .int)) (q : Nat → Nat) {A1 U1 A2 U2 L R : Nat} {b1 e1 b2 e2 : Int} (hA1 : wl A1 ≤ 150) (hU1 : wl U1 ≤ 150) (hA2 : wl A2 ≤ 150) (hU2 : wl U2 ≤ 150) (hL : wl L ≤ 301) (hR : wl R ≤ 301) (hba : bl A1 ≤ 4800) (hbb : bl A2 ≤ 4800) (dn : Int) (hdn : dn = 0 ∨ dn = 1) (hbo : b1 = 0 ∨ b1 = 1) (hd : b1 = dn) (hb4 : 4800 < bl (A1 + A2)) : ef_C l yX2_move wsX2_move ({ frames := 4, cells := 0, slots := 0, locals := 88 } : Room) [.ref (q 0), .int (iv (0)), .int (iv (dn))] (dC, dI) vwCl tys (cC cI q (A1) (U1) (b1) (e1) (A2) (U2) (b2) (e2) (L) (R)) (fun o w1 => ∃ L2 R2 : Nat, o = some (.int (iv (-2))) ∧ w1 = cC cI q (A1) (U1) (b1) (e1) (A2) (U2) (b2) (e2) (L2) (R2) ∧ wl L2 ≤ 301 ∧ wl R2 ≤ 301) := by
  refine ef_C.of (cc := cX2_move) (maxL := 5) (ret := (some .int)) (by decide) rfl (Nat.le_of_ble_eq_true rfl) ?_
  intro p e s m below meth c ls hx hb hml hr hts hown hlocks hK hNX hP hD hS hl
  have hl : lv_has ls 5 [(0, .ref (q 0)), (1, .int (iv (0))), (2, .int (iv (dn)))] := hl
  have hown : s.vm.findClass RX2 = some m.cls := hown
  generalize hH : s.heap = H at hP ⊢
  have hS : va_S (ef_A (cC cI q (A1) (U1) (b1) (e1) (A2) (U2) (b2) (e2) (L) (R))) s.heap H [] := by rw [← hH]; exact hS
  generalize ([] : List Loc) = locs at hS ⊢
  have hdr : ir dn := by rcases hdn with h | h <;> rw [h] <;> exact ⟨by decide, by decide⟩
  have hbr : ir b1 := by rcases hbo with h | h <;> rw [h] <;> exact ⟨by decide, by decide⟩
  have hwl : wl (A1 + A2) ≤ 151 := wl_add hA1 hA2
  refine lv_aload_n hx hb dX2_move_0 rfl (lv_at hl 0 rfl) ?_
  refine lv_iload_n hx hb dX2_move_1 rfl (lv_at hl 1 rfl) ?_
  refine ef_callV (As := [.int (iv (0))]) (rest := []) ⟨hx, hb, hml, hown, hts⟩ (c_numberOf0 l dC dI ht q) (cwV 1 hts gX2_move_X2_numberOf rfl rfl rfl (by decide +kernel) ⟨Nat.le_of_ble_eq_true rfl, Nat.le_of_ble_eq_true rfl⟩) hK hNX hP hD hS 0 rfl rfl rfl rfl hl.1 rfl (Nat.le_of_ble_eq_true rfl) dX2_move_2 ⟨Nat.zero_le _, Nat.zero_le _⟩ (fun o w1 H locs hq hP hD hS => ?_)
  obtain ⟨rfl, e9⟩ := hq
  rw [e9] at hP hD
  refine W.eq (g2 := F0 m 5 ls [.ref (q 1)]) rfl ?_
  refine lv_astore_n (lv' := [(3, .ref (q 1)), (0, .ref (q 0)), (1, .int (iv (0))), (2, .int (iv (dn)))]) hx hb dX2_move_5 rfl hl (by decide) rfl (fun ls hl => ?_)
  refine lv_aload_n hx hb dX2_move_6 rfl (lv_at hl 0 rfl) ?_
  refine lv_ifnonnull (tgt := 12) hx hb dX2_move_7 (by decide) ?_
  refine lv_iload_n hx hb dX2_move_12 rfl (lv_at hl 2 rfl) ?_
  refine iw_if_ne (tgt := 26) hx hb dX2_move_13 (by decide) ⟨by omega, by omega⟩ (fun c1 => ?_) (fun c1 => ?_)
  ·
    exact absurd rfl c1
  ·
    refine lv_aload_n hx hb dX2_move_16 rfl (lv_at hl 1 rfl) ?_
    refine va_get (D := (dC, dI)) (ci := 2) (v := .ref (q 2)) (C := RX2) (T := TX2) (N := 4) hx hb hts (by decide +kernel) hown hK hP 0 rfl rfl 1 (by decide) (hts (.fieldLink RX2 16 "ExactFractions" "second" "LExactFractions$Fraction;") (by decide +kernel)) (fun _ h9 => h9) rfl dX2_move_17 ?_
    refine va_get (D := (dC, dI)) (ci := 0) (v := .ref (q 7)) (C := RX0) (T := TX0) (N := 4) hx hb hts (by decide +kernel) hown hK hP 2 rfl rfl 0 (by decide) (hts (.fieldLink RX2 65 "ExactFractions$Fraction" "above" "LExactFractions$Whole;") (by decide +kernel)) (fun _ h9 => h9) rfl dX2_move_20 ?_
    refine lv_goto (tgt := 33) hx hb dX2_move_23 (by decide) ?_
    refine lv_astore (lv' := [(4, .ref (q 7)), (3, .ref (q 1)), (0, .ref (q 0)), (1, .int (iv (0))), (2, .int (iv (dn)))]) hx hb dX2_move_33 hl (by decide) rfl (fun ls hl => ?_)
    refine lv_aload_n hx hb dX2_move_35 rfl (lv_at hl 1 rfl) ?_
    refine va_get (D := (dC, dI)) (ci := 0) (v := .int (iv (b1))) (C := RX0) (T := TX0) (N := 4) hx hb hts (by decide +kernel) hown hK hP 1 rfl rfl 2 (by decide) (hts (.fieldLink RX2 57 "ExactFractions$Fraction" "below" "Z") (by decide +kernel)) (fun _ h9 => h9) rfl dX2_move_36 ?_
    refine lv_iload_n hx hb dX2_move_39 rfl (lv_at hl 4 rfl) ?_
    refine iw_icmp_ne (tgt := 59) hx hb dX2_move_40 (by decide) (hbr) (hdr) (fun c2 => ?_) (fun c2 => ?_)
    ·
      exact absurd hd c2
    ·
      refine lv_aload_n hx hb dX2_move_43 rfl (lv_at hl 2 rfl) ?_
      refine va_get (D := (dC, dI)) (ci := 2) (v := .ref (q 11)) (C := RX2) (T := TX2) (N := 4) hx hb hts (by decide +kernel) hown hK hP 0 rfl rfl 2 (by decide) (hts (.fieldLink RX2 22 "ExactFractions" "left" "LExactFractions$Whole;") (by decide +kernel)) (fun _ h9 => h9) rfl dX2_move_44 ?_
      refine lv_aload_n hx hb dX2_move_47 rfl (lv_at hl 1 rfl) ?_
      refine va_get (D := (dC, dI)) (ci := 0) (v := .ref (q 3)) (C := RX0) (T := TX0) (N := 4) hx hb hts (by decide +kernel) hown hK hP 1 rfl rfl 0 (by decide) (hts (.fieldLink RX2 65 "ExactFractions$Fraction" "above" "LExactFractions$Whole;") (by decide +kernel)) (fun _ h9 => h9) rfl dX2_move_48 ?_
      refine lv_aload hx hb dX2_move_51 (lv_at hl 0 rfl) ?_
      refine ef_callV (As := [.ref (q 3), .ref (q 7)]) (rest := []) ⟨hx, hb, hml, hown, hts⟩ (c_sum l dC dI ht (isW_c (X := L) (ws := cC cI q (A1) (U1) (b1) (e1) (A2) (U2) (b2) (e2) (L) (R)) (k0 := 11) (k1 := 12) (by decide) rfl rfl) hL (wd_lt _) wd_z (isW_c (X := A1) (ws := cC cI q (A1) (U1) (b1) (e1) (A2) (U2) (b2) (e2) (L) (R)) (k0 := 3) (k1 := 4) (by decide) rfl rfl) (by omega) (apt_c (k0 := 11) (k1 := 12) (j0 := 3) (j1 := 4) rfl) (isW_c (X := A2) (ws := cC cI q (A1) (U1) (b1) (e1) (A2) (U2) (b2) (e2) (L) (R)) (k0 := 7) (k1 := 8) (by decide) rfl rfl) (by omega) (apt_c (k0 := 11) (k1 := 12) (j0 := 7) (j1 := 8) rfl)) (cwV 2 hts gX2_move_X1_becomeSum rfl rfl rfl (by decide +kernel) ⟨Nat.le_of_ble_eq_true rfl, Nat.le_of_ble_eq_true rfl⟩) hK hNX hP hD hS 11 rfl rfl rfl rfl hl.1 rfl (Nat.le_of_ble_eq_true rfl) dX2_move_53 ⟨Nat.zero_le _, Nat.zero_le _⟩ (fun o w1 H locs hq hP hD hS => ?_)
      obtain ⟨rfl, rfl⟩ := hq
      have hP : va_P (dC, dI) vwCl (cC cI q (A1) (U1) (b1) (e1) (A2) (U2) (b2) (e2) (A1 + A2) (R)) H := hP
      have hD : va_D (ef_A (cC cI q (A1) (U1) (b1) (e1) (A2) (U2) (b2) (e2) (L) (R))) (cC cI q (A1) (U1) (b1) (e1) (A2) (U2) (b2) (e2) (A1 + A2) (R)) := hD
      refine W.eq (g2 := F0 m 56 ls []) rfl ?_
      refine lv_goto (tgt := 105) hx hb dX2_move_56 (by decide) ?_
      refine lv_aload_n hx hb dX2_move_105 rfl (lv_at hl 2 rfl) ?_
      refine lv_aload_n hx hb dX2_move_106 rfl (lv_at hl 1 rfl) ?_
      refine va_get (D := (dC, dI)) (ci := 0) (v := .ref (q 3)) (C := RX0) (T := TX0) (N := 4) hx hb hts (by decide +kernel) hown hK hP 1 rfl rfl 0 (by decide) (hts (.fieldLink RX2 65 "ExactFractions$Fraction" "above" "LExactFractions$Whole;") (by decide +kernel)) (fun _ h9 => h9) rfl dX2_move_107 ?_
      refine ef_callV (As := [.ref (q 3)]) (rest := []) ⟨hx, hb, hml, hown, hts⟩ (c_keep00F l dC dI ht q hA1 hU1 hA2 hU2 (by omega) hR hb4) (cwV 1 hts gX2_move_X2_keepLeftIn rfl rfl rfl (by decide +kernel) ⟨Nat.le_of_ble_eq_true rfl, Nat.le_of_ble_eq_true rfl⟩) hK hNX hP hD hS 0 rfl rfl rfl rfl hl.1 rfl (Nat.le_of_ble_eq_true rfl) dX2_move_110 ⟨Nat.zero_le _, Nat.zero_le _⟩ (fun o w1 H locs hq hP hD hS => ?_)
      obtain ⟨rfl, rfl⟩ := hq
      have hP : va_P (dC, dI) vwCl (cC cI q (A1) (U1) (b1) (e1) (A2) (U2) (b2) (e2) (A1 + A2) (R)) H := hP
      have hD : va_D (ef_A (cC cI q (A1) (U1) (b1) (e1) (A2) (U2) (b2) (e2) (L) (R))) (cC cI q (A1) (U1) (b1) (e1) (A2) (U2) (b2) (e2) (A1 + A2) (R)) := hD
      refine W.eq (g2 := F0 m 113 ls [.int (iv (-2))]) rfl ?_
      exact ef_iret hx hb hr hlocks hP hD hS dX2_move_113 (⟨_, _, rfl, rfl, by omega, hR⟩)

set_option maxRecDepth 100000 in
set_option maxHeartbeats 4000000 in
/-- move -/
theorem c_move0sumK (l : Launch) (dC : Nat → ClassId) (dI : Nat → Nat → Nat) {cI : ClassId} {tys : List (ClassId × FieldType)} (ht : tys[0]? = some (cI, .int)) (q : Nat → Nat) {A1 U1 A2 U2 L R : Nat} {b1 e1 b2 e2 : Int} (hA1 : wl A1 ≤ 150) (hU1 : wl U1 ≤ 150) (hA2 : wl A2 ≤ 150) (hU2 : wl U2 ≤ 150) (hL : wl L ≤ 301) (hR : wl R ≤ 301) (hba : bl A1 ≤ 4800) (hbb : bl A2 ≤ 4800) (dn : Int) (hdn : dn = 0 ∨ dn = 1) (hbo : b1 = 0 ∨ b1 = 1) (hd : b1 = dn) (hb4 : bl (A1 + A2) ≤ 4800) : ef_C l yX2_move wsX2_move ({ frames := 4, cells := 0, slots := 0, locals := 88 } : Room) [.ref (q 0), .int (iv (0)), .int (iv (dn))] (dC, dI) vwCl tys (cC cI q (A1) (U1) (b1) (e1) (A2) (U2) (b2) (e2) (L) (R)) (fun o w1 => ∃ L2 R2 : Nat, o = some (.int (iv (bl (A1 + A2) : Int))) ∧ w1 = cC cI q (A1 + A2) (U1) (b1) (e1) (A2) (U2) (b2) (e2) (L2) (R2) ∧ wl L2 ≤ 301 ∧ wl R2 ≤ 301) := by
  refine ef_C.of (cc := cX2_move) (maxL := 5) (ret := (some .int)) (by decide) rfl (Nat.le_of_ble_eq_true rfl) ?_
  intro p e s m below meth c ls hx hb hml hr hts hown hlocks hK hNX hP hD hS hl
  have hl : lv_has ls 5 [(0, .ref (q 0)), (1, .int (iv (0))), (2, .int (iv (dn)))] := hl
  have hown : s.vm.findClass RX2 = some m.cls := hown
  generalize hH : s.heap = H at hP ⊢
  have hS : va_S (ef_A (cC cI q (A1) (U1) (b1) (e1) (A2) (U2) (b2) (e2) (L) (R))) s.heap H [] := by rw [← hH]; exact hS
  generalize ([] : List Loc) = locs at hS ⊢
  have hdr : ir dn := by rcases hdn with h | h <;> rw [h] <;> exact ⟨by decide, by decide⟩
  have hbr : ir b1 := by rcases hbo with h | h <;> rw [h] <;> exact ⟨by decide, by decide⟩
  have hwl : wl (A1 + A2) ≤ 151 := wl_add hA1 hA2
  refine lv_aload_n hx hb dX2_move_0 rfl (lv_at hl 0 rfl) ?_
  refine lv_iload_n hx hb dX2_move_1 rfl (lv_at hl 1 rfl) ?_
  refine ef_callV (As := [.int (iv (0))]) (rest := []) ⟨hx, hb, hml, hown, hts⟩ (c_numberOf0 l dC dI ht q) (cwV 1 hts gX2_move_X2_numberOf rfl rfl rfl (by decide +kernel) ⟨Nat.le_of_ble_eq_true rfl, Nat.le_of_ble_eq_true rfl⟩) hK hNX hP hD hS 0 rfl rfl rfl rfl hl.1 rfl (Nat.le_of_ble_eq_true rfl) dX2_move_2 ⟨Nat.zero_le _, Nat.zero_le _⟩ (fun o w1 H locs hq hP hD hS => ?_)
  obtain ⟨rfl, e9⟩ := hq
  rw [e9] at hP hD
  refine W.eq (g2 := F0 m 5 ls [.ref (q 1)]) rfl ?_
  refine lv_astore_n (lv' := [(3, .ref (q 1)), (0, .ref (q 0)), (1, .int (iv (0))), (2, .int (iv (dn)))]) hx hb dX2_move_5 rfl hl (by decide) rfl (fun ls hl => ?_)
  refine lv_aload_n hx hb dX2_move_6 rfl (lv_at hl 0 rfl) ?_
  refine lv_ifnonnull (tgt := 12) hx hb dX2_move_7 (by decide) ?_
  refine lv_iload_n hx hb dX2_move_12 rfl (lv_at hl 2 rfl) ?_
  refine iw_if_ne (tgt := 26) hx hb dX2_move_13 (by decide) ⟨by omega, by omega⟩ (fun c1 => ?_) (fun c1 => ?_)
  ·
    exact absurd rfl c1
  ·
    refine lv_aload_n hx hb dX2_move_16 rfl (lv_at hl 1 rfl) ?_
    refine va_get (D := (dC, dI)) (ci := 2) (v := .ref (q 2)) (C := RX2) (T := TX2) (N := 4) hx hb hts (by decide +kernel) hown hK hP 0 rfl rfl 1 (by decide) (hts (.fieldLink RX2 16 "ExactFractions" "second" "LExactFractions$Fraction;") (by decide +kernel)) (fun _ h9 => h9) rfl dX2_move_17 ?_
    refine va_get (D := (dC, dI)) (ci := 0) (v := .ref (q 7)) (C := RX0) (T := TX0) (N := 4) hx hb hts (by decide +kernel) hown hK hP 2 rfl rfl 0 (by decide) (hts (.fieldLink RX2 65 "ExactFractions$Fraction" "above" "LExactFractions$Whole;") (by decide +kernel)) (fun _ h9 => h9) rfl dX2_move_20 ?_
    refine lv_goto (tgt := 33) hx hb dX2_move_23 (by decide) ?_
    refine lv_astore (lv' := [(4, .ref (q 7)), (3, .ref (q 1)), (0, .ref (q 0)), (1, .int (iv (0))), (2, .int (iv (dn)))]) hx hb dX2_move_33 hl (by decide) rfl (fun ls hl => ?_)
    refine lv_aload_n hx hb dX2_move_35 rfl (lv_at hl 1 rfl) ?_
    refine va_get (D := (dC, dI)) (ci := 0) (v := .int (iv (b1))) (C := RX0) (T := TX0) (N := 4) hx hb hts (by decide +kernel) hown hK hP 1 rfl rfl 2 (by decide) (hts (.fieldLink RX2 57 "ExactFractions$Fraction" "below" "Z") (by decide +kernel)) (fun _ h9 => h9) rfl dX2_move_36 ?_
    refine lv_iload_n hx hb dX2_move_39 rfl (lv_at hl 4 rfl) ?_
    refine iw_icmp_ne (tgt := 59) hx hb dX2_move_40 (by decide) (hbr) (hdr) (fun c2 => ?_) (fun c2 => ?_)
    ·
      exact absurd hd c2
    ·
      refine lv_aload_n hx hb dX2_move_43 rfl (lv_at hl 2 rfl) ?_
      refine va_get (D := (dC, dI)) (ci := 2) (v := .ref (q 11)) (C := RX2) (T := TX2) (N := 4) hx hb hts (by decide +kernel) hown hK hP 0 rfl rfl 2 (by decide) (hts (.fieldLink RX2 22 "ExactFractions" "left" "LExactFractions$Whole;") (by decide +kernel)) (fun _ h9 => h9) rfl dX2_move_44 ?_
      refine lv_aload_n hx hb dX2_move_47 rfl (lv_at hl 1 rfl) ?_
      refine va_get (D := (dC, dI)) (ci := 0) (v := .ref (q 3)) (C := RX0) (T := TX0) (N := 4) hx hb hts (by decide +kernel) hown hK hP 1 rfl rfl 0 (by decide) (hts (.fieldLink RX2 65 "ExactFractions$Fraction" "above" "LExactFractions$Whole;") (by decide +kernel)) (fun _ h9 => h9) rfl dX2_move_48 ?_
      refine lv_aload hx hb dX2_move_51 (lv_at hl 0 rfl) ?_
      refine ef_callV (As := [.ref (q 3), .ref (q 7)]) (rest := []) ⟨hx, hb, hml, hown, hts⟩ (c_sum l dC dI ht (isW_c (X := L) (ws := cC cI q (A1) (U1) (b1) (e1) (A2) (U2) (b2) (e2) (L) (R)) (k0 := 11) (k1 := 12) (by decide) rfl rfl) hL (wd_lt _) wd_z (isW_c (X := A1) (ws := cC cI q (A1) (U1) (b1) (e1) (A2) (U2) (b2) (e2) (L) (R)) (k0 := 3) (k1 := 4) (by decide) rfl rfl) (by omega) (apt_c (k0 := 11) (k1 := 12) (j0 := 3) (j1 := 4) rfl) (isW_c (X := A2) (ws := cC cI q (A1) (U1) (b1) (e1) (A2) (U2) (b2) (e2) (L) (R)) (k0 := 7) (k1 := 8) (by decide) rfl rfl) (by omega) (apt_c (k0 := 11) (k1 := 12) (j0 := 7) (j1 := 8) rfl)) (cwV 2 hts gX2_move_X1_becomeSum rfl rfl rfl (by decide +kernel) ⟨Nat.le_of_ble_eq_true rfl, Nat.le_of_ble_eq_true rfl⟩) hK hNX hP hD hS 11 rfl rfl rfl rfl hl.1 rfl (Nat.le_of_ble_eq_true rfl) dX2_move_53 ⟨Nat.zero_le _, Nat.zero_le _⟩ (fun o w1 H locs hq hP hD hS => ?_)
      obtain ⟨rfl, rfl⟩ := hq
      have hP : va_P (dC, dI) vwCl (cC cI q (A1) (U1) (b1) (e1) (A2) (U2) (b2) (e2) (A1 + A2) (R)) H := hP
      have hD : va_D (ef_A (cC cI q (A1) (U1) (b1) (e1) (A2) (U2) (b2) (e2) (L) (R))) (cC cI q (A1) (U1) (b1) (e1) (A2) (U2) (b2) (e2) (A1 + A2) (R)) := hD
      refine W.eq (g2 := F0 m 56 ls []) rfl ?_
      refine lv_goto (tgt := 105) hx hb dX2_move_56 (by decide) ?_
      refine lv_aload_n hx hb dX2_move_105 rfl (lv_at hl 2 rfl) ?_
      refine lv_aload_n hx hb dX2_move_106 rfl (lv_at hl 1 rfl) ?_
      refine va_get (D := (dC, dI)) (ci := 0) (v := .ref (q 3)) (C := RX0) (T := TX0) (N := 4) hx hb hts (by decide +kernel) hown hK hP 1 rfl rfl 0 (by decide) (hts (.fieldLink RX2 65 "ExactFractions$Fraction" "above" "LExactFractions$Whole;") (by decide +kernel)) (fun _ h9 => h9) rfl dX2_move_107 ?_
      refine ef_callV (As := [.ref (q 3)]) (rest := []) ⟨hx, hb, hml, hown, hts⟩ (c_keep00K l dC dI ht q hA1 hU1 hA2 hU2 (by omega) hR hb4) (cwV 1 hts gX2_move_X2_keepLeftIn rfl rfl rfl (by decide +kernel) ⟨Nat.le_of_ble_eq_true rfl, Nat.le_of_ble_eq_true rfl⟩) hK hNX hP hD hS 0 rfl rfl rfl rfl hl.1 rfl (Nat.le_of_ble_eq_true rfl) dX2_move_110 ⟨Nat.zero_le _, Nat.zero_le _⟩ (fun o w1 H locs hq hP hD hS => ?_)
      obtain ⟨rfl, rfl⟩ := hq
      have hP : va_P (dC, dI) vwCl (cC cI q (A1 + A2) (U1) (b1) (e1) (A2) (U2) (b2) (e2) (A1 + A2) (R)) H := hP
      have hD : va_D (ef_A (cC cI q (A1) (U1) (b1) (e1) (A2) (U2) (b2) (e2) (L) (R))) (cC cI q (A1 + A2) (U1) (b1) (e1) (A2) (U2) (b2) (e2) (A1 + A2) (R)) := hD
      refine W.eq (g2 := F0 m 113 ls [.int (iv ((bl (A1 + A2) : Int)))]) rfl ?_
      exact ef_iret hx hb hr hlocks hP hD hS dX2_move_113 (⟨_, _, rfl, rfl, by omega, hR⟩)

set_option maxRecDepth 100000 in
set_option maxHeartbeats 4000000 in
/-- move -/
theorem c_move0ge (l : Launch) (dC : Nat → ClassId) (dI : Nat → Nat → Nat) {cI : ClassId} {tys : List (ClassId × FieldType)} (ht : tys[0]? = some (cI, .int)) (q : Nat → Nat) {A1 U1 A2 U2 L R : Nat} {b1 e1 b2 e2 : Int} (hA1 : wl A1 ≤ 150) (hU1 : wl U1 ≤ 150) (hA2 : wl A2 ≤ 150) (hU2 : wl U2 ≤ 150) (hL : wl L ≤ 301) (hR : wl R ≤ 301) (hba : bl A1 ≤ 4800) (hbb : bl A2 ≤ 4800) (dn : Int) (hdn : dn = 0 ∨ dn = 1) (hbo : b1 = 0 ∨ b1 = 1) (hd : b1 ≠ dn) (hle : A2 ≤ A1) : ef_C l yX2_move wsX2_move ({ frames := 4, cells := 0, slots := 0, locals := 88 } : Room) [.ref (q 0), .int (iv (0)), .int (iv (dn))] (dC, dI) vwCl tys (cC cI q (A1) (U1) (b1) (e1) (A2) (U2) (b2) (e2) (L) (R)) (fun o w1 => ∃ L2 R2 : Nat, o = some (.int (iv (bl (A1 - A2) : Int))) ∧ w1 = cC cI q (A1 - A2) (U1) (b1) (e1) (A2) (U2) (b2) (e2) (L2) (R2) ∧ wl L2 ≤ 301 ∧ wl R2 ≤ 301) := by
  refine ef_C.of (cc := cX2_move) (maxL := 5) (ret := (some .int)) (by decide) rfl (Nat.le_of_ble_eq_true rfl) ?_
  intro p e s m below meth c ls hx hb hml hr hts hown hlocks hK hNX hP hD hS hl
  have hl : lv_has ls 5 [(0, .ref (q 0)), (1, .int (iv (0))), (2, .int (iv (dn)))] := hl
  have hown : s.vm.findClass RX2 = some m.cls := hown
  generalize hH : s.heap = H at hP ⊢
  have hS : va_S (ef_A (cC cI q (A1) (U1) (b1) (e1) (A2) (U2) (b2) (e2) (L) (R))) s.heap H [] := by rw [← hH]; exact hS
  generalize ([] : List Loc) = locs at hS ⊢
  have hdr : ir dn := by rcases hdn with h | h <;> rw [h] <;> exact ⟨by decide, by decide⟩
  have hbr : ir b1 := by rcases hbo with h | h <;> rw [h] <;> exact ⟨by decide, by decide⟩
  have hb4 : bl (A1 - A2) ≤ 4800 := Nat.le_trans (bl_mono (Nat.sub_le _ _)) hba
  have hwl : wl (A1 - A2) ≤ 151 := Nat.le_succ_of_le (wl_bl (k := 150) (by omega))
  refine lv_aload_n hx hb dX2_move_0 rfl (lv_at hl 0 rfl) ?_
  refine lv_iload_n hx hb dX2_move_1 rfl (lv_at hl 1 rfl) ?_
  refine ef_callV (As := [.int (iv (0))]) (rest := []) ⟨hx, hb, hml, hown, hts⟩ (c_numberOf0 l dC dI ht q) (cwV 1 hts gX2_move_X2_numberOf rfl rfl rfl (by decide +kernel) ⟨Nat.le_of_ble_eq_true rfl, Nat.le_of_ble_eq_true rfl⟩) hK hNX hP hD hS 0 rfl rfl rfl rfl hl.1 rfl (Nat.le_of_ble_eq_true rfl) dX2_move_2 ⟨Nat.zero_le _, Nat.zero_le _⟩ (fun o w1 H locs hq hP hD hS => ?_)
  obtain ⟨rfl, e9⟩ := hq
  rw [e9] at hP hD
  refine W.eq (g2 := F0 m 5 ls [.ref (q 1)]) rfl ?_
  refine lv_astore_n (lv' := [(3, .ref (q 1)), (0, .ref (q 0)), (1, .int (iv (0))), (2, .int (iv (dn)))]) hx hb dX2_move_5 rfl hl (by decide) rfl (fun ls hl => ?_)
  refine lv_aload_n hx hb dX2_move_6 rfl (lv_at hl 0 rfl) ?_
  refine lv_ifnonnull (tgt := 12) hx hb dX2_move_7 (by decide) ?_
  refine lv_iload_n hx hb dX2_move_12 rfl (lv_at hl 2 rfl) ?_
  refine iw_if_ne (tgt := 26) hx hb dX2_move_13 (by decide) ⟨by omega, by omega⟩ (fun c1 => ?_) (fun c1 => ?_)
  ·
    exact absurd rfl c1
  ·
    refine lv_aload_n hx hb dX2_move_16 rfl (lv_at hl 1 rfl) ?_
    refine va_get (D := (dC, dI)) (ci := 2) (v := .ref (q 2)) (C := RX2) (T := TX2) (N := 4) hx hb hts (by decide +kernel) hown hK hP 0 rfl rfl 1 (by decide) (hts (.fieldLink RX2 16 "ExactFractions" "second" "LExactFractions$Fraction;") (by decide +kernel)) (fun _ h9 => h9) rfl dX2_move_17 ?_
    refine va_get (D := (dC, dI)) (ci := 0) (v := .ref (q 7)) (C := RX0) (T := TX0) (N := 4) hx hb hts (by decide +kernel) hown hK hP 2 rfl rfl 0 (by decide) (hts (.fieldLink RX2 65 "ExactFractions$Fraction" "above" "LExactFractions$Whole;") (by decide +kernel)) (fun _ h9 => h9) rfl dX2_move_20 ?_
    refine lv_goto (tgt := 33) hx hb dX2_move_23 (by decide) ?_
    refine lv_astore (lv' := [(4, .ref (q 7)), (3, .ref (q 1)), (0, .ref (q 0)), (1, .int (iv (0))), (2, .int (iv (dn)))]) hx hb dX2_move_33 hl (by decide) rfl (fun ls hl => ?_)
    refine lv_aload_n hx hb dX2_move_35 rfl (lv_at hl 1 rfl) ?_
    refine va_get (D := (dC, dI)) (ci := 0) (v := .int (iv (b1))) (C := RX0) (T := TX0) (N := 4) hx hb hts (by decide +kernel) hown hK hP 1 rfl rfl 2 (by decide) (hts (.fieldLink RX2 57 "ExactFractions$Fraction" "below" "Z") (by decide +kernel)) (fun _ h9 => h9) rfl dX2_move_36 ?_
    refine lv_iload_n hx hb dX2_move_39 rfl (lv_at hl 4 rfl) ?_
    refine iw_icmp_ne (tgt := 59) hx hb dX2_move_40 (by decide) (hbr) (hdr) (fun c2 => ?_) (fun c2 => ?_)
    ·
      refine lv_aload_n hx hb dX2_move_59 rfl (lv_at hl 1 rfl) ?_
      refine va_get (D := (dC, dI)) (ci := 0) (v := .ref (q 3)) (C := RX0) (T := TX0) (N := 4) hx hb hts (by decide +kernel) hown hK hP 1 rfl rfl 0 (by decide) (hts (.fieldLink RX2 65 "ExactFractions$Fraction" "above" "LExactFractions$Whole;") (by decide +kernel)) (fun _ h9 => h9) rfl dX2_move_60 ?_
      refine lv_aload hx hb dX2_move_63 (lv_at hl 0 rfl) ?_
      refine ef_callV (As := [.ref (q 7)]) (rest := []) ⟨hx, hb, hml, hown, hts⟩ (c_order l dC dI ht (isW_c (X := A1) (ws := cC cI q (A1) (U1) (b1) (e1) (A2) (U2) (b2) (e2) (L) (R)) (k0 := 3) (k1 := 4) (by decide) rfl rfl) (by omega) (isW_c (X := A2) (ws := cC cI q (A1) (U1) (b1) (e1) (A2) (U2) (b2) (e2) (L) (R)) (k0 := 7) (k1 := 8) (by decide) rfl rfl) (by omega)) (cwV 1 hts gX2_move_X1_order rfl rfl rfl (by decide +kernel) ⟨Nat.le_of_ble_eq_true rfl, Nat.le_of_ble_eq_true rfl⟩) hK hNX hP hD hS 3 rfl rfl rfl rfl hl.1 rfl (Nat.le_of_ble_eq_true rfl) dX2_move_65 ⟨Nat.zero_le _, Nat.zero_le _⟩ (fun o w1 H locs hq hP hD hS => ?_)
      obtain ⟨rfl, e9⟩ := hq
      rw [e9] at hP hD
      refine W.eq (g2 := F0 m 68 ls [.int (iv (zc A1 A2))]) rfl ?_
      refine iw_if_lt (tgt := 87) hx hb dX2_move_68 (by decide) (ir_zc _ _) (fun c3 => ?_) (fun c3 => ?_)
      ·
        exact absurd ((zc_ge _ _).2 (by omega : ((A2 : Nat) : Int) ≤ ((A1 : Nat) : Int))) (by omega)
      ·
        refine lv_aload_n hx hb dX2_move_71 rfl (lv_at hl 2 rfl) ?_
        refine va_get (D := (dC, dI)) (ci := 2) (v := .ref (q 11)) (C := RX2) (T := TX2) (N := 4) hx hb hts (by decide +kernel) hown hK hP 0 rfl rfl 2 (by decide) (hts (.fieldLink RX2 22 "ExactFractions" "left" "LExactFractions$Whole;") (by decide +kernel)) (fun _ h9 => h9) rfl dX2_move_72 ?_
        refine lv_aload_n hx hb dX2_move_75 rfl (lv_at hl 1 rfl) ?_
        refine va_get (D := (dC, dI)) (ci := 0) (v := .ref (q 3)) (C := RX0) (T := TX0) (N := 4) hx hb hts (by decide +kernel) hown hK hP 1 rfl rfl 0 (by decide) (hts (.fieldLink RX2 65 "ExactFractions$Fraction" "above" "LExactFractions$Whole;") (by decide +kernel)) (fun _ h9 => h9) rfl dX2_move_76 ?_
        refine lv_aload hx hb dX2_move_79 (lv_at hl 0 rfl) ?_
        refine ef_callV (As := [.ref (q 3), .ref (q 7)]) (rest := []) ⟨hx, hb, hml, hown, hts⟩ (c_diff l dC dI ht (isW_c (X := L) (ws := cC cI q (A1) (U1) (b1) (e1) (A2) (U2) (b2) (e2) (L) (R)) (k0 := 11) (k1 := 12) (by decide) rfl rfl) hL (wd_lt _) wd_z (isW_c (X := A1) (ws := cC cI q (A1) (U1) (b1) (e1) (A2) (U2) (b2) (e2) (L) (R)) (k0 := 3) (k1 := 4) (by decide) rfl rfl) (by omega) (apt_c (k0 := 11) (k1 := 12) (j0 := 3) (j1 := 4) rfl) (isW_c (X := A2) (ws := cC cI q (A1) (U1) (b1) (e1) (A2) (U2) (b2) (e2) (L) (R)) (k0 := 7) (k1 := 8) (by decide) rfl rfl) (by omega) (apt_c (k0 := 11) (k1 := 12) (j0 := 7) (j1 := 8) rfl) (by omega)) (cwV 2 hts gX2_move_X1_becomeDifference rfl rfl rfl (by decide +kernel) ⟨Nat.le_of_ble_eq_true rfl, Nat.le_of_ble_eq_true rfl⟩) hK hNX hP hD hS 11 rfl rfl rfl rfl hl.1 rfl (Nat.le_of_ble_eq_true rfl) dX2_move_81 ⟨Nat.zero_le _, Nat.zero_le _⟩ (fun o w1 H locs hq hP hD hS => ?_)
        obtain ⟨rfl, rfl⟩ := hq
        have hP : va_P (dC, dI) vwCl (cC cI q (A1) (U1) (b1) (e1) (A2) (U2) (b2) (e2) (A1 - A2) (R)) H := hP
        have hD : va_D (ef_A (cC cI q (A1) (U1) (b1) (e1) (A2) (U2) (b2) (e2) (L) (R))) (cC cI q (A1) (U1) (b1) (e1) (A2) (U2) (b2) (e2) (A1 - A2) (R)) := hD
        refine W.eq (g2 := F0 m 84 ls []) rfl ?_
        refine lv_goto (tgt := 105) hx hb dX2_move_84 (by decide) ?_
        refine lv_aload_n hx hb dX2_move_105 rfl (lv_at hl 2 rfl) ?_
        refine lv_aload_n hx hb dX2_move_106 rfl (lv_at hl 1 rfl) ?_
        refine va_get (D := (dC, dI)) (ci := 0) (v := .ref (q 3)) (C := RX0) (T := TX0) (N := 4) hx hb hts (by decide +kernel) hown hK hP 1 rfl rfl 0 (by decide) (hts (.fieldLink RX2 65 "ExactFractions$Fraction" "above" "LExactFractions$Whole;") (by decide +kernel)) (fun _ h9 => h9) rfl dX2_move_107 ?_
        refine ef_callV (As := [.ref (q 3)]) (rest := []) ⟨hx, hb, hml, hown, hts⟩ (c_keep00K l dC dI ht q hA1 hU1 hA2 hU2 (by omega) hR hb4) (cwV 1 hts gX2_move_X2_keepLeftIn rfl rfl rfl (by decide +kernel) ⟨Nat.le_of_ble_eq_true rfl, Nat.le_of_ble_eq_true rfl⟩) hK hNX hP hD hS 0 rfl rfl rfl rfl hl.1 rfl (Nat.le_of_ble_eq_true rfl) dX2_move_110 ⟨Nat.zero_le _, Nat.zero_le _⟩ (fun o w1 H locs hq hP hD hS => ?_)
        obtain ⟨rfl, rfl⟩ := hq
        have hP : va_P (dC, dI) vwCl (cC cI q (A1 - A2) (U1) (b1) (e1) (A2) (U2) (b2) (e2) (A1 - A2) (R)) H := hP
        have hD : va_D (ef_A (cC cI q (A1) (U1) (b1) (e1) (A2) (U2) (b2) (e2) (L) (R))) (cC cI q (A1 - A2) (U1) (b1) (e1) (A2) (U2) (b2) (e2) (A1 - A2) (R)) := hD
        refine W.eq (g2 := F0 m 113 ls [.int (iv ((bl (A1 - A2) : Int)))]) rfl ?_
        exact ef_iret hx hb hr hlocks hP hD hS dX2_move_113 (⟨_, _, rfl, rfl, by omega, hR⟩)
    ·
      exact absurd c2 hd

set_option maxRecDepth 100000 in
set_option maxHeartbeats 4000000 in
/-- move -/
theorem c_move0lt (l : Launch) (dC : Nat → ClassId) (dI : Nat → Nat → Nat) {cI : ClassId} {tys : List (ClassId × FieldType)} (ht : tys[0]? = some (cI, .int)) (q : Nat → Nat) {A1 U1 A2 U2 L R : Nat} {b1 e1 b2 e2 : Int} (hA1 : wl A1 ≤ 150) (hU1 : wl U1 ≤ 150) (hA2 : wl A2 ≤ 150) (hU2 : wl U2 ≤ 150) (hL : wl L ≤ 301) (hR : wl R ≤ 301) (hba : bl A1 ≤ 4800) (hbb : bl A2 ≤ 4800) (dn : Int) (hdn : dn = 0 ∨ dn = 1) (hbo : b1 = 0 ∨ b1 = 1) (hd : b1 ≠ dn) (hle : A1 < A2) : ef_C l yX2_move wsX2_move ({ frames := 4, cells := 0, slots := 0, locals := 88 } : Room) [.ref (q 0), .int (iv (0)), .int (iv (dn))] (dC, dI) vwCl tys (cC cI q (A1) (U1) (b1) (e1) (A2) (U2) (b2) (e2) (L) (R)) (fun o w1 => ∃ L2 R2 : Nat, o = some (.int (iv (bl (A2 - A1) : Int))) ∧ w1 = cC cI q (A2 - A1) (U1) (dn) (e1) (A2) (U2) (b2) (e2) (L2) (R2) ∧ wl L2 ≤ 301 ∧ wl R2 ≤ 301) := by
  refine ef_C.of (cc := cX2_move) (maxL := 5) (ret := (some .int)) (by decide) rfl (Nat.le_of_ble_eq_true rfl) ?_
  intro p e s m below meth c ls hx hb hml hr hts hown hlocks hK hNX hP hD hS hl
  have hl : lv_has ls 5 [(0, .ref (q 0)), (1, .int (iv (0))), (2, .int (iv (dn)))] := hl
  have hown : s.vm.findClass RX2 = some m.cls := hown
  generalize hH : s.heap = H at hP ⊢
  have hS : va_S (ef_A (cC cI q (A1) (U1) (b1) (e1) (A2) (U2) (b2) (e2) (L) (R))) s.heap H [] := by rw [← hH]; exact hS
  generalize ([] : List Loc) = locs at hS ⊢
  have hdr : ir dn := by rcases hdn with h | h <;> rw [h] <;> exact ⟨by decide, by decide⟩
  have hbr : ir b1 := by rcases hbo with h | h <;> rw [h] <;> exact ⟨by decide, by decide⟩
  have hb4 : bl (A2 - A1) ≤ 4800 := Nat.le_trans (bl_mono (Nat.sub_le _ _)) hbb
  have hwl : wl (A2 - A1) ≤ 151 := Nat.le_succ_of_le (wl_bl (k := 150) (by omega))
  refine lv_aload_n hx hb dX2_move_0 rfl (lv_at hl 0 rfl) ?_
  refine lv_iload_n hx hb dX2_move_1 rfl (lv_at hl 1 rfl) ?_
  refine ef_callV (As := [.int (iv (0))]) (rest := []) ⟨hx, hb, hml, hown, hts⟩ (c_numberOf0 l dC dI ht q) (cwV 1 hts gX2_move_X2_numberOf rfl rfl rfl (by decide +kernel) ⟨Nat.le_of_ble_eq_true rfl, Nat.le_of_ble_eq_true rfl⟩) hK hNX hP hD hS 0 rfl rfl rfl rfl hl.1 rfl (Nat.le_of_ble_eq_true rfl) dX2_move_2 ⟨Nat.zero_le _, Nat.zero_le _⟩ (fun o w1 H locs hq hP hD hS => ?_)
  obtain ⟨rfl, e9⟩ := hq
  rw [e9] at hP hD
  refine W.eq (g2 := F0 m 5 ls [.ref (q 1)]) rfl ?_
  refine lv_astore_n (lv' := [(3, .ref (q 1)), (0, .ref (q 0)), (1, .int (iv (0))), (2, .int (iv (dn)))]) hx hb dX2_move_5 rfl hl (by decide) rfl (fun ls hl => ?_)
  refine lv_aload_n hx hb dX2_move_6 rfl (lv_at hl 0 rfl) ?_
  refine lv_ifnonnull (tgt := 12) hx hb dX2_move_7 (by decide) ?_
  refine lv_iload_n hx hb dX2_move_12 rfl (lv_at hl 2 rfl) ?_
  refine iw_if_ne (tgt := 26) hx hb dX2_move_13 (by decide) ⟨by omega, by omega⟩ (fun c1 => ?_) (fun c1 => ?_)
  ·
    exact absurd rfl c1
  ·
    refine lv_aload_n hx hb dX2_move_16 rfl (lv_at hl 1 rfl) ?_
    refine va_get (D := (dC, dI)) (ci := 2) (v := .ref (q 2)) (C := RX2) (T := TX2) (N := 4) hx hb hts (by decide +kernel) hown hK hP 0 rfl rfl 1 (by decide) (hts (.fieldLink RX2 16 "ExactFractions" "second" "LExactFractions$Fraction;") (by decide +kernel)) (fun _ h9 => h9) rfl dX2_move_17 ?_
    refine va_get (D := (dC, dI)) (ci := 0) (v := .ref (q 7)) (C := RX0) (T := TX0) (N := 4) hx hb hts (by decide +kernel) hown hK hP 2 rfl rfl 0 (by decide) (hts (.fieldLink RX2 65 "ExactFractions$Fraction" "above" "LExactFractions$Whole;") (by decide +kernel)) (fun _ h9 => h9) rfl dX2_move_20 ?_
    refine lv_goto (tgt := 33) hx hb dX2_move_23 (by decide) ?_
    refine lv_astore (lv' := [(4, .ref (q 7)), (3, .ref (q 1)), (0, .ref (q 0)), (1, .int (iv (0))), (2, .int (iv (dn)))]) hx hb dX2_move_33 hl (by decide) rfl (fun ls hl => ?_)
    refine lv_aload_n hx hb dX2_move_35 rfl (lv_at hl 1 rfl) ?_
    refine va_get (D := (dC, dI)) (ci := 0) (v := .int (iv (b1))) (C := RX0) (T := TX0) (N := 4) hx hb hts (by decide +kernel) hown hK hP 1 rfl rfl 2 (by decide) (hts (.fieldLink RX2 57 "ExactFractions$Fraction" "below" "Z") (by decide +kernel)) (fun _ h9 => h9) rfl dX2_move_36 ?_
    refine lv_iload_n hx hb dX2_move_39 rfl (lv_at hl 4 rfl) ?_
    refine iw_icmp_ne (tgt := 59) hx hb dX2_move_40 (by decide) (hbr) (hdr) (fun c2 => ?_) (fun c2 => ?_)
    ·
      refine lv_aload_n hx hb dX2_move_59 rfl (lv_at hl 1 rfl) ?_
      refine va_get (D := (dC, dI)) (ci := 0) (v := .ref (q 3)) (C := RX0) (T := TX0) (N := 4) hx hb hts (by decide +kernel) hown hK hP 1 rfl rfl 0 (by decide) (hts (.fieldLink RX2 65 "ExactFractions$Fraction" "above" "LExactFractions$Whole;") (by decide +kernel)) (fun _ h9 => h9) rfl dX2_move_60 ?_
      refine lv_aload hx hb dX2_move_63 (lv_at hl 0 rfl) ?_
      refine ef_callV (As := [.ref (q 7)]) (rest := []) ⟨hx, hb, hml, hown, hts⟩ (c_order l dC dI ht (isW_c (X := A1) (ws := cC cI q (A1) (U1) (b1) (e1) (A2) (U2) (b2) (e2) (L) (R)) (k0 := 3) (k1 := 4) (by decide) rfl rfl) (by omega) (isW_c (X := A2) (ws := cC cI q (A1) (U1) (b1) (e1) (A2) (U2) (b2) (e2) (L) (R)) (k0 := 7) (k1 := 8) (by decide) rfl rfl) (by omega)) (cwV 1 hts gX2_move_X1_order rfl rfl rfl (by decide +kernel) ⟨Nat.le_of_ble_eq_true rfl, Nat.le_of_ble_eq_true rfl⟩) hK hNX hP hD hS 3 rfl rfl rfl rfl hl.1 rfl (Nat.le_of_ble_eq_true rfl) dX2_move_65 ⟨Nat.zero_le _, Nat.zero_le _⟩ (fun o w1 H locs hq hP hD hS => ?_)
      obtain ⟨rfl, e9⟩ := hq
      rw [e9] at hP hD
      refine W.eq (g2 := F0 m 68 ls [.int (iv (zc A1 A2))]) rfl ?_
      refine iw_if_lt (tgt := 87) hx hb dX2_move_68 (by decide) (ir_zc _ _) (fun c3 => ?_) (fun c3 => ?_)
      ·
        refine lv_aload_n hx hb dX2_move_87 rfl (lv_at hl 2 rfl) ?_
        refine va_get (D := (dC, dI)) (ci := 2) (v := .ref (q 11)) (C := RX2) (T := TX2) (N := 4) hx hb hts (by decide +kernel) hown hK hP 0 rfl rfl 2 (by decide) (hts (.fieldLink RX2 22 "ExactFractions" "left" "LExactFractions$Whole;") (by decide +kernel)) (fun _ h9 => h9) rfl dX2_move_88 ?_
        refine lv_aload hx hb dX2_move_91 (lv_at hl 0 rfl) ?_
        refine lv_aload_n hx hb dX2_move_93 rfl (lv_at hl 1 rfl) ?_
        refine va_get (D := (dC, dI)) (ci := 0) (v := .ref (q 3)) (C := RX0) (T := TX0) (N := 4) hx hb hts (by decide +kernel) hown hK hP 1 rfl rfl 0 (by decide) (hts (.fieldLink RX2 65 "ExactFractions$Fraction" "above" "LExactFractions$Whole;") (by decide +kernel)) (fun _ h9 => h9) rfl dX2_move_94 ?_
        refine ef_callV (As := [.ref (q 7), .ref (q 3)]) (rest := []) ⟨hx, hb, hml, hown, hts⟩ (c_diff l dC dI ht (isW_c (X := L) (ws := cC cI q (A1) (U1) (b1) (e1) (A2) (U2) (b2) (e2) (L) (R)) (k0 := 11) (k1 := 12) (by decide) rfl rfl) hL (wd_lt _) wd_z (isW_c (X := A2) (ws := cC cI q (A1) (U1) (b1) (e1) (A2) (U2) (b2) (e2) (L) (R)) (k0 := 7) (k1 := 8) (by decide) rfl rfl) (by omega) (apt_c (k0 := 11) (k1 := 12) (j0 := 7) (j1 := 8) rfl) (isW_c (X := A1) (ws := cC cI q (A1) (U1) (b1) (e1) (A2) (U2) (b2) (e2) (L) (R)) (k0 := 3) (k1 := 4) (by decide) rfl rfl) (by omega) (apt_c (k0 := 11) (k1 := 12) (j0 := 3) (j1 := 4) rfl) (by omega)) (cwV 2 hts gX2_move_X1_becomeDifference rfl rfl rfl (by decide +kernel) ⟨Nat.le_of_ble_eq_true rfl, Nat.le_of_ble_eq_true rfl⟩) hK hNX hP hD hS 11 rfl rfl rfl rfl hl.1 rfl (Nat.le_of_ble_eq_true rfl) dX2_move_97 ⟨Nat.zero_le _, Nat.zero_le _⟩ (fun o w1 H locs hq hP hD hS => ?_)
        obtain ⟨rfl, rfl⟩ := hq
        have hP : va_P (dC, dI) vwCl (cC cI q (A1) (U1) (b1) (e1) (A2) (U2) (b2) (e2) (A2 - A1) (R)) H := hP
        have hD : va_D (ef_A (cC cI q (A1) (U1) (b1) (e1) (A2) (U2) (b2) (e2) (L) (R))) (cC cI q (A1) (U1) (b1) (e1) (A2) (U2) (b2) (e2) (A2 - A1) (R)) := hD
        refine W.eq (g2 := F0 m 100 ls []) rfl ?_
        refine lv_aload_n hx hb dX2_move_100 rfl (lv_at hl 1 rfl) ?_
        refine lv_iload_n hx hb dX2_move_101 rfl (lv_at hl 4 rfl) ?_
        refine va_put (D := (dC, dI)) (ci := 0) (v := .int (iv (dn))) (ty := .boolean) (C := RX0) (T := TX0) (N := 4) hx hb hts (by decide +kernel) tyX0 tyX0_ok nmX0 hown hK hP hD hS 1 rfl rfl 2 (by decide) (hts (.fieldLink RX2 57 "ExactFractions$Fraction" "below" "Z") (by decide +kernel)) (fun _ h9 => h9) rfl (by decide +kernel) (by rcases hdn with h9 | h9 <;> rw [h9] <;> rfl) (by rcases hdn with h9 | h9 <;> rw [h9] <;> rfl) (Nat.le_of_ble_eq_true rfl) dX2_move_102 (fun H locs hP hD hS => ?_)
        have hP : va_P (dC, dI) vwCl (cC cI q (A1) (U1) (dn) (e1) (A2) (U2) (b2) (e2) (A2 - A1) (R)) H := hP
        have hD : va_D (ef_A (cC cI q (A1) (U1) (b1) (e1) (A2) (U2) (b2) (e2) (L) (R))) (cC cI q (A1) (U1) (dn) (e1) (A2) (U2) (b2) (e2) (A2 - A1) (R)) := hD
        refine lv_aload_n hx hb dX2_move_105 rfl (lv_at hl 2 rfl) ?_
        refine lv_aload_n hx hb dX2_move_106 rfl (lv_at hl 1 rfl) ?_
        refine va_get (D := (dC, dI)) (ci := 0) (v := .ref (q 3)) (C := RX0) (T := TX0) (N := 4) hx hb hts (by decide +kernel) hown hK hP 1 rfl rfl 0 (by decide) (hts (.fieldLink RX2 65 "ExactFractions$Fraction" "above" "LExactFractions$Whole;") (by decide +kernel)) (fun _ h9 => h9) rfl dX2_move_107 ?_
        refine ef_callV (As := [.ref (q 3)]) (rest := []) ⟨hx, hb, hml, hown, hts⟩ (c_keep00K l dC dI ht q hA1 hU1 hA2 hU2 (by omega) hR hb4) (cwV 1 hts gX2_move_X2_keepLeftIn rfl rfl rfl (by decide +kernel) ⟨Nat.le_of_ble_eq_true rfl, Nat.le_of_ble_eq_true rfl⟩) hK hNX hP hD hS 0 rfl rfl rfl rfl hl.1 rfl (Nat.le_of_ble_eq_true rfl) dX2_move_110 ⟨Nat.zero_le _, Nat.zero_le _⟩ (fun o w1 H locs hq hP hD hS => ?_)
        obtain ⟨rfl, rfl⟩ := hq
        have hP : va_P (dC, dI) vwCl (cC cI q (A2 - A1) (U1) (dn) (e1) (A2) (U2) (b2) (e2) (A2 - A1) (R)) H := hP
        have hD : va_D (ef_A (cC cI q (A1) (U1) (b1) (e1) (A2) (U2) (b2) (e2) (L) (R))) (cC cI q (A2 - A1) (U1) (dn) (e1) (A2) (U2) (b2) (e2) (A2 - A1) (R)) := hD
        refine W.eq (g2 := F0 m 113 ls [.int (iv ((bl (A2 - A1) : Int)))]) rfl ?_
        exact ef_iret hx hb hr hlocks hP hD hS dX2_move_113 (⟨_, _, rfl, rfl, by omega, hR⟩)
      ·
        exact absurd ((zc_ge _ _).1 c3) (by omega)
    ·
      exact absurd c2 hd

set_option maxRecDepth 100000 in
set_option maxHeartbeats 4000000 in
/-- move -/
theorem c_move1sumF (l : Launch) (dC : Nat → ClassId) (dI : Nat → Nat → Nat) {cI : ClassId} {tys : List (ClassId × FieldType)} (ht : tys[0]? = some (cI, .int)) (q : Nat → Nat) {A1 U1 A2 U2 L R : Nat} {b1 e1 b2 e2 : Int} (hA1 : wl A1 ≤ 150) (hU1 : wl U1 ≤ 150) (hA2 : wl A2 ≤ 150) (hU2 : wl U2 ≤ 150) (hL : wl L ≤ 301) (hR : wl R ≤ 301) (hba : bl A1 ≤ 4800) (hbb : bl A2 ≤ 4800) (dn : Int) (hdn : dn = 0 ∨ dn = 1) (hbo : b2 = 0 ∨ b2 = 1) (hd : b2 = dn) (hb4 : 4800 < bl (A2 + A1)) : ef_C l yX2_move wsX2_move ({ frames := 4, cells := 0, slots := 0, locals := 88 } : Room) [.ref (q 0), .int (iv (1)), .int (iv (dn))] (dC, dI) vwCl tys (cC cI q (A1) (U1) (b1) (e1) (A2) (U2) (b2) (e2) (L) (R)) (fun o w1 => ∃ L2 R2 : Nat, o = some (.int (iv (-2))) ∧ w1 = cC cI q (A1) (U1) (b1) (e1) (A2) (U2) (b2) (e2) (L2) (R2) ∧ wl L2 ≤ 301 ∧ wl R2 ≤ 301) := by
  refine ef_C.of (cc := cX2_move) (maxL := 5) (ret := (some .int)) (by decide) rfl (Nat.le_of_ble_eq_true rfl) ?_
  intro p e s m below meth c ls hx hb hml hr hts hown hlocks hK hNX hP hD hS hl
  have hl : lv_has ls 5 [(0, .ref (q 0)), (1, .int (iv (1))), (2, .int (iv (dn)))] := hl
  have hown : s.vm.findClass RX2 = some m.cls := hown
  generalize hH : s.heap = H at hP ⊢
  have hS : va_S (ef_A (cC cI q (A1) (U1) (b1) (e1) (A2) (U2) (b2) (e2) (L) (R))) s.heap H [] := by rw [← hH]; exact hS
  generalize ([] : List Loc) = locs at hS ⊢
  have hdr : ir dn := by rcases hdn with h | h <;> rw [h] <;> exact ⟨by decide, by decide⟩
  have hbr : ir b2 := by rcases hbo with h | h <;> rw [h] <;> exact ⟨by decide, by decide⟩
  have hwl : wl (A2 + A1) ≤ 151 := wl_add hA2 hA1
  refine lv_aload_n hx hb dX2_move_0 rfl (lv_at hl 0 rfl) ?_
  refine lv_iload_n hx hb dX2_move_1 rfl (lv_at hl 1 rfl) ?_
  refine ef_callV (As := [.int (iv (1))]) (rest := []) ⟨hx, hb, hml, hown, hts⟩ (c_numberOf1 l dC dI ht q) (cwV 1 hts gX2_move_X2_numberOf rfl rfl rfl (by decide +kernel) ⟨Nat.le_of_ble_eq_true rfl, Nat.le_of_ble_eq_true rfl⟩) hK hNX hP hD hS 0 rfl rfl rfl rfl hl.1 rfl (Nat.le_of_ble_eq_true rfl) dX2_move_2 ⟨Nat.zero_le _, Nat.zero_le _⟩ (fun o w1 H locs hq hP hD hS => ?_)
  obtain ⟨rfl, e9⟩ := hq
  rw [e9] at hP hD
  refine W.eq (g2 := F0 m 5 ls [.ref (q 2)]) rfl ?_
  refine lv_astore_n (lv' := [(3, .ref (q 2)), (0, .ref (q 0)), (1, .int (iv (1))), (2, .int (iv (dn)))]) hx hb dX2_move_5 rfl hl (by decide) rfl (fun ls hl => ?_)
  refine lv_aload_n hx hb dX2_move_6 rfl (lv_at hl 0 rfl) ?_
  refine lv_ifnonnull (tgt := 12) hx hb dX2_move_7 (by decide) ?_
  refine lv_iload_n hx hb dX2_move_12 rfl (lv_at hl 2 rfl) ?_
  refine iw_if_ne (tgt := 26) hx hb dX2_move_13 (by decide) ⟨by omega, by omega⟩ (fun c1 => ?_) (fun c1 => ?_)
  ·
    refine lv_aload_n hx hb dX2_move_26 rfl (lv_at hl 1 rfl) ?_
    refine va_get (D := (dC, dI)) (ci := 2) (v := .ref (q 1)) (C := RX2) (T := TX2) (N := 4) hx hb hts (by decide +kernel) hown hK hP 0 rfl rfl 0 (by decide) (hts (.fieldLink RX2 12 "ExactFractions" "first" "LExactFractions$Fraction;") (by decide +kernel)) (fun _ h9 => h9) rfl dX2_move_27 ?_
    refine va_get (D := (dC, dI)) (ci := 0) (v := .ref (q 3)) (C := RX0) (T := TX0) (N := 4) hx hb hts (by decide +kernel) hown hK hP 1 rfl rfl 0 (by decide) (hts (.fieldLink RX2 65 "ExactFractions$Fraction" "above" "LExactFractions$Whole;") (by decide +kernel)) (fun _ h9 => h9) rfl dX2_move_30 ?_
    refine lv_astore (lv' := [(4, .ref (q 3)), (3, .ref (q 2)), (0, .ref (q 0)), (1, .int (iv (1))), (2, .int (iv (dn)))]) hx hb dX2_move_33 hl (by decide) rfl (fun ls hl => ?_)
    refine lv_aload_n hx hb dX2_move_35 rfl (lv_at hl 1 rfl) ?_
    refine va_get (D := (dC, dI)) (ci := 0) (v := .int (iv (b2))) (C := RX0) (T := TX0) (N := 4) hx hb hts (by decide +kernel) hown hK hP 2 rfl rfl 2 (by decide) (hts (.fieldLink RX2 57 "ExactFractions$Fraction" "below" "Z") (by decide +kernel)) (fun _ h9 => h9) rfl dX2_move_36 ?_
    refine lv_iload_n hx hb dX2_move_39 rfl (lv_at hl 4 rfl) ?_
    refine iw_icmp_ne (tgt := 59) hx hb dX2_move_40 (by decide) (hbr) (hdr) (fun c2 => ?_) (fun c2 => ?_)
    ·
      exact absurd hd c2
    ·
      refine lv_aload_n hx hb dX2_move_43 rfl (lv_at hl 2 rfl) ?_
      refine va_get (D := (dC, dI)) (ci := 2) (v := .ref (q 11)) (C := RX2) (T := TX2) (N := 4) hx hb hts (by decide +kernel) hown hK hP 0 rfl rfl 2 (by decide) (hts (.fieldLink RX2 22 "ExactFractions" "left" "LExactFractions$Whole;") (by decide +kernel)) (fun _ h9 => h9) rfl dX2_move_44 ?_
      refine lv_aload_n hx hb dX2_move_47 rfl (lv_at hl 1 rfl) ?_
      refine va_get (D := (dC, dI)) (ci := 0) (v := .ref (q 7)) (C := RX0) (T := TX0) (N := 4) hx hb hts (by decide +kernel) hown hK hP 2 rfl rfl 0 (by decide) (hts (.fieldLink RX2 65 "ExactFractions$Fraction" "above" "LExactFractions$Whole;") (by decide +kernel)) (fun _ h9 => h9) rfl dX2_move_48 ?_
      refine lv_aload hx hb dX2_move_51 (lv_at hl 0 rfl) ?_
      refine ef_callV (As := [.ref (q 7), .ref (q 3)]) (rest := []) ⟨hx, hb, hml, hown, hts⟩ (c_sum l dC dI ht (isW_c (X := L) (ws := cC cI q (A1) (U1) (b1) (e1) (A2) (U2) (b2) (e2) (L) (R)) (k0 := 11) (k1 := 12) (by decide) rfl rfl) hL (wd_lt _) wd_z (isW_c (X := A2) (ws := cC cI q (A1) (U1) (b1) (e1) (A2) (U2) (b2) (e2) (L) (R)) (k0 := 7) (k1 := 8) (by decide) rfl rfl) (by omega) (apt_c (k0 := 11) (k1 := 12) (j0 := 7) (j1 := 8) rfl) (isW_c (X := A1) (ws := cC cI q (A1) (U1) (b1) (e1) (A2) (U2) (b2) (e2) (L) (R)) (k0 := 3) (k1 := 4) (by decide) rfl rfl) (by omega) (apt_c (k0 := 11) (k1 := 12) (j0 := 3) (j1 := 4) rfl)) (cwV 2 hts gX2_move_X1_becomeSum rfl rfl rfl (by decide +kernel) ⟨Nat.le_of_ble_eq_true rfl, Nat.le_of_ble_eq_true rfl⟩) hK hNX hP hD hS 11 rfl rfl rfl rfl hl.1 rfl (Nat.le_of_ble_eq_true rfl) dX2_move_53 ⟨Nat.zero_le _, Nat.zero_le _⟩ (fun o w1 H locs hq hP hD hS => ?_)
      obtain ⟨rfl, rfl⟩ := hq
      have hP : va_P (dC, dI) vwCl (cC cI q (A1) (U1) (b1) (e1) (A2) (U2) (b2) (e2) (A2 + A1) (R)) H := hP
      have hD : va_D (ef_A (cC cI q (A1) (U1) (b1) (e1) (A2) (U2) (b2) (e2) (L) (R))) (cC cI q (A1) (U1) (b1) (e1) (A2) (U2) (b2) (e2) (A2 + A1) (R)) := hD
      refine W.eq (g2 := F0 m 56 ls []) rfl ?_
      refine lv_goto (tgt := 105) hx hb dX2_move_56 (by decide) ?_
      refine lv_aload_n hx hb dX2_move_105 rfl (lv_at hl 2 rfl) ?_
      refine lv_aload_n hx hb dX2_move_106 rfl (lv_at hl 1 rfl) ?_
      refine va_get (D := (dC, dI)) (ci := 0) (v := .ref (q 7)) (C := RX0) (T := TX0) (N := 4) hx hb hts (by decide +kernel) hown hK hP 2 rfl rfl 0 (by decide) (hts (.fieldLink RX2 65 "ExactFractions$Fraction" "above" "LExactFractions$Whole;") (by decide +kernel)) (fun _ h9 => h9) rfl dX2_move_107 ?_
      refine ef_callV (As := [.ref (q 7)]) (rest := []) ⟨hx, hb, hml, hown, hts⟩ (c_keep10F l dC dI ht q hA1 hU1 hA2 hU2 (by omega) hR hb4) (cwV 1 hts gX2_move_X2_keepLeftIn rfl rfl rfl (by decide +kernel) ⟨Nat.le_of_ble_eq_true rfl, Nat.le_of_ble_eq_true rfl⟩) hK hNX hP hD hS 0 rfl rfl rfl rfl hl.1 rfl (Nat.le_of_ble_eq_true rfl) dX2_move_110 ⟨Nat.zero_le _, Nat.zero_le _⟩ (fun o w1 H locs hq hP hD hS => ?_)
      obtain ⟨rfl, rfl⟩ := hq
      have hP : va_P (dC, dI) vwCl (cC cI q (A1) (U1) (b1) (e1) (A2) (U2) (b2) (e2) (A2 + A1) (R)) H := hP
      have hD : va_D (ef_A (cC cI q (A1) (U1) (b1) (e1) (A2) (U2) (b2) (e2) (L) (R))) (cC cI q (A1) (U1) (b1) (e1) (A2) (U2) (b2) (e2) (A2 + A1) (R)) := hD
      refine W.eq (g2 := F0 m 113 ls [.int (iv (-2))]) rfl ?_
      exact ef_iret hx hb hr hlocks hP hD hS dX2_move_113 (⟨_, _, rfl, rfl, by omega, hR⟩)
  ·
    exact absurd c1 (by decide)

set_option maxRecDepth 100000 in
set_option maxHeartbeats 4000000 in
/-- move -/
theorem c_move1sumK (l : Launch) (dC : Nat → ClassId) (dI : Nat → Nat → Nat) {cI : ClassId} {tys : List (ClassId × FieldType)} (ht : tys[0]? = some (cI, .int)) (q : Nat → Nat) {A1 U1 A2 U2 L R : Nat} {b1 e1 b2 e2 : Int} (hA1 : wl A1 ≤ 150) (hU1 : wl U1 ≤ 150) (hA2 : wl A2 ≤ 150) (hU2 : wl U2 ≤ 150) (hL : wl L ≤ 301) (hR : wl R ≤ 301) (hba : bl A1 ≤ 4800) (hbb : bl A2 ≤ 4800) (dn : Int) (hdn : dn = 0 ∨ dn = 1) (hbo : b2 = 0 ∨ b2 = 1) (hd : b2 = dn) (hb4 : bl (A2 + A1) ≤ 4800) : ef_C l yX2_move wsX2_move ({ frames := 4, cells := 0, slots := 0, locals := 88 } : Room) [.ref (q 0), .int (iv (1)), .int (iv (dn))] (dC, dI) vwCl tys (cC cI q (A1) (U1) (b1) (e1) (A2) (U2) (b2) (e2) (L) (R)) (fun o w1 => ∃ L2 R2 : Nat, o = some (.int (iv (bl (A2 + A1) : Int))) ∧ w1 = cC cI q (A1) (U1) (b1) (e1) (A2 + A1) (U2) (b2) (e2) (L2) (R2) ∧ wl L2 ≤ 301 ∧ wl R2 ≤ 301) := by
  refine ef_C.of (cc := cX2_move) (maxL := 5) (ret := (some .int)) (by decide) rfl (Nat.le_of_ble_eq_true rfl) ?_
  intro p e s m below meth c ls hx hb hml hr hts hown hlocks hK hNX hP hD hS hl
  have hl : lv_has ls 5 [(0, .ref (q 0)), (1, .int (iv (1))), (2, .int (iv (dn)))] := hl
  have hown : s.vm.findClass RX2 = some m.cls := hown
  generalize hH : s.heap = H at hP ⊢
  have hS : va_S (ef_A (cC cI q (A1) (U1) (b1) (e1) (A2) (U2) (b2) (e2) (L) (R))) s.heap H [] := by rw [← hH]; exact hS
  generalize ([] : List Loc) = locs at hS ⊢
  have hdr : ir dn := by rcases hdn with h | h <;> rw [h] <;> exact ⟨by decide, by decide⟩
  have hbr : ir b2 := by rcases hbo with h | h <;> rw [h] <;> exact ⟨by decide, by decide⟩
  have hwl : wl (A2 + A1) ≤ 151 := wl_add hA2 hA1
  refine lv_aload_n hx hb dX2_move_0 rfl (lv_at hl 0 rfl) ?_
  refine lv_iload_n hx hb dX2_move_1 rfl (lv_at hl 1 rfl) ?_
  refine ef_callV (As := [.int (iv (1))]) (rest := []) ⟨hx, hb, hml, hown, hts⟩ (c_numberOf1 l dC dI ht q) (cwV 1 hts gX2_move_X2_numberOf rfl rfl rfl (by decide +kernel) ⟨Nat.le_of_ble_eq_true rfl, Nat.le_of_ble_eq_true rfl⟩) hK hNX hP hD hS 0 rfl rfl rfl rfl hl.1 rfl (Nat.le_of_ble_eq_true rfl) dX2_move_2 ⟨Nat.zero_le _, Nat.zero_le _⟩ (fun o w1 H locs hq hP hD hS => ?_)
  obtain ⟨rfl, e9⟩ := hq
  rw [e9] at hP hD
  refine W.eq (g2 := F0 m 5 ls [.ref (q 2)]) rfl ?_
  refine lv_astore_n (lv' := [(3, .ref (q 2)), (0, .ref (q 0)), (1, .int (iv (1))), (2, .int (iv (dn)))]) hx hb dX2_move_5 rfl hl (by decide) rfl (fun ls hl => ?_)
  refine lv_aload_n hx hb dX2_move_6 rfl (lv_at hl 0 rfl) ?_
  refine lv_ifnonnull (tgt := 12) hx hb dX2_move_7 (by decide) ?_
  refine lv_iload_n hx hb dX2_move_12 rfl (lv_at hl 2 rfl) ?_
  refine iw_if_ne (tgt := 26) hx hb dX2_move_13 (by decide) ⟨by omega, by omega⟩ (fun c1 => ?_) (fun c1 => ?_)
  ·
    refine lv_aload_n hx hb dX2_move_26 rfl (lv_at hl 1 rfl) ?_
    refine va_get (D := (dC, dI)) (ci := 2) (v := .ref (q 1)) (C := RX2) (T := TX2) (N := 4) hx hb hts (by decide +kernel) hown hK hP 0 rfl rfl 0 (by decide) (hts (.fieldLink RX2 12 "ExactFractions" "first" "LExactFractions$Fraction;") (by decide +kernel)) (fun _ h9 => h9) rfl dX2_move_27 ?_
    refine va_get (D := (dC, dI)) (ci := 0) (v := .ref (q 3)) (C := RX0) (T := TX0) (N := 4) hx hb hts (by decide +kernel) hown hK hP 1 rfl rfl 0 (by decide) (hts (.fieldLink RX2 65 "ExactFractions$Fraction" "above" "LExactFractions$Whole;") (by decide +kernel)) (fun _ h9 => h9) rfl dX2_move_30 ?_
    refine lv_astore (lv' := [(4, .ref (q 3)), (3, .ref (q 2)), (0, .ref (q 0)), (1, .int (iv (1))), (2, .int (iv (dn)))]) hx hb dX2_move_33 hl (by decide) rfl (fun ls hl => ?_)
    refine lv_aload_n hx hb dX2_move_35 rfl (lv_at hl 1 rfl) ?_
    refine va_get (D := (dC, dI)) (ci := 0) (v := .int (iv (b2))) (C := RX0) (T := TX0) (N := 4) hx hb hts (by decide +kernel) hown hK hP 2 rfl rfl 2 (by decide) (hts (.fieldLink RX2 57 "ExactFractions$Fraction" "below" "Z") (by decide +kernel)) (fun _ h9 => h9) rfl dX2_move_36 ?_
    refine lv_iload_n hx hb dX2_move_39 rfl (lv_at hl 4 rfl) ?_
    refine iw_icmp_ne (tgt := 59) hx hb dX2_move_40 (by decide) (hbr) (hdr) (fun c2 => ?_) (fun c2 => ?_)
    ·
      exact absurd hd c2
    ·
      refine lv_aload_n hx hb dX2_move_43 rfl (lv_at hl 2 rfl) ?_
      refine va_get (D := (dC, dI)) (ci := 2) (v := .ref (q 11)) (C := RX2) (T := TX2) (N := 4) hx hb hts (by decide +kernel) hown hK hP 0 rfl rfl 2 (by decide) (hts (.fieldLink RX2 22 "ExactFractions" "left" "LExactFractions$Whole;") (by decide +kernel)) (fun _ h9 => h9) rfl dX2_move_44 ?_
      refine lv_aload_n hx hb dX2_move_47 rfl (lv_at hl 1 rfl) ?_
      refine va_get (D := (dC, dI)) (ci := 0) (v := .ref (q 7)) (C := RX0) (T := TX0) (N := 4) hx hb hts (by decide +kernel) hown hK hP 2 rfl rfl 0 (by decide) (hts (.fieldLink RX2 65 "ExactFractions$Fraction" "above" "LExactFractions$Whole;") (by decide +kernel)) (fun _ h9 => h9) rfl dX2_move_48 ?_
      refine lv_aload hx hb dX2_move_51 (lv_at hl 0 rfl) ?_
      refine ef_callV (As := [.ref (q 7), .ref (q 3)]) (rest := []) ⟨hx, hb, hml, hown, hts⟩ (c_sum l dC dI ht (isW_c (X := L) (ws := cC cI q (A1) (U1) (b1) (e1) (A2) (U2) (b2) (e2) (L) (R)) (k0 := 11) (k1 := 12) (by decide) rfl rfl) hL (wd_lt _) wd_z (isW_c (X := A2) (ws := cC cI q (A1) (U1) (b1) (e1) (A2) (U2) (b2) (e2) (L) (R)) (k0 := 7) (k1 := 8) (by decide) rfl rfl) (by omega) (apt_c (k0 := 11) (k1 := 12) (j0 := 7) (j1 := 8) rfl) (isW_c (X := A1) (ws := cC cI q (A1) (U1) (b1) (e1) (A2) (U2) (b2) (e2) (L) (R)) (k0 := 3) (k1 := 4) (by decide) rfl rfl) (by omega) (apt_c (k0 := 11) (k1 := 12) (j0 := 3) (j1 := 4) rfl)) (cwV 2 hts gX2_move_X1_becomeSum rfl rfl rfl (by decide +kernel) ⟨Nat.le_of_ble_eq_true rfl, Nat.le_of_ble_eq_true rfl⟩) hK hNX hP hD hS 11 rfl rfl rfl rfl hl.1 rfl (Nat.le_of_ble_eq_true rfl) dX2_move_53 ⟨Nat.zero_le _, Nat.zero_le _⟩ (fun o w1 H locs hq hP hD hS => ?_)
      obtain ⟨rfl, rfl⟩ := hq
      have hP : va_P (dC, dI) vwCl (cC cI q (A1) (U1) (b1) (e1) (A2) (U2) (b2) (e2) (A2 + A1) (R)) H := hP
      have hD : va_D (ef_A (cC cI q (A1) (U1) (b1) (e1) (A2) (U2) (b2) (e2) (L) (R))) (cC cI q (A1) (U1) (b1) (e1) (A2) (U2) (b2) (e2) (A2 + A1) (R)) := hD
      refine W.eq (g2 := F0 m 56 ls []) rfl ?_
      refine lv_goto (tgt := 105) hx hb dX2_move_56 (by decide) ?_
      refine lv_aload_n hx hb dX2_move_105 rfl (lv_at hl 2 rfl) ?_
      refine lv_aload_n hx hb dX2_move_106 rfl (lv_at hl 1 rfl) ?_
      refine va_get (D := (dC, dI)) (ci := 0) (v := .ref (q 7)) (C := RX0) (T := TX0) (N := 4) hx hb hts (by decide +kernel) hown hK hP 2 rfl rfl 0 (by decide) (hts (.fieldLink RX2 65 "ExactFractions$Fraction" "above" "LExactFractions$Whole;") (by decide +kernel)) (fun _ h9 => h9) rfl dX2_move_107 ?_
      refine ef_callV (As := [.ref (q 7)]) (rest := []) ⟨hx, hb, hml, hown, hts⟩ (c_keep10K l dC dI ht q hA1 hU1 hA2 hU2 (by omega) hR hb4) (cwV 1 hts gX2_move_X2_keepLeftIn rfl rfl rfl (by decide +kernel) ⟨Nat.le_of_ble_eq_true rfl, Nat.le_of_ble_eq_true rfl⟩) hK hNX hP hD hS 0 rfl rfl rfl rfl hl.1 rfl (Nat.le_of_ble_eq_true rfl) dX2_move_110 ⟨Nat.zero_le _, Nat.zero_le _⟩ (fun o w1 H locs hq hP hD hS => ?_)
      obtain ⟨rfl, rfl⟩ := hq
      have hP : va_P (dC, dI) vwCl (cC cI q (A1) (U1) (b1) (e1) (A2 + A1) (U2) (b2) (e2) (A2 + A1) (R)) H := hP
      have hD : va_D (ef_A (cC cI q (A1) (U1) (b1) (e1) (A2) (U2) (b2) (e2) (L) (R))) (cC cI q (A1) (U1) (b1) (e1) (A2 + A1) (U2) (b2) (e2) (A2 + A1) (R)) := hD
      refine W.eq (g2 := F0 m 113 ls [.int (iv ((bl (A2 + A1) : Int)))]) rfl ?_
      exact ef_iret hx hb hr hlocks hP hD hS dX2_move_113 (⟨_, _, rfl, rfl, by omega, hR⟩)
  ·
    exact absurd c1 (by decide)

set_option maxRecDepth 100000 in
set_option maxHeartbeats 4000000 in
/-- move -/
theorem c_move1ge (l : Launch) (dC : Nat → ClassId) (dI : Nat → Nat → Nat) {cI : ClassId} {tys : List (ClassId × FieldType)} (ht : tys[0]? = some (cI, .int)) (q : Nat → Nat) {A1 U1 A2 U2 L R : Nat} {b1 e1 b2 e2 : Int} (hA1 : wl A1 ≤ 150) (hU1 : wl U1 ≤ 150) (hA2 : wl A2 ≤ 150) (hU2 : wl U2 ≤ 150) (hL : wl L ≤ 301) (hR : wl R ≤ 301) (hba : bl A1 ≤ 4800) (hbb : bl A2 ≤ 4800) (dn : Int) (hdn : dn = 0 ∨ dn = 1) (hbo : b2 = 0 ∨ b2 = 1) (hd : b2 ≠ dn) (hle : A1 ≤ A2) : ef_C l yX2_move wsX2_move ({ frames := 4, cells := 0, slots := 0, locals := 88 } : Room) [.ref (q 0), .int (iv (1)), .int (iv (dn))] (dC, dI) vwCl tys (cC cI q (A1) (U1) (b1) (e1) (A2) (U2) (b2) (e2) (L) (R)) (fun o w1 => ∃ L2 R2 : Nat, o = some (.int (iv (bl (A2 - A1) : Int))) ∧ w1 = cC cI q (A1) (U1) (b1) (e1) (A2 - A1) (U2) (b2) (e2) (L2) (R2) ∧ wl L2 ≤ 301 ∧ wl R2 ≤ 301) := by
  refine ef_C.of (cc := cX2_move) (maxL := 5) (ret := (some .int)) (by decide) rfl (Nat.le_of_ble_eq_true rfl) ?_
  intro p e s m below meth c ls hx hb hml hr hts hown hlocks hK hNX hP hD hS hl
  have hl : lv_has ls 5 [(0, .ref (q 0)), (1, .int (iv (1))), (2, .int (iv (dn)))] := hl
  have hown : s.vm.findClass RX2 = some m.cls := hown
  generalize hH : s.heap = H at hP ⊢
  have hS : va_S (ef_A (cC cI q (A1) (U1) (b1) (e1) (A2) (U2) (b2) (e2) (L) (R))) s.heap H [] := by rw [← hH]; exact hS
  generalize ([] : List Loc) = locs at hS ⊢
  have hdr : ir dn := by rcases hdn with h | h <;> rw [h] <;> exact ⟨by decide, by decide⟩
  have hbr : ir b2 := by rcases hbo with h | h <;> rw [h] <;> exact ⟨by decide, by decide⟩
  have hb4 : bl (A2 - A1) ≤ 4800 := Nat.le_trans (bl_mono (Nat.sub_le _ _)) hbb
  have hwl : wl (A2 - A1) ≤ 151 := Nat.le_succ_of_le (wl_bl (k := 150) (by omega))
  refine lv_aload_n hx hb dX2_move_0 rfl (lv_at hl 0 rfl) ?_
  refine lv_iload_n hx hb dX2_move_1 rfl (lv_at hl 1 rfl) ?_
  refine ef_callV (As := [.int (iv (1))]) (rest := []) ⟨hx, hb, hml, hown, hts⟩ (c_numberOf1 l dC dI ht q) (cwV 1 hts gX2_move_X2_numberOf rfl rfl rfl (by decide +kernel) ⟨Nat.le_of_ble_eq_true rfl, Nat.le_of_ble_eq_true rfl⟩) hK hNX hP hD hS 0 rfl rfl rfl rfl hl.1 rfl (Nat.le_of_ble_eq_true rfl) dX2_move_2 ⟨Nat.zero_le _, Nat.zero_le _⟩ (fun o w1 H locs hq hP hD hS => ?_)
  obtain ⟨rfl, e9⟩ := hq
  rw [e9] at hP hD
  refine W.eq (g2 := F0 m 5 ls [.ref (q 2)]) rfl ?_
  refine lv_astore_n (lv' := [(3, .ref (q 2)), (0, .ref (q 0)), (1, .int (iv (1))), (2, .int (iv (dn)))]) hx hb dX2_move_5 rfl hl (by decide) rfl (fun ls hl => ?_)
  refine lv_aload_n hx hb dX2_move_6 rfl (lv_at hl 0 rfl) ?_
  refine lv_ifnonnull (tgt := 12) hx hb dX2_move_7 (by decide) ?_
  refine lv_iload_n hx hb dX2_move_12 rfl (lv_at hl 2 rfl) ?_
  refine iw_if_ne (tgt := 26) hx hb dX2_move_13 (by decide) ⟨by omega, by omega⟩ (fun c1 => ?_) (fun c1 => ?_)
  ·
    refine lv_aload_n hx hb dX2_move_26 rfl (lv_at hl 1 rfl) ?_
    refine va_get (D := (dC, dI)) (ci := 2) (v := .ref (q 1)) (C := RX2) (T := TX2) (N := 4) hx hb hts (by decide +kernel) hown hK hP 0 rfl rfl 0 (by decide) (hts (.fieldLink RX2 12 "ExactFractions" "first" "LExactFractions$Fraction;") (by decide +kernel)) (fun _ h9 => h9) rfl dX2_move_27 ?_
    refine va_get (D := (dC, dI)) (ci := 0) (v := .ref (q 3)) (C := RX0) (T := TX0) (N := 4) hx hb hts (by decide +kernel) hown hK hP 1 rfl rfl 0 (by decide) (hts (.fieldLink RX2 65 "ExactFractions$Fraction" "above" "LExactFractions$Whole;") (by decide +kernel)) (fun _ h9 => h9) rfl dX2_move_30 ?_
    refine lv_astore (lv' := [(4, .ref (q 3)), (3, .ref (q 2)), (0, .ref (q 0)), (1, .int (iv (1))), (2, .int (iv (dn)))]) hx hb dX2_move_33 hl (by decide) rfl (fun ls hl => ?_)
    refine lv_aload_n hx hb dX2_move_35 rfl (lv_at hl 1 rfl) ?_
    refine va_get (D := (dC, dI)) (ci := 0) (v := .int (iv (b2))) (C := RX0) (T := TX0) (N := 4) hx hb hts (by decide +kernel) hown hK hP 2 rfl rfl 2 (by decide) (hts (.fieldLink RX2 57 "ExactFractions$Fraction" "below" "Z") (by decide +kernel)) (fun _ h9 => h9) rfl dX2_move_36 ?_
    refine lv_iload_n hx hb dX2_move_39 rfl (lv_at hl 4 rfl) ?_
    refine iw_icmp_ne (tgt := 59) hx hb dX2_move_40 (by decide) (hbr) (hdr) (fun c2 => ?_) (fun c2 => ?_)
    ·
      refine lv_aload_n hx hb dX2_move_59 rfl (lv_at hl 1 rfl) ?_
      refine va_get (D := (dC, dI)) (ci := 0) (v := .ref (q 7)) (C := RX0) (T := TX0) (N := 4) hx hb hts (by decide +kernel) hown hK hP 2 rfl rfl 0 (by decide) (hts (.fieldLink RX2 65 "ExactFractions$Fraction" "above" "LExactFractions$Whole;") (by decide +kernel)) (fun _ h9 => h9) rfl dX2_move_60 ?_
      refine lv_aload hx hb dX2_move_63 (lv_at hl 0 rfl) ?_
      refine ef_callV (As := [.ref (q 3)]) (rest := []) ⟨hx, hb, hml, hown, hts⟩ (c_order l dC dI ht (isW_c (X := A2) (ws := cC cI q (A1) (U1) (b1) (e1) (A2) (U2) (b2) (e2) (L) (R)) (k0 := 7) (k1 := 8) (by decide) rfl rfl) (by omega) (isW_c (X := A1) (ws := cC cI q (A1) (U1) (b1) (e1) (A2) (U2) (b2) (e2) (L) (R)) (k0 := 3) (k1 := 4) (by decide) rfl rfl) (by omega)) (cwV 1 hts gX2_move_X1_order rfl rfl rfl (by decide +kernel) ⟨Nat.le_of_ble_eq_true rfl, Nat.le_of_ble_eq_true rfl⟩) hK hNX hP hD hS 7 rfl rfl rfl rfl hl.1 rfl (Nat.le_of_ble_eq_true rfl) dX2_move_65 ⟨Nat.zero_le _, Nat.zero_le _⟩ (fun o w1 H locs hq hP hD hS => ?_)
      obtain ⟨rfl, e9⟩ := hq
      rw [e9] at hP hD
      refine W.eq (g2 := F0 m 68 ls [.int (iv (zc A2 A1))]) rfl ?_
      refine iw_if_lt (tgt := 87) hx hb dX2_move_68 (by decide) (ir_zc _ _) (fun c3 => ?_) (fun c3 => ?_)
      ·
        exact absurd ((zc_ge _ _).2 (by omega : ((A1 : Nat) : Int) ≤ ((A2 : Nat) : Int))) (by omega)
      ·
        refine lv_aload_n hx hb dX2_move_71 rfl (lv_at hl 2 rfl) ?_
        refine va_get (D := (dC, dI)) (ci := 2) (v := .ref (q 11)) (C := RX2) (T := TX2) (N := 4) hx hb hts (by decide +kernel) hown hK hP 0 rfl rfl 2 (by decide) (hts (.fieldLink RX2 22 "ExactFractions" "left" "LExactFractions$Whole;") (by decide +kernel)) (fun _ h9 => h9) rfl dX2_move_72 ?_
        refine lv_aload_n hx hb dX2_move_75 rfl (lv_at hl 1 rfl) ?_
        refine va_get (D := (dC, dI)) (ci := 0) (v := .ref (q 7)) (C := RX0) (T := TX0) (N := 4) hx hb hts (by decide +kernel) hown hK hP 2 rfl rfl 0 (by decide) (hts (.fieldLink RX2 65 "ExactFractions$Fraction" "above" "LExactFractions$Whole;") (by decide +kernel)) (fun _ h9 => h9) rfl dX2_move_76 ?_
        refine lv_aload hx hb dX2_move_79 (lv_at hl 0 rfl) ?_
        refine ef_callV (As := [.ref (q 7), .ref (q 3)]) (rest := []) ⟨hx, hb, hml, hown, hts⟩ (c_diff l dC dI ht (isW_c (X := L) (ws := cC cI q (A1) (U1) (b1) (e1) (A2) (U2) (b2) (e2) (L) (R)) (k0 := 11) (k1 := 12) (by decide) rfl rfl) hL (wd_lt _) wd_z (isW_c (X := A2) (ws := cC cI q (A1) (U1) (b1) (e1) (A2) (U2) (b2) (e2) (L) (R)) (k0 := 7) (k1 := 8) (by decide) rfl rfl) (by omega) (apt_c (k0 := 11) (k1 := 12) (j0 := 7) (j1 := 8) rfl) (isW_c (X := A1) (ws := cC cI q (A1) (U1) (b1) (e1) (A2) (U2) (b2) (e2) (L) (R)) (k0 := 3) (k1 := 4) (by decide) rfl rfl) (by omega) (apt_c (k0 := 11) (k1 := 12) (j0 := 3) (j1 := 4) rfl) (by omega)) (cwV 2 hts gX2_move_X1_becomeDifference rfl rfl rfl (by decide +kernel) ⟨Nat.le_of_ble_eq_true rfl, Nat.le_of_ble_eq_true rfl⟩) hK hNX hP hD hS 11 rfl rfl rfl rfl hl.1 rfl (Nat.le_of_ble_eq_true rfl) dX2_move_81 ⟨Nat.zero_le _, Nat.zero_le _⟩ (fun o w1 H locs hq hP hD hS => ?_)
        obtain ⟨rfl, rfl⟩ := hq
        have hP : va_P (dC, dI) vwCl (cC cI q (A1) (U1) (b1) (e1) (A2) (U2) (b2) (e2) (A2 - A1) (R)) H := hP
        have hD : va_D (ef_A (cC cI q (A1) (U1) (b1) (e1) (A2) (U2) (b2) (e2) (L) (R))) (cC cI q (A1) (U1) (b1) (e1) (A2) (U2) (b2) (e2) (A2 - A1) (R)) := hD
        refine W.eq (g2 := F0 m 84 ls []) rfl ?_
        refine lv_goto (tgt := 105) hx hb dX2_move_84 (by decide) ?_
        refine lv_aload_n hx hb dX2_move_105 rfl (lv_at hl 2 rfl) ?_
        refine lv_aload_n hx hb dX2_move_106 rfl (lv_at hl 1 rfl) ?_
        refine va_get (D := (dC, dI)) (ci := 0) (v := .ref (q 7)) (C := RX0) (T := TX0) (N := 4) hx hb hts (by decide +kernel) hown hK hP 2 rfl rfl 0 (by decide) (hts (.fieldLink RX2 65 "ExactFractions$Fraction" "above" "LExactFractions$Whole;") (by decide +kernel)) (fun _ h9 => h9) rfl dX2_move_107 ?_
        refine ef_callV (As := [.ref (q 7)]) (rest := []) ⟨hx, hb, hml, hown, hts⟩ (c_keep10K l dC dI ht q hA1 hU1 hA2 hU2 (by omega) hR hb4) (cwV 1 hts gX2_move_X2_keepLeftIn rfl rfl rfl (by decide +kernel) ⟨Nat.le_of_ble_eq_true rfl, Nat.le_of_ble_eq_true rfl⟩) hK hNX hP hD hS 0 rfl rfl rfl rfl hl.1 rfl (Nat.le_of_ble_eq_true rfl) dX2_move_110 ⟨Nat.zero_le _, Nat.zero_le _⟩ (fun o w1 H locs hq hP hD hS => ?_)
        obtain ⟨rfl, rfl⟩ := hq
        have hP : va_P (dC, dI) vwCl (cC cI q (A1) (U1) (b1) (e1) (A2 - A1) (U2) (b2) (e2) (A2 - A1) (R)) H := hP
        have hD : va_D (ef_A (cC cI q (A1) (U1) (b1) (e1) (A2) (U2) (b2) (e2) (L) (R))) (cC cI q (A1) (U1) (b1) (e1) (A2 - A1) (U2) (b2) (e2) (A2 - A1) (R)) := hD
        refine W.eq (g2 := F0 m 113 ls [.int (iv ((bl (A2 - A1) : Int)))]) rfl ?_
        exact ef_iret hx hb hr hlocks hP hD hS dX2_move_113 (⟨_, _, rfl, rfl, by omega, hR⟩)
    ·
      exact absurd c2 hd
  ·
    exact absurd c1 (by decide)

set_option maxRecDepth 100000 in
set_option maxHeartbeats 4000000 in
/-- move -/
theorem c_move1lt (l : Launch) (dC : Nat → ClassId) (dI : Nat → Nat → Nat) {cI : ClassId} {tys : List (ClassId × FieldType)} (ht : tys[0]? = some (cI, .int)) (q : Nat → Nat) {A1 U1 A2 U2 L R : Nat} {b1 e1 b2 e2 : Int} (hA1 : wl A1 ≤ 150) (hU1 : wl U1 ≤ 150) (hA2 : wl A2 ≤ 150) (hU2 : wl U2 ≤ 150) (hL : wl L ≤ 301) (hR : wl R ≤ 301) (hba : bl A1 ≤ 4800) (hbb : bl A2 ≤ 4800) (dn : Int) (hdn : dn = 0 ∨ dn = 1) (hbo : b2 = 0 ∨ b2 = 1) (hd : b2 ≠ dn) (hle : A2 < A1) : ef_C l yX2_move wsX2_move ({ frames := 4, cells := 0, slots := 0, locals := 88 } : Room) [.ref (q 0), .int (iv (1)), .int (iv (dn))] (dC, dI) vwCl tys (cC cI q (A1) (U1) (b1) (e1) (A2) (U2) (b2) (e2) (L) (R)) (fun o w1 => ∃ L2 R2 : Nat, o = some (.int (iv (bl (A1 - A2) : Int))) ∧ w1 = cC cI q (A1) (U1) (b1) (e1) (A1 - A2) (U2) (dn) (e2) (L2) (R2) ∧ wl L2 ≤ 301 ∧ wl R2 ≤ 301) := by
  refine ef_C.of (cc := cX2_move) (maxL := 5) (ret := (some .int)) (by decide) rfl (Nat.le_of_ble_eq_true rfl) ?_
  intro p e s m below meth c ls hx hb hml hr hts hown hlocks hK hNX hP hD hS hl
  have hl : lv_has ls 5 [(0, .ref (q 0)), (1, .int (iv (1))), (2, .int (iv (dn)))] := hl
  have hown : s.vm.findClass RX2 = some m.cls := hown
  generalize hH : s.heap = H at hP ⊢
  have hS : va_S (ef_A (cC cI q (A1) (U1) (b1) (e1) (A2) (U2) (b2) (e2) (L) (R))) s.heap H [] := by rw [← hH]; exact hS
  generalize ([] : List Loc) = locs at hS ⊢
  have hdr : ir dn := by rcases hdn with h | h <;> rw [h] <;> exact ⟨by decide, by decide⟩
  have hbr : ir b2 := by rcases hbo with h | h <;> rw [h] <;> exact ⟨by decide, by decide⟩
  have hb4 : bl (A1 - A2) ≤ 4800 := Nat.le_trans (bl_mono (Nat.sub_le _ _)) hba
  have hwl : wl (A1 - A2) ≤ 151 := Nat.le_succ_of_le (wl_bl (k := 150) (by omega))
  refine lv_aload_n hx hb dX2_move_0 rfl (lv_at hl 0 rfl) ?_
  refine lv_iload_n hx hb dX2_move_1 rfl (lv_at hl 1 rfl) ?_
  refine ef_callV (As := [.int (iv (1))]) (rest := []) ⟨hx, hb, hml, hown, hts⟩ (c_numberOf1 l dC dI ht q) (cwV 1 hts gX2_move_X2_numberOf rfl rfl rfl (by decide +kernel) ⟨Nat.le_of_ble_eq_true rfl, Nat.le_of_ble_eq_true rfl⟩) hK hNX hP hD hS 0 rfl rfl rfl rfl hl.1 rfl (Nat.le_of_ble_eq_true rfl) dX2_move_2 ⟨Nat.zero_le _, Nat.zero_le _⟩ (fun o w1 H locs hq hP hD hS => ?_)
  obtain ⟨rfl, e9⟩ := hq
  rw [e9] at hP hD
  refine W.eq (g2 := F0 m 5 ls [.ref (q 2)]) rfl ?_
  refine lv_astore_n (lv' := [(3, .ref (q 2)), (0, .ref (q 0)), (1, .int (iv (1))), (2, .int (iv (dn)))]) hx hb dX2_move_5 rfl hl (by decide) rfl (fun ls hl => ?_)
  refine lv_aload_n hx hb dX2_move_6 rfl (lv_at hl 0 rfl) ?_
  refine lv_ifnonnull (tgt := 12) hx hb dX2_move_7 (by decide) ?_
  refine lv_iload_n hx hb dX2_move_12 rfl (lv_at hl 2 rfl) ?_
  refine iw_if_ne (tgt := 26) hx hb dX2_move_13 (by decide) ⟨by omega, by omega⟩ (fun c1 => ?_) (fun c1 => ?_)
  ·
    refine lv_aload_n hx hb dX2_move_26 rfl (lv_at hl 1 rfl) ?_
    refine va_get (D := (dC, dI)) (ci := 2) (v := .ref (q 1)) (C := RX2) (T := TX2) (N := 4) hx hb hts (by decide +kernel) hown hK hP 0 rfl rfl 0 (by decide) (hts (.fieldLink RX2 12 "ExactFractions" "first" "LExactFractions$Fraction;") (by decide +kernel)) (fun _ h9 => h9) rfl dX2_move_27 ?_
    refine va_get (D := (dC, dI)) (ci := 0) (v := .ref (q 3)) (C := RX0) (T := TX0) (N := 4) hx hb hts (by decide +kernel) hown hK hP 1 rfl rfl 0 (by decide) (hts (.fieldLink RX2 65 "ExactFractions$Fraction" "above" "LExactFractions$Whole;") (by decide +kernel)) (fun _ h9 => h9) rfl dX2_move_30 ?_
    refine lv_astore (lv' := [(4, .ref (q 3)), (3, .ref (q 2)), (0, .ref (q 0)), (1, .int (iv (1))), (2, .int (iv (dn)))]) hx hb dX2_move_33 hl (by decide) rfl (fun ls hl => ?_)
    refine lv_aload_n hx hb dX2_move_35 rfl (lv_at hl 1 rfl) ?_
    refine va_get (D := (dC, dI)) (ci := 0) (v := .int (iv (b2))) (C := RX0) (T := TX0) (N := 4) hx hb hts (by decide +kernel) hown hK hP 2 rfl rfl 2 (by decide) (hts (.fieldLink RX2 57 "ExactFractions$Fraction" "below" "Z") (by decide +kernel)) (fun _ h9 => h9) rfl dX2_move_36 ?_
    refine lv_iload_n hx hb dX2_move_39 rfl (lv_at hl 4 rfl) ?_
    refine iw_icmp_ne (tgt := 59) hx hb dX2_move_40 (by decide) (hbr) (hdr) (fun c2 => ?_) (fun c2 => ?_)
    ·
      refine lv_aload_n hx hb dX2_move_59 rfl (lv_at hl 1 rfl) ?_
      refine va_get (D := (dC, dI)) (ci := 0) (v := .ref (q 7)) (C := RX0) (T := TX0) (N := 4) hx hb hts (by decide +kernel) hown hK hP 2 rfl rfl 0 (by decide) (hts (.fieldLink RX2 65 "ExactFractions$Fraction" "above" "LExactFractions$Whole;") (by decide +kernel)) (fun _ h9 => h9) rfl dX2_move_60 ?_
      refine lv_aload hx hb dX2_move_63 (lv_at hl 0 rfl) ?_
      refine ef_callV (As := [.ref (q 3)]) (rest := []) ⟨hx, hb, hml, hown, hts⟩ (c_order l dC dI ht (isW_c (X := A2) (ws := cC cI q (A1) (U1) (b1) (e1) (A2) (U2) (b2) (e2) (L) (R)) (k0 := 7) (k1 := 8) (by decide) rfl rfl) (by omega) (isW_c (X := A1) (ws := cC cI q (A1) (U1) (b1) (e1) (A2) (U2) (b2) (e2) (L) (R)) (k0 := 3) (k1 := 4) (by decide) rfl rfl) (by omega)) (cwV 1 hts gX2_move_X1_order rfl rfl rfl (by decide +kernel) ⟨Nat.le_of_ble_eq_true rfl, Nat.le_of_ble_eq_true rfl⟩) hK hNX hP hD hS 7 rfl rfl rfl rfl hl.1 rfl (Nat.le_of_ble_eq_true rfl) dX2_move_65 ⟨Nat.zero_le _, Nat.zero_le _⟩ (fun o w1 H locs hq hP hD hS => ?_)
      obtain ⟨rfl, e9⟩ := hq
      rw [e9] at hP hD
      refine W.eq (g2 := F0 m 68 ls [.int (iv (zc A2 A1))]) rfl ?_
      refine iw_if_lt (tgt := 87) hx hb dX2_move_68 (by decide) (ir_zc _ _) (fun c3 => ?_) (fun c3 => ?_)
      ·
        refine lv_aload_n hx hb dX2_move_87 rfl (lv_at hl 2 rfl) ?_
        refine va_get (D := (dC, dI)) (ci := 2) (v := .ref (q 11)) (C := RX2) (T := TX2) (N := 4) hx hb hts (by decide +kernel) hown hK hP 0 rfl rfl 2 (by decide) (hts (.fieldLink RX2 22 "ExactFractions" "left" "LExactFractions$Whole;") (by decide +kernel)) (fun _ h9 => h9) rfl dX2_move_88 ?_
        refine lv_aload hx hb dX2_move_91 (lv_at hl 0 rfl) ?_
        refine lv_aload_n hx hb dX2_move_93 rfl (lv_at hl 1 rfl) ?_
        refine va_get (D := (dC, dI)) (ci := 0) (v := .ref (q 7)) (C := RX0) (T := TX0) (N := 4) hx hb hts (by decide +kernel) hown hK hP 2 rfl rfl 0 (by decide) (hts (.fieldLink RX2 65 "ExactFractions$Fraction" "above" "LExactFractions$Whole;") (by decide +kernel)) (fun _ h9 => h9) rfl dX2_move_94 ?_
        refine ef_callV (As := [.ref (q 3), .ref (q 7)]) (rest := []) ⟨hx, hb, hml, hown, hts⟩ (c_diff l dC dI ht (isW_c (X := L) (ws := cC cI q (A1) (U1) (b1) (e1) (A2) (U2) (b2) (e2) (L) (R)) (k0 := 11) (k1 := 12) (by decide) rfl rfl) hL (wd_lt _) wd_z (isW_c (X := A1) (ws := cC cI q (A1) (U1) (b1) (e1) (A2) (U2) (b2) (e2) (L) (R)) (k0 := 3) (k1 := 4) (by decide) rfl rfl) (by omega) (apt_c (k0 := 11) (k1 := 12) (j0 := 3) (j1 := 4) rfl) (isW_c (X := A2) (ws := cC cI q (A1) (U1) (b1) (e1) (A2) (U2) (b2) (e2) (L) (R)) (k0 := 7) (k1 := 8) (by decide) rfl rfl) (by omega) (apt_c (k0 := 11) (k1 := 12) (j0 := 7) (j1 := 8) rfl) (by omega)) (cwV 2 hts gX2_move_X1_becomeDifference rfl rfl rfl (by decide +kernel) ⟨Nat.le_of_ble_eq_true rfl, Nat.le_of_ble_eq_true rfl⟩) hK hNX hP hD hS 11 rfl rfl rfl rfl hl.1 rfl (Nat.le_of_ble_eq_true rfl) dX2_move_97 ⟨Nat.zero_le _, Nat.zero_le _⟩ (fun o w1 H locs hq hP hD hS => ?_)
        obtain ⟨rfl, rfl⟩ := hq
        have hP : va_P (dC, dI) vwCl (cC cI q (A1) (U1) (b1) (e1) (A2) (U2) (b2) (e2) (A1 - A2) (R)) H := hP
        have hD : va_D (ef_A (cC cI q (A1) (U1) (b1) (e1) (A2) (U2) (b2) (e2) (L) (R))) (cC cI q (A1) (U1) (b1) (e1) (A2) (U2) (b2) (e2) (A1 - A2) (R)) := hD
        refine W.eq (g2 := F0 m 100 ls []) rfl ?_
        refine lv_aload_n hx hb dX2_move_100 rfl (lv_at hl 1 rfl) ?_
        refine lv_iload_n hx hb dX2_move_101 rfl (lv_at hl 4 rfl) ?_
        refine va_put (D := (dC, dI)) (ci := 0) (v := .int (iv (dn))) (ty := .boolean) (C := RX0) (T := TX0) (N := 4) hx hb hts (by decide +kernel) tyX0 tyX0_ok nmX0 hown hK hP hD hS 2 rfl rfl 2 (by decide) (hts (.fieldLink RX2 57 "ExactFractions$Fraction" "below" "Z") (by decide +kernel)) (fun _ h9 => h9) rfl (by decide +kernel) (by rcases hdn with h9 | h9 <;> rw [h9] <;> rfl) (by rcases hdn with h9 | h9 <;> rw [h9] <;> rfl) (Nat.le_of_ble_eq_true rfl) dX2_move_102 (fun H locs hP hD hS => ?_)
        have hP : va_P (dC, dI) vwCl (cC cI q (A1) (U1) (b1) (e1) (A2) (U2) (dn) (e2) (A1 - A2) (R)) H := hP
        have hD : va_D (ef_A (cC cI q (A1) (U1) (b1) (e1) (A2) (U2) (b2) (e2) (L) (R))) (cC cI q (A1) (U1) (b1) (e1) (A2) (U2) (dn) (e2) (A1 - A2) (R)) := hD
        refine lv_aload_n hx hb dX2_move_105 rfl (lv_at hl 2 rfl) ?_
        refine lv_aload_n hx hb dX2_move_106 rfl (lv_at hl 1 rfl) ?_
        refine va_get (D := (dC, dI)) (ci := 0) (v := .ref (q 7)) (C := RX0) (T := TX0) (N := 4) hx hb hts (by decide +kernel) hown hK hP 2 rfl rfl 0 (by decide) (hts (.fieldLink RX2 65 "ExactFractions$Fraction" "above" "LExactFractions$Whole;") (by decide +kernel)) (fun _ h9 => h9) rfl dX2_move_107 ?_
        refine ef_callV (As := [.ref (q 7)]) (rest := []) ⟨hx, hb, hml, hown, hts⟩ (c_keep10K l dC dI ht q hA1 hU1 hA2 hU2 (by omega) hR hb4) (cwV 1 hts gX2_move_X2_keepLeftIn rfl rfl rfl (by decide +kernel) ⟨Nat.le_of_ble_eq_true rfl, Nat.le_of_ble_eq_true rfl⟩) hK hNX hP hD hS 0 rfl rfl rfl rfl hl.1 rfl (Nat.le_of_ble_eq_true rfl) dX2_move_110 ⟨Nat.zero_le _, Nat.zero_le _⟩ (fun o w1 H locs hq hP hD hS => ?_)
        obtain ⟨rfl, rfl⟩ := hq
        have hP : va_P (dC, dI) vwCl (cC cI q (A1) (U1) (b1) (e1) (A1 - A2) (U2) (dn) (e2) (A1 - A2) (R)) H := hP
        have hD : va_D (ef_A (cC cI q (A1) (U1) (b1) (e1) (A2) (U2) (b2) (e2) (L) (R))) (cC cI q (A1) (U1) (b1) (e1) (A1 - A2) (U2) (dn) (e2) (A1 - A2) (R)) := hD
        refine W.eq (g2 := F0 m 113 ls [.int (iv ((bl (A1 - A2) : Int)))]) rfl ?_
        exact ef_iret hx hb hr hlocks hP hD hS dX2_move_113 (⟨_, _, rfl, rfl, by omega, hR⟩)
      ·
        exact absurd ((zc_ge _ _).1 c3) (by omega)
    ·
      exact absurd c2 hd
  ·
    exact absurd c1 (by decide)

set_option maxRecDepth 100000 in
set_option maxHeartbeats 4000000 in
/-- move of no number -/
theorem c_movex (l : Launch) (dC : Nat → ClassId) (dI : Nat → Nat → Nat) {cI : ClassId} {tys : List (ClassId × FieldType)} (ht : tys[0]? = some (cI, .int)) (q : Nat → Nat) {A1 U1 A2 U2 L R : Nat} {b1 e1 b2 e2 : Int} (hA1 : wl A1 ≤ 150) (hU1 : wl U1 ≤ 150) (hA2 : wl A2 ≤ 150) (hU2 : wl U2 ≤ 150) (hL : wl L ≤ 301) (hR : wl R ≤ 301) (z : Int) (hz : ir z) (hz0 : z ≠ 0) (hz1 : z ≠ 1) (dn : Int) : ef_C l yX2_move wsX2_move ({ frames := 4, cells := 0, slots := 0, locals := 88 } : Room) [.ref (q 0), .int (iv (z)), .int (iv (dn))] (dC, dI) vwCl tys (cC cI q (A1) (U1) (b1) (e1) (A2) (U2) (b2) (e2) (L) (R)) (fun o w1 => ∃ L2 R2 : Nat, o = some (.int (iv (-1))) ∧ w1 = cC cI q (A1) (U1) (b1) (e1) (A2) (U2) (b2) (e2) (L2) (R2) ∧ wl L2 ≤ 301 ∧ wl R2 ≤ 301) := by
  refine ef_C.of (cc := cX2_move) (maxL := 5) (ret := (some .int)) (by decide) rfl (Nat.le_of_ble_eq_true rfl) ?_
  intro p e s m below meth c ls hx hb hml hr hts hown hlocks hK hNX hP hD hS hl
  have hl : lv_has ls 5 [(0, .ref (q 0)), (1, .int (iv (z))), (2, .int (iv (dn)))] := hl
  have hown : s.vm.findClass RX2 = some m.cls := hown
  generalize hH : s.heap = H at hP ⊢
  have hS : va_S (ef_A (cC cI q (A1) (U1) (b1) (e1) (A2) (U2) (b2) (e2) (L) (R))) s.heap H [] := by rw [← hH]; exact hS
  generalize ([] : List Loc) = locs at hS ⊢
  refine lv_aload_n hx hb dX2_move_0 rfl (lv_at hl 0 rfl) ?_
  refine lv_iload_n hx hb dX2_move_1 rfl (lv_at hl 1 rfl) ?_
  refine ef_callV (As := [.int (iv (z))]) (rest := []) ⟨hx, hb, hml, hown, hts⟩ (c_numberOfx l dC dI ht q z hz hz0 hz1) (cwV 1 hts gX2_move_X2_numberOf rfl rfl rfl (by decide +kernel) ⟨Nat.le_of_ble_eq_true rfl, Nat.le_of_ble_eq_true rfl⟩) hK hNX hP hD hS 0 rfl rfl rfl rfl hl.1 rfl (Nat.le_of_ble_eq_true rfl) dX2_move_2 ⟨Nat.zero_le _, Nat.zero_le _⟩ (fun o w1 H locs hq hP hD hS => ?_)
  obtain ⟨rfl, e9⟩ := hq
  rw [e9] at hP hD
  refine W.eq (g2 := F0 m 5 ls [.null]) rfl ?_
  refine lv_astore_nN (lv' := [(3, .null), (0, .ref (q 0)), (1, .int (iv (z))), (2, .int (iv (dn)))]) hx hb dX2_move_5 rfl hl (by decide) rfl (fun ls hl => ?_)
  refine lv_aload_nN hx hb dX2_move_6 rfl (lv_at hl 0 rfl) ?_
  refine lv_ifnonnullN hx hb dX2_move_7 ?_
  refine lv_iconst (v := iv (-1)) hx hb dX2_move_10 (by decide) ?_
  exact ef_iret hx hb hr hlocks hP hD hS dX2_move_11 (⟨_, _, rfl, rfl, hL, hR⟩)
