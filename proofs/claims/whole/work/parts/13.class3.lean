/-! Fractions compared: sizes A / U * 2 ^ e by their products -/
def pw (z : Int) : Nat := 2 ^ (z + 20000).toNat
theorem pw_pos (z : Int) : 0 < pw z := Nat.pow_pos (by decide)
theorem pw_add {z : Int} (h : -20000 ≤ z) (k : Nat) : pw (z + (k : Int)) = pw z * 2 ^ k := by
  unfold pw
  rw [← Nat.pow_add]
  congr 1
  omega
def scmp (A1 U1 : Nat) (e1 : Int) (A2 U2 : Nat) (e2 : Int) : Int := zc ((A1 * U2 * pw e1 : Nat) : Int) ((A2 * U1 * pw e2 : Nat) : Int)
def ccmp (A1 U1 : Nat) (b1 e1 : Int) (A2 U2 : Nat) (b2 e2 : Int) : Int := if sgn A1 b1 < sgn A2 b2 then -1 else if sgn A2 b2 < sgn A1 b1 then 1 else if sgn A1 b1 = 0 then 0 else sgn A1 b1 * scmp A1 U1 e1 A2 U2 e2
theorem wl_of_bl (X : Nat) : wl X = (bl X + 31) / 32 := by
  unfold wl bl
  by_cases h : X = 0
  · rw [if_pos h, if_pos h]
  · rw [if_neg h, if_neg h]; omega
theorem zc_mul {a b c : Nat} (h : 0 < c) : zc ((a * c : Nat) : Int) ((b * c : Nat) : Int) = zc (a : Int) (b : Int) := by
  rcases Nat.lt_trichotomy a b with h1 | h1 | h1
  · have h2 : a * c < b * c := Nat.mul_lt_mul_of_pos_right h1 h
    rw [zc_lt (by omega), zc_lt (by omega)]
  · rw [h1, zc_eq, zc_eq]
  · have h2 : b * c < a * c := Nat.mul_lt_mul_of_pos_right h1 h
    rw [zc_gt (by omega), zc_gt (by omega)]
theorem cmp_bl {X Y : Nat} {x y : Int} (hY : Y ≠ 0) (hx : -20000 ≤ x) (hy : -20000 ≤ y) (h : (bl X : Int) + x < (bl Y : Int) + y) : X * pw x < Y * pw y := by
  have h1 : X * pw x < 2 ^ bl X * pw x := Nat.mul_lt_mul_of_pos_right (bl_lt X) (pw_pos x)
  have h2 : 2 ^ (bl Y - 1) * pw y ≤ Y * pw y := Nat.mul_le_mul_right _ (bl_ge hY)
  have h3 : bl Y ≠ 0 := fun q => hY (bl_0.1 q)
  have h4 : 2 ^ bl X * pw x ≤ 2 ^ (bl Y - 1) * pw y := by
    unfold pw
    rw [← Nat.pow_add, ← Nat.pow_add]
    exact Nat.pow_le_pow_right (by decide) (by omega)
  omega
theorem bl_mul_le (X Y : Nat) : bl (X * Y) ≤ bl X + bl Y := by
  apply bl_le
  rw [Nat.pow_add]
  have h1 := bl_lt X
  have h2 := bl_lt Y
  have h3 : 0 < 2 ^ bl X := Nat.pow_pos (by decide)
  rcases Nat.eq_zero_or_pos Y with h | h
  · rw [h, Nat.mul_zero]; exact Nat.mul_pos h3 (Nat.pow_pos (by decide))
  · exact Nat.mul_lt_mul_of_lt_of_le h1 (Nat.le_of_lt h2) (Nat.pow_pos (by decide))
theorem bl_mul_ge {X Y : Nat} (hX : X ≠ 0) (hY : Y ≠ 0) : bl X + bl Y ≤ bl (X * Y) + 1 := by
  have h1 := bl_ge hX
  have h2 := bl_ge hY
  have h3 : 2 ^ (bl X - 1) * 2 ^ (bl Y - 1) ≤ X * Y := Nat.mul_le_mul h1 h2
  rw [← Nat.pow_add] at h3
  have h4 := Nat.lt_of_le_of_lt h3 (bl_lt (X * Y))
  have h5 := (Nat.pow_lt_pow_iff_right (show 1 < 2 by decide)).1 h4
  omega
theorem scmp_gt {A1 U1 A2 U2 : Nat} {e1 e2 : Int} (hA : A1 ≠ 0) (hU : U2 ≠ 0) (h1 : -20000 ≤ e1) (h2 : -20000 ≤ e2) (h : (bl A2 : Int) - bl U2 + e2 + 1 < (bl A1 : Int) - bl U1 + e1) : scmp A1 U1 e1 A2 U2 e2 = 1 := by
  have q1 := bl_mul_le A2 U1
  have q2 := bl_mul_ge hA hU
  have q3 := cmp_bl (X := A2 * U1) (Y := A1 * U2) (Nat.mul_ne_zero hA hU) h2 h1 (by omega)
  exact zc_gt (by omega)
theorem scmp_lt {A1 U1 A2 U2 : Nat} {e1 e2 : Int} (hA : A2 ≠ 0) (hU : U1 ≠ 0) (h1 : -20000 ≤ e1) (h2 : -20000 ≤ e2) (h : (bl A1 : Int) - bl U1 + e1 + 1 < (bl A2 : Int) - bl U2 + e2) : scmp A1 U1 e1 A2 U2 e2 = -1 := by
  have q1 := bl_mul_le A1 U2
  have q2 := bl_mul_ge hA hU
  have q3 := cmp_bl (X := A1 * U2) (Y := A2 * U1) (Nat.mul_ne_zero hA hU) h1 h2 (by omega)
  exact zc_lt (by omega)
theorem sgn_r (A : Nat) (b : Int) : -1 ≤ sgn A b ∧ sgn A b ≤ 1 := by unfold sgn; (repeat split) <;> omega
theorem sgn_ir (A : Nat) (b : Int) : ir (sgn A b) := by have := sgn_r A b; exact ⟨by omega, by omega⟩

set_option maxRecDepth 100000 in
set_option maxHeartbeats 4000000 in
/-- alignTops -/
theorem c_alignN (l : Launch) (dC : Nat → ClassId) (dI : Nat → Nat → Nat) {cI : ClassId} {tys : List (ClassId × FieldType)} (ht : tys[0]? = some (cI, .int)) (q : Nat → Nat) {A1 U1 A2 U2 L R : Nat} {b1 e1 b2 e2 : Int} (hA1 : wl A1 ≤ 150) (hU1 : wl U1 ≤ 150) (hA2 : wl A2 ≤ 150) (hU2 : wl U2 ≤ 150) (hL : wl L ≤ 301) (hR : wl R ≤ 301) (k : Nat) (hk0 : k ≠ 0) (hk : wl L + k / 32 + 1 ≤ 301) : ef_C l yX2_alignTops wsX2_alignTops ({ frames := 3, cells := 0, slots := 0, locals := 72 } : Room) [.ref (q 0), .int (iv (-(k : Int)))] (dC, dI) vwCl tys (cC cI q (A1) (U1) (b1) (e1) (A2) (U2) (b2) (e2) (L) (R)) (fun o w1 => o = none ∧ w1 = cC cI q (A1) (U1) (b1) (e1) (A2) (U2) (b2) (e2) (L * 2 ^ k) (R)) := by
  refine ef_C.of (cc := cX2_alignTops) (maxL := 2) (ret := none) (by decide) rfl (Nat.le_of_ble_eq_true rfl) ?_
  intro p e s m below meth c ls hx hb hml hr hts hown hlocks hK hNX hP hD hS hl
  have hl : lv_has ls 2 [(0, .ref (q 0)), (1, .int (iv (-(k : Int))))] := hl
  have hown : s.vm.findClass RX2 = some m.cls := hown
  generalize hH : s.heap = H at hP ⊢
  have hS : va_S (ef_A (cC cI q (A1) (U1) (b1) (e1) (A2) (U2) (b2) (e2) (L) (R))) s.heap H [] := by rw [← hH]; exact hS
  generalize ([] : List Loc) = locs at hS ⊢
  refine lv_iload_n hx hb dX2_alignTops_0 rfl (lv_at hl 1 rfl) ?_
  refine iw_if_ge (tgt := 16) hx hb dX2_alignTops_1 (by decide) ⟨by omega, by omega⟩ (fun c1 => ?_) (fun c1 => ?_)
  ·
    exact absurd c1 (by omega)
  ·
    refine lv_aload_n hx hb dX2_alignTops_4 rfl (lv_at hl 0 rfl) ?_
    refine va_get (D := (dC, dI)) (ci := 2) (v := .ref (q 11)) (C := RX2) (T := TX2) (N := 4) hx hb hts (by decide +kernel) hown hK hP 0 rfl rfl 2 (by decide) (hts (.fieldLink RX2 22 "ExactFractions" "left" "LExactFractions$Whole;") (by decide +kernel)) (fun _ h9 => h9) rfl dX2_alignTops_5 ?_
    refine lv_iload_n hx hb dX2_alignTops_8 rfl (lv_at hl 1 rfl) ?_
    refine iw_ineg hx hb dX2_alignTops_9 ?_
    refine iw_topi (y := iv ((k : Int))) (congrArg iv (by omega : ((-(-(k : Int))) : Int) = ((k : Int)))) ?_
    refine ef_callV (As := [.int (iv ((k : Int)))]) (rest := []) ⟨hx, hb, hml, hown, hts⟩ (c_shiftUp l dC dI ht (isW_c (X := L) (ws := cC cI q (A1) (U1) (b1) (e1) (A2) (U2) (b2) (e2) (L) (R)) (k0 := 11) (k1 := 12) (by decide) rfl rfl) hL k hk) (cwV 1 hts gX2_alignTops_X1_shiftUp rfl rfl rfl (by decide +kernel) ⟨Nat.le_of_ble_eq_true rfl, Nat.le_of_ble_eq_true rfl⟩) hK hNX hP hD hS 11 rfl rfl rfl rfl hl.1 rfl (Nat.le_of_ble_eq_true rfl) dX2_alignTops_10 ⟨Nat.zero_le _, Nat.zero_le _⟩ (fun o w1 H locs hq hP hD hS => ?_)
    obtain ⟨rfl, rfl⟩ := hq
    have hP : va_P (dC, dI) vwCl (cC cI q (A1) (U1) (b1) (e1) (A2) (U2) (b2) (e2) (L * 2 ^ k) (R)) H := hP
    have hD : va_D (ef_A (cC cI q (A1) (U1) (b1) (e1) (A2) (U2) (b2) (e2) (L) (R))) (cC cI q (A1) (U1) (b1) (e1) (A2) (U2) (b2) (e2) (L * 2 ^ k) (R)) := hD
    refine W.eq (g2 := F0 m 13 ls []) rfl ?_
    refine lv_goto (tgt := 24) hx hb dX2_alignTops_13 (by decide) ?_
    exact ef_vret hx hb hr hlocks hP hD hS dX2_alignTops_24 (⟨rfl, rfl⟩)

set_option maxRecDepth 100000 in
set_option maxHeartbeats 4000000 in
/-- alignTops -/
theorem c_alignP (l : Launch) (dC : Nat → ClassId) (dI : Nat → Nat → Nat) {cI : ClassId} {tys : List (ClassId × FieldType)} (ht : tys[0]? = some (cI, .int)) (q : Nat → Nat) {A1 U1 A2 U2 L R : Nat} {b1 e1 b2 e2 : Int} (hA1 : wl A1 ≤ 150) (hU1 : wl U1 ≤ 150) (hA2 : wl A2 ≤ 150) (hU2 : wl U2 ≤ 150) (hL : wl L ≤ 301) (hR : wl R ≤ 301) (k : Nat) (hk : wl R + k / 32 + 1 ≤ 301) : ef_C l yX2_alignTops wsX2_alignTops ({ frames := 3, cells := 0, slots := 0, locals := 72 } : Room) [.ref (q 0), .int (iv ((k : Int)))] (dC, dI) vwCl tys (cC cI q (A1) (U1) (b1) (e1) (A2) (U2) (b2) (e2) (L) (R)) (fun o w1 => o = none ∧ w1 = cC cI q (A1) (U1) (b1) (e1) (A2) (U2) (b2) (e2) (L) (R * 2 ^ k)) := by
  refine ef_C.of (cc := cX2_alignTops) (maxL := 2) (ret := none) (by decide) rfl (Nat.le_of_ble_eq_true rfl) ?_
  intro p e s m below meth c ls hx hb hml hr hts hown hlocks hK hNX hP hD hS hl
  have hl : lv_has ls 2 [(0, .ref (q 0)), (1, .int (iv ((k : Int))))] := hl
  have hown : s.vm.findClass RX2 = some m.cls := hown
  generalize hH : s.heap = H at hP ⊢
  have hS : va_S (ef_A (cC cI q (A1) (U1) (b1) (e1) (A2) (U2) (b2) (e2) (L) (R))) s.heap H [] := by rw [← hH]; exact hS
  generalize ([] : List Loc) = locs at hS ⊢
  refine lv_iload_n hx hb dX2_alignTops_0 rfl (lv_at hl 1 rfl) ?_
  refine iw_if_ge (tgt := 16) hx hb dX2_alignTops_1 (by decide) ⟨by omega, by omega⟩ (fun c1 => ?_) (fun c1 => ?_)
  ·
    refine lv_aload_n hx hb dX2_alignTops_16 rfl (lv_at hl 0 rfl) ?_
    refine va_get (D := (dC, dI)) (ci := 2) (v := .ref (q 13)) (C := RX2) (T := TX2) (N := 4) hx hb hts (by decide +kernel) hown hK hP 0 rfl rfl 3 (by decide) (hts (.fieldLink RX2 26 "ExactFractions" "right" "LExactFractions$Whole;") (by decide +kernel)) (fun _ h9 => h9) rfl dX2_alignTops_17 ?_
    refine lv_iload_n hx hb dX2_alignTops_20 rfl (lv_at hl 1 rfl) ?_
    refine ef_callV (As := [.int (iv ((k : Int)))]) (rest := []) ⟨hx, hb, hml, hown, hts⟩ (c_shiftUp l dC dI ht (isW_c (X := R) (ws := cC cI q (A1) (U1) (b1) (e1) (A2) (U2) (b2) (e2) (L) (R)) (k0 := 13) (k1 := 14) (by decide) rfl rfl) hR k hk) (cwV 1 hts gX2_alignTops_X1_shiftUp rfl rfl rfl (by decide +kernel) ⟨Nat.le_of_ble_eq_true rfl, Nat.le_of_ble_eq_true rfl⟩) hK hNX hP hD hS 13 rfl rfl rfl rfl hl.1 rfl (Nat.le_of_ble_eq_true rfl) dX2_alignTops_21 ⟨Nat.zero_le _, Nat.zero_le _⟩ (fun o w1 H locs hq hP hD hS => ?_)
    obtain ⟨rfl, rfl⟩ := hq
    have hP : va_P (dC, dI) vwCl (cC cI q (A1) (U1) (b1) (e1) (A2) (U2) (b2) (e2) (L) (R * 2 ^ k)) H := hP
    have hD : va_D (ef_A (cC cI q (A1) (U1) (b1) (e1) (A2) (U2) (b2) (e2) (L) (R))) (cC cI q (A1) (U1) (b1) (e1) (A2) (U2) (b2) (e2) (L) (R * 2 ^ k)) := hD
    refine W.eq (g2 := F0 m 24 ls []) rfl ?_
    exact ef_vret hx hb hr hlocks hP hD hS dX2_alignTops_24 (⟨rfl, rfl⟩)
  ·
    exact absurd c1 (by omega)

set_option maxRecDepth 100000 in
set_option maxHeartbeats 4000000 in
/-- orderOfSizes -/
theorem c_orderOfSizes (l : Launch) (dC : Nat → ClassId) (dI : Nat → Nat → Nat) {cI : ClassId} {tys : List (ClassId × FieldType)} (ht : tys[0]? = some (cI, .int)) (q : Nat → Nat) {A1 U1 A2 U2 L R : Nat} {b1 e1 b2 e2 : Int} (hA1 : wl A1 ≤ 150) (hU1 : wl U1 ≤ 150) (hA2 : wl A2 ≤ 150) (hU2 : wl U2 ≤ 150) (hL : wl L ≤ 301) (hR : wl R ≤ 301) (bA1 : bl A1 ≤ 4800) (bU1 : bl U1 ≤ 4800) (bA2 : bl A2 ≤ 4800) (bU2 : bl U2 ≤ 4800) (le1 : -12000 ≤ e1) (ge1 : e1 ≤ 12000) (le2 : -12000 ≤ e2) (ge2 : e2 ≤ 12000) (nA1 : A1 ≠ 0) (nU1 : U1 ≠ 0) (nA2 : A2 ≠ 0) (nU2 : U2 ≠ 0) : ef_C l yX2_orderOfSizes wsX2_orderOfSizes ({ frames := 4, cells := 0, slots := 0, locals := 93 } : Room) [.ref (q 0)] (dC, dI) vwCl tys (cC cI q (A1) (U1) (b1) (e1) (A2) (U2) (b2) (e2) (L) (R)) (fun o w1 => ∃ L2 R2 : Nat, o = some (.int (iv (scmp A1 U1 e1 A2 U2 e2))) ∧ w1 = cC cI q (A1) (U1) (b1) (e1) (A2) (U2) (b2) (e2) (L2) (R2) ∧ wl L2 ≤ 301 ∧ wl R2 ≤ 301) := by
  refine ef_C.of (cc := cX2_orderOfSizes) (maxL := 3) (ret := (some .int)) (by decide) rfl (Nat.le_of_ble_eq_true rfl) ?_
  intro p e s m below meth c ls hx hb hml hr hts hown hlocks hK hNX hP hD hS hl
  have hl : lv_has ls 3 [(0, .ref (q 0))] := hl
  have hown : s.vm.findClass RX2 = some m.cls := hown
  generalize hH : s.heap = H at hP ⊢
  have hS : va_S (ef_A (cC cI q (A1) (U1) (b1) (e1) (A2) (U2) (b2) (e2) (L) (R))) s.heap H [] := by rw [← hH]; exact hS
  generalize ([] : List Loc) = locs at hS ⊢
  refine lv_aload_n hx hb dX2_orderOfSizes_0 rfl (lv_at hl 0 rfl) ?_
  refine va_get (D := (dC, dI)) (ci := 2) (v := .ref (q 1)) (C := RX2) (T := TX2) (N := 4) hx hb hts (by decide +kernel) hown hK hP 0 rfl rfl 0 (by decide) (hts (.fieldLink RX2 12 "ExactFractions" "first" "LExactFractions$Fraction;") (by decide +kernel)) (fun _ h9 => h9) rfl dX2_orderOfSizes_1 ?_
  refine ef_callV (As := []) (rest := []) ⟨hx, hb, hml, hown, hts⟩ (c_rank0 l dC dI ht q hA1 hU1 hA2 hU2 hL hR) (cwV 0 hts gX2_orderOfSizes_X0_rank rfl rfl rfl (by decide +kernel) ⟨Nat.le_of_ble_eq_true rfl, Nat.le_of_ble_eq_true rfl⟩) hK hNX hP hD hS 1 rfl rfl rfl rfl hl.1 rfl (Nat.le_of_ble_eq_true rfl) dX2_orderOfSizes_4 ⟨Nat.zero_le _, Nat.zero_le _⟩ (fun o w1 H locs hq hP hD hS => ?_)
  obtain ⟨rfl, e9⟩ := hq
  rw [e9] at hP hD
  refine W.eq (g2 := F0 m 7 ls [.int (iv ((bl A1 : Int) - (bl U1 : Int) + e1))]) rfl ?_
  refine lv_aload_n hx hb dX2_orderOfSizes_7 rfl (lv_at hl 0 rfl) ?_
  refine va_get (D := (dC, dI)) (ci := 2) (v := .ref (q 2)) (C := RX2) (T := TX2) (N := 4) hx hb hts (by decide +kernel) hown hK hP 0 rfl rfl 1 (by decide) (hts (.fieldLink RX2 16 "ExactFractions" "second" "LExactFractions$Fraction;") (by decide +kernel)) (fun _ h9 => h9) rfl dX2_orderOfSizes_8 ?_
  refine ef_callV (As := []) (rest := [.int (iv ((bl A1 : Int) - (bl U1 : Int) + e1))]) ⟨hx, hb, hml, hown, hts⟩ (c_rank1 l dC dI ht q hA1 hU1 hA2 hU2 hL hR) (cwV 0 hts gX2_orderOfSizes_X0_rank rfl rfl rfl (by decide +kernel) ⟨Nat.le_of_ble_eq_true rfl, Nat.le_of_ble_eq_true rfl⟩) hK hNX hP hD hS 2 rfl rfl rfl rfl hl.1 rfl (Nat.le_of_ble_eq_true rfl) dX2_orderOfSizes_11 ⟨Nat.zero_le _, Nat.zero_le _⟩ (fun o w1 H locs hq hP hD hS => ?_)
  obtain ⟨rfl, e9⟩ := hq
  rw [e9] at hP hD
  refine W.eq (g2 := F0 m 14 ls [.int (iv ((bl A2 : Int) - (bl U2 : Int) + e2)), .int (iv ((bl A1 : Int) - (bl U1 : Int) + e1))]) rfl ?_
  refine iw_isub hx hb dX2_orderOfSizes_14 ?_
  obtain ⟨ld, hld⟩ : ∃ z, z = (bl A1 : Int) - (bl U1 : Int) + e1 - ((bl A2 : Int) - (bl U2 : Int) + e2) := ⟨_, rfl⟩
  refine iw_topi (y := iv (ld)) (congrArg iv (by omega : ((((bl A1 : Int) - (bl U1 : Int) + e1) - ((bl A2 : Int) - (bl U2 : Int) + e2)) : Int) = (ld))) ?_
  refine lv_istore_n (lv' := [(1, .int (iv (ld))), (0, .ref (q 0))]) hx hb dX2_orderOfSizes_15 rfl hl (by decide) rfl (fun ls hl => ?_)
  refine lv_iload_n hx hb dX2_orderOfSizes_16 rfl (lv_at hl 0 rfl) ?_
  refine lv_iconst (v := iv (1)) hx hb dX2_orderOfSizes_17 (by decide) ?_
  refine iw_icmp_gt (tgt := 26) hx hb dX2_orderOfSizes_18 (by decide) ⟨by omega, by omega⟩ ⟨by omega, by omega⟩ (fun c1 => ?_) (fun c1 => ?_)
  ·
    refine lv_iload_n hx hb dX2_orderOfSizes_26 rfl (lv_at hl 0 rfl) ?_
    refine iw_if_ge (tgt := 34) hx hb dX2_orderOfSizes_27 (by decide) ⟨by omega, by omega⟩ (fun c2 => ?_) (fun c2 => ?_)
    ·
      refine lv_iconst (v := iv (1)) hx hb dX2_orderOfSizes_34 (by decide) ?_
      exact ef_iret hx hb hr hlocks hP hD hS dX2_orderOfSizes_35 (by rw [scmp_gt nA1 nU2 (by omega) (by omega) (by omega)]; exact ⟨_, _, rfl, rfl, hL, hR⟩)
    ·
      exact absurd c2 (by omega)
  ·
    refine lv_iload_n hx hb dX2_orderOfSizes_21 rfl (lv_at hl 0 rfl) ?_
    refine lv_iconst (v := iv (-1)) hx hb dX2_orderOfSizes_22 (by decide) ?_
    refine iw_icmp_ge (tgt := 36) hx hb dX2_orderOfSizes_23 (by decide) ⟨by omega, by omega⟩ ⟨by omega, by omega⟩ (fun c3 => ?_) (fun c3 => ?_)
    ·
      refine lv_aload_n hx hb dX2_orderOfSizes_36 rfl (lv_at hl 1 rfl) ?_
      refine va_get (D := (dC, dI)) (ci := 2) (v := .ref (q 11)) (C := RX2) (T := TX2) (N := 4) hx hb hts (by decide +kernel) hown hK hP 0 rfl rfl 2 (by decide) (hts (.fieldLink RX2 22 "ExactFractions" "left" "LExactFractions$Whole;") (by decide +kernel)) (fun _ h9 => h9) rfl dX2_orderOfSizes_37 ?_
      refine lv_aload_n hx hb dX2_orderOfSizes_40 rfl (lv_at hl 1 rfl) ?_
      refine va_get (D := (dC, dI)) (ci := 2) (v := .ref (q 1)) (C := RX2) (T := TX2) (N := 4) hx hb hts (by decide +kernel) hown hK hP 0 rfl rfl 0 (by decide) (hts (.fieldLink RX2 12 "ExactFractions" "first" "LExactFractions$Fraction;") (by decide +kernel)) (fun _ h9 => h9) rfl dX2_orderOfSizes_41 ?_
      refine va_get (D := (dC, dI)) (ci := 0) (v := .ref (q 3)) (C := RX0) (T := TX0) (N := 4) hx hb hts (by decide +kernel) hown hK hP 1 rfl rfl 0 (by decide) (hts (.fieldLink RX2 65 "ExactFractions$Fraction" "above" "LExactFractions$Whole;") (by decide +kernel)) (fun _ h9 => h9) rfl dX2_orderOfSizes_44 ?_
      refine lv_aload_n hx hb dX2_orderOfSizes_47 rfl (lv_at hl 1 rfl) ?_
      refine va_get (D := (dC, dI)) (ci := 2) (v := .ref (q 2)) (C := RX2) (T := TX2) (N := 4) hx hb hts (by decide +kernel) hown hK hP 0 rfl rfl 1 (by decide) (hts (.fieldLink RX2 16 "ExactFractions" "second" "LExactFractions$Fraction;") (by decide +kernel)) (fun _ h9 => h9) rfl dX2_orderOfSizes_48 ?_
      refine va_get (D := (dC, dI)) (ci := 0) (v := .ref (q 9)) (C := RX0) (T := TX0) (N := 4) hx hb hts (by decide +kernel) hown hK hP 2 rfl rfl 1 (by decide) (hts (.fieldLink RX2 103 "ExactFractions$Fraction" "under" "LExactFractions$Whole;") (by decide +kernel)) (fun _ h9 => h9) rfl dX2_orderOfSizes_51 ?_
      refine ef_callV (As := [.ref (q 3), .ref (q 9)]) (rest := []) ⟨hx, hb, hml, hown, hts⟩ (c_product l dC dI ht (isW_c (X := L) (ws := cC cI q (A1) (U1) (b1) (e1) (A2) (U2) (b2) (e2) (L) (R)) (k0 := 11) (k1 := 12) (by decide) rfl rfl) hL (wd_lt _) wd_z (isW_c (X := A1) (ws := cC cI q (A1) (U1) (b1) (e1) (A2) (U2) (b2) (e2) (L) (R)) (k0 := 3) (k1 := 4) (by decide) rfl rfl) (by omega) (apt_c (k0 := 11) (k1 := 12) (j0 := 3) (j1 := 4) rfl) (isW_c (X := U2) (ws := cC cI q (A1) (U1) (b1) (e1) (A2) (U2) (b2) (e2) (L) (R)) (k0 := 9) (k1 := 10) (by decide) rfl rfl) (by omega) (apt_c (k0 := 11) (k1 := 12) (j0 := 9) (j1 := 10) rfl) (by omega)) (cwV 2 hts gX2_orderOfSizes_X1_becomeProduct rfl rfl rfl (by decide +kernel) ⟨Nat.le_of_ble_eq_true rfl, Nat.le_of_ble_eq_true rfl⟩) hK hNX hP hD hS 11 rfl rfl rfl rfl hl.1 rfl (Nat.le_of_ble_eq_true rfl) dX2_orderOfSizes_54 ⟨Nat.zero_le _, Nat.zero_le _⟩ (fun o w1 H locs hq hP hD hS => ?_)
      obtain ⟨rfl, rfl⟩ := hq
      have hP : va_P (dC, dI) vwCl (cC cI q (A1) (U1) (b1) (e1) (A2) (U2) (b2) (e2) (A1 * U2) (R)) H := hP
      have hD : va_D (ef_A (cC cI q (A1) (U1) (b1) (e1) (A2) (U2) (b2) (e2) (L) (R))) (cC cI q (A1) (U1) (b1) (e1) (A2) (U2) (b2) (e2) (A1 * U2) (R)) := hD
      refine W.eq (g2 := F0 m 57 ls []) rfl ?_
      refine lv_aload_n hx hb dX2_orderOfSizes_57 rfl (lv_at hl 1 rfl) ?_
      refine va_get (D := (dC, dI)) (ci := 2) (v := .ref (q 13)) (C := RX2) (T := TX2) (N := 4) hx hb hts (by decide +kernel) hown hK hP 0 rfl rfl 3 (by decide) (hts (.fieldLink RX2 26 "ExactFractions" "right" "LExactFractions$Whole;") (by decide +kernel)) (fun _ h9 => h9) rfl dX2_orderOfSizes_58 ?_
      refine lv_aload_n hx hb dX2_orderOfSizes_61 rfl (lv_at hl 1 rfl) ?_
      refine va_get (D := (dC, dI)) (ci := 2) (v := .ref (q 2)) (C := RX2) (T := TX2) (N := 4) hx hb hts (by decide +kernel) hown hK hP 0 rfl rfl 1 (by decide) (hts (.fieldLink RX2 16 "ExactFractions" "second" "LExactFractions$Fraction;") (by decide +kernel)) (fun _ h9 => h9) rfl dX2_orderOfSizes_62 ?_
      refine va_get (D := (dC, dI)) (ci := 0) (v := .ref (q 7)) (C := RX0) (T := TX0) (N := 4) hx hb hts (by decide +kernel) hown hK hP 2 rfl rfl 0 (by decide) (hts (.fieldLink RX2 65 "ExactFractions$Fraction" "above" "LExactFractions$Whole;") (by decide +kernel)) (fun _ h9 => h9) rfl dX2_orderOfSizes_65 ?_
      refine lv_aload_n hx hb dX2_orderOfSizes_68 rfl (lv_at hl 1 rfl) ?_
      refine va_get (D := (dC, dI)) (ci := 2) (v := .ref (q 1)) (C := RX2) (T := TX2) (N := 4) hx hb hts (by decide +kernel) hown hK hP 0 rfl rfl 0 (by decide) (hts (.fieldLink RX2 12 "ExactFractions" "first" "LExactFractions$Fraction;") (by decide +kernel)) (fun _ h9 => h9) rfl dX2_orderOfSizes_69 ?_
      refine va_get (D := (dC, dI)) (ci := 0) (v := .ref (q 5)) (C := RX0) (T := TX0) (N := 4) hx hb hts (by decide +kernel) hown hK hP 1 rfl rfl 1 (by decide) (hts (.fieldLink RX2 103 "ExactFractions$Fraction" "under" "LExactFractions$Whole;") (by decide +kernel)) (fun _ h9 => h9) rfl dX2_orderOfSizes_72 ?_
      refine ef_callV (As := [.ref (q 7), .ref (q 5)]) (rest := []) ⟨hx, hb, hml, hown, hts⟩ (c_product l dC dI ht (isW_c (X := R) (ws := cC cI q (A1) (U1) (b1) (e1) (A2) (U2) (b2) (e2) (A1 * U2) (R)) (k0 := 13) (k1 := 14) (by decide) rfl rfl) hR (wd_lt _) wd_z (isW_c (X := A2) (ws := cC cI q (A1) (U1) (b1) (e1) (A2) (U2) (b2) (e2) (A1 * U2) (R)) (k0 := 7) (k1 := 8) (by decide) rfl rfl) (by omega) (apt_c (k0 := 13) (k1 := 14) (j0 := 7) (j1 := 8) rfl) (isW_c (X := U1) (ws := cC cI q (A1) (U1) (b1) (e1) (A2) (U2) (b2) (e2) (A1 * U2) (R)) (k0 := 5) (k1 := 6) (by decide) rfl rfl) (by omega) (apt_c (k0 := 13) (k1 := 14) (j0 := 5) (j1 := 6) rfl) (by omega)) (cwV 2 hts gX2_orderOfSizes_X1_becomeProduct rfl rfl rfl (by decide +kernel) ⟨Nat.le_of_ble_eq_true rfl, Nat.le_of_ble_eq_true rfl⟩) hK hNX hP hD hS 13 rfl rfl rfl rfl hl.1 rfl (Nat.le_of_ble_eq_true rfl) dX2_orderOfSizes_75 ⟨Nat.zero_le _, Nat.zero_le _⟩ (fun o w1 H locs hq hP hD hS => ?_)
      obtain ⟨rfl, rfl⟩ := hq
      have hP : va_P (dC, dI) vwCl (cC cI q (A1) (U1) (b1) (e1) (A2) (U2) (b2) (e2) (A1 * U2) (A2 * U1)) H := hP
      have hD : va_D (ef_A (cC cI q (A1) (U1) (b1) (e1) (A2) (U2) (b2) (e2) (L) (R))) (cC cI q (A1) (U1) (b1) (e1) (A2) (U2) (b2) (e2) (A1 * U2) (A2 * U1)) := hD
      refine W.eq (g2 := F0 m 78 ls []) rfl ?_
      have bL := bl_mul_le A1 U2
      have bR := bl_mul_le A2 U1
      have nL : A1 * U2 ≠ 0 := Nat.mul_ne_zero nA1 nU2
      have nR : A2 * U1 ≠ 0 := Nat.mul_ne_zero nA2 nU1
      have wL := wl_of_bl (A1 * U2)
      have wR := wl_of_bl (A2 * U1)
      have hs : scmp A1 U1 e1 A2 U2 e2 = zc ((A1 * U2 * pw e1 : Nat) : Int) ((A2 * U1 * pw e2 : Nat) : Int) := rfl
      rw [hs]
      generalize A1 * U2 = P1 at hP hD bL nL wL ⊢
      generalize A2 * U1 = P2 at hP hD bR nR wR ⊢
      refine lv_aload_n hx hb dX2_orderOfSizes_78 rfl (lv_at hl 1 rfl) ?_
      refine va_get (D := (dC, dI)) (ci := 2) (v := .ref (q 11)) (C := RX2) (T := TX2) (N := 4) hx hb hts (by decide +kernel) hown hK hP 0 rfl rfl 2 (by decide) (hts (.fieldLink RX2 22 "ExactFractions" "left" "LExactFractions$Whole;") (by decide +kernel)) (fun _ h9 => h9) rfl dX2_orderOfSizes_79 ?_
      refine ef_callV (As := []) (rest := []) ⟨hx, hb, hml, hown, hts⟩ (c_length l dC dI ht (isW_c (X := P1) (ws := cC cI q (A1) (U1) (b1) (e1) (A2) (U2) (b2) (e2) (P1) (P2)) (k0 := 11) (k1 := 12) (by decide) rfl rfl) (by omega)) (cwV 0 hts gX2_orderOfSizes_X1_length rfl rfl rfl (by decide +kernel) ⟨Nat.le_of_ble_eq_true rfl, Nat.le_of_ble_eq_true rfl⟩) hK hNX hP hD hS 11 rfl rfl rfl rfl hl.1 rfl (Nat.le_of_ble_eq_true rfl) dX2_orderOfSizes_82 ⟨Nat.zero_le _, Nat.zero_le _⟩ (fun o w1 H locs hq hP hD hS => ?_)
      obtain ⟨rfl, e9⟩ := hq
      rw [e9] at hP hD
      refine W.eq (g2 := F0 m 85 ls [.int (iv ((bl P1 : Int)))]) rfl ?_
      refine lv_aload_n hx hb dX2_orderOfSizes_85 rfl (lv_at hl 1 rfl) ?_
      refine va_get (D := (dC, dI)) (ci := 2) (v := .ref (q 13)) (C := RX2) (T := TX2) (N := 4) hx hb hts (by decide +kernel) hown hK hP 0 rfl rfl 3 (by decide) (hts (.fieldLink RX2 26 "ExactFractions" "right" "LExactFractions$Whole;") (by decide +kernel)) (fun _ h9 => h9) rfl dX2_orderOfSizes_86 ?_
      refine ef_callV (As := []) (rest := [.int (iv ((bl P1 : Int)))]) ⟨hx, hb, hml, hown, hts⟩ (c_length l dC dI ht (isW_c (X := P2) (ws := cC cI q (A1) (U1) (b1) (e1) (A2) (U2) (b2) (e2) (P1) (P2)) (k0 := 13) (k1 := 14) (by decide) rfl rfl) (by omega)) (cwV 0 hts gX2_orderOfSizes_X1_length rfl rfl rfl (by decide +kernel) ⟨Nat.le_of_ble_eq_true rfl, Nat.le_of_ble_eq_true rfl⟩) hK hNX hP hD hS 13 rfl rfl rfl rfl hl.1 rfl (Nat.le_of_ble_eq_true rfl) dX2_orderOfSizes_89 ⟨Nat.zero_le _, Nat.zero_le _⟩ (fun o w1 H locs hq hP hD hS => ?_)
      obtain ⟨rfl, e9⟩ := hq
      rw [e9] at hP hD
      refine W.eq (g2 := F0 m 92 ls [.int (iv ((bl P2 : Int))), .int (iv ((bl P1 : Int)))]) rfl ?_
      refine iw_isub hx hb dX2_orderOfSizes_92 ?_
      obtain ⟨gp, hgp⟩ : ∃ z, z = (bl P1 : Int) - (bl P2 : Int) := ⟨_, rfl⟩
      refine iw_topi (y := iv (gp)) (congrArg iv (by omega : ((((bl P1 : Int)) - ((bl P2 : Int))) : Int) = (gp))) ?_
      refine lv_istore_n (lv' := [(2, .int (iv (gp))), (1, .int (iv (ld))), (0, .ref (q 0))]) hx hb dX2_orderOfSizes_93 rfl hl (by decide) rfl (fun ls hl => ?_)
      refine lv_iload_n hx hb dX2_orderOfSizes_94 rfl (lv_at hl 0 rfl) ?_
      refine lv_aload_n hx hb dX2_orderOfSizes_95 rfl (lv_at hl 2 rfl) ?_
      refine va_get (D := (dC, dI)) (ci := 2) (v := .ref (q 1)) (C := RX2) (T := TX2) (N := 4) hx hb hts (by decide +kernel) hown hK hP 0 rfl rfl 0 (by decide) (hts (.fieldLink RX2 12 "ExactFractions" "first" "LExactFractions$Fraction;") (by decide +kernel)) (fun _ h9 => h9) rfl dX2_orderOfSizes_96 ?_
      refine va_get (D := (dC, dI)) (ci := 0) (v := .int (iv (e1))) (C := RX0) (T := TX0) (N := 4) hx hb hts (by decide +kernel) hown hK hP 1 rfl rfl 3 (by decide) (hts (.fieldLink RX2 61 "ExactFractions$Fraction" "exponent" "I") (by decide +kernel)) (fun _ h9 => h9) rfl dX2_orderOfSizes_99 ?_
      refine iw_iadd hx hb dX2_orderOfSizes_102 ?_
      refine lv_aload_n hx hb dX2_orderOfSizes_103 rfl (lv_at hl 2 rfl) ?_
      refine va_get (D := (dC, dI)) (ci := 2) (v := .ref (q 2)) (C := RX2) (T := TX2) (N := 4) hx hb hts (by decide +kernel) hown hK hP 0 rfl rfl 1 (by decide) (hts (.fieldLink RX2 16 "ExactFractions" "second" "LExactFractions$Fraction;") (by decide +kernel)) (fun _ h9 => h9) rfl dX2_orderOfSizes_104 ?_
      refine va_get (D := (dC, dI)) (ci := 0) (v := .int (iv (e2))) (C := RX0) (T := TX0) (N := 4) hx hb hts (by decide +kernel) hown hK hP 2 rfl rfl 3 (by decide) (hts (.fieldLink RX2 61 "ExactFractions$Fraction" "exponent" "I") (by decide +kernel)) (fun _ h9 => h9) rfl dX2_orderOfSizes_107 ?_
      refine iw_isub hx hb dX2_orderOfSizes_110 ?_
      refine lv_istore_n (lv' := [(1, .int (iv (((gp) + (e1)) - (e2)))), (2, .int (iv (gp))), (0, .ref (q 0))]) hx hb dX2_orderOfSizes_111 rfl hl (by decide) rfl (fun ls hl => ?_)
      refine lv_iload_n hx hb dX2_orderOfSizes_112 rfl (lv_at hl 0 rfl) ?_
      refine iw_if_eq (tgt := 126) hx hb dX2_orderOfSizes_113 (by decide) ⟨by omega, by omega⟩ (fun c4 => ?_) (fun c4 => ?_)
      ·
        have hgp2 : gp = e2 - e1 := by omega
        have hdone : ∀ P Q : Nat, zc ((P1 * pw e1 : Nat) : Int) ((P2 * pw e2 : Nat) : Int) = zc (P : Int) (Q : Int) → True := fun _ _ _ => trivial
        rcases Int.lt_or_le gp 0 with hg | hg
        ·
          obtain ⟨k, hk⟩ : ∃ k : Nat, gp = -(k : Int) := ⟨(-gp).toNat, by omega⟩
          subst hk
          refine lv_aload_n hx hb dX2_orderOfSizes_126 rfl (lv_at hl 2 rfl) ?_
          refine lv_iload_n hx hb dX2_orderOfSizes_127 rfl (lv_at hl 1 rfl) ?_
          refine ef_callV (As := [.int (iv (-(k : Int)))]) (rest := []) ⟨hx, hb, hml, hown, hts⟩ (c_alignN l dC dI ht q hA1 hU1 hA2 hU2 (by omega) (by omega) k (by omega) (by omega)) (cwV 1 hts gX2_orderOfSizes_X2_alignTops rfl rfl rfl (by decide +kernel) ⟨Nat.le_of_ble_eq_true rfl, Nat.le_of_ble_eq_true rfl⟩) hK hNX hP hD hS 0 rfl rfl rfl rfl hl.1 rfl (Nat.le_of_ble_eq_true rfl) dX2_orderOfSizes_128 ⟨Nat.zero_le _, Nat.zero_le _⟩ (fun o w1 H locs hq hP hD hS => ?_)
          obtain ⟨rfl, rfl⟩ := hq
          have hP : va_P (dC, dI) vwCl (cC cI q (A1) (U1) (b1) (e1) (A2) (U2) (b2) (e2) (P1 * 2 ^ k) (P2)) H := hP
          have hD : va_D (ef_A (cC cI q (A1) (U1) (b1) (e1) (A2) (U2) (b2) (e2) (L) (R))) (cC cI q (A1) (U1) (b1) (e1) (A2) (U2) (b2) (e2) (P1 * 2 ^ k) (P2)) := hD
          refine W.eq (g2 := F0 m 131 ls []) rfl ?_
          have hw9 : wl (P1 * 2 ^ k) ≤ 301 := wl_le (by
            have h1 := bl_lt P1
            have h2 : P1 * 2 ^ k < 2 ^ (bl P1 + k) := by rw [Nat.pow_add]; exact Nat.mul_lt_mul_of_pos_right h1 (Nat.pow_pos (by decide))
            exact Nat.lt_of_lt_of_le h2 (Nat.pow_le_pow_right (by decide) (by omega)))
          have hz9 : zc ((P1 * pw e1 : Nat) : Int) ((P2 * pw e2 : Nat) : Int) = zc ((P1 * 2 ^ k : Nat) : Int) (P2 : Int) := by
            rw [show e1 = e2 + (k : Int) by omega, pw_add (by omega), Nat.mul_comm (pw e2), ← Nat.mul_assoc, zc_mul (pw_pos e2)]
          refine lv_aload_n hx hb dX2_orderOfSizes_131 rfl (lv_at hl 2 rfl) ?_
          refine va_get (D := (dC, dI)) (ci := 2) (v := .ref (q 11)) (C := RX2) (T := TX2) (N := 4) hx hb hts (by decide +kernel) hown hK hP 0 rfl rfl 2 (by decide) (hts (.fieldLink RX2 22 "ExactFractions" "left" "LExactFractions$Whole;") (by decide +kernel)) (fun _ h9 => h9) rfl dX2_orderOfSizes_132 ?_
          refine lv_aload_n hx hb dX2_orderOfSizes_135 rfl (lv_at hl 2 rfl) ?_
          refine va_get (D := (dC, dI)) (ci := 2) (v := .ref (q 13)) (C := RX2) (T := TX2) (N := 4) hx hb hts (by decide +kernel) hown hK hP 0 rfl rfl 3 (by decide) (hts (.fieldLink RX2 26 "ExactFractions" "right" "LExactFractions$Whole;") (by decide +kernel)) (fun _ h9 => h9) rfl dX2_orderOfSizes_136 ?_
          refine ef_callV (As := [.ref (q 13)]) (rest := []) ⟨hx, hb, hml, hown, hts⟩ (c_order l dC dI ht (isW_c (X := P1 * 2 ^ k) (ws := cC cI q (A1) (U1) (b1) (e1) (A2) (U2) (b2) (e2) (P1 * 2 ^ k) (P2)) (k0 := 11) (k1 := 12) (by decide) rfl rfl) hw9 (isW_c (X := P2) (ws := cC cI q (A1) (U1) (b1) (e1) (A2) (U2) (b2) (e2) (P1 * 2 ^ k) (P2)) (k0 := 13) (k1 := 14) (by decide) rfl rfl) (by omega)) (cwV 1 hts gX2_orderOfSizes_X1_order rfl rfl rfl (by decide +kernel) ⟨Nat.le_of_ble_eq_true rfl, Nat.le_of_ble_eq_true rfl⟩) hK hNX hP hD hS 11 rfl rfl rfl rfl hl.1 rfl (Nat.le_of_ble_eq_true rfl) dX2_orderOfSizes_139 ⟨Nat.zero_le _, Nat.zero_le _⟩ (fun o w1 H locs hq hP hD hS => ?_)
          obtain ⟨rfl, e9⟩ := hq
          rw [e9] at hP hD
          refine W.eq (g2 := F0 m 142 ls [.int (iv (zc ((P1 * 2 ^ k : Nat) : Int) ((P2 : Nat) : Int)))]) rfl ?_
          exact ef_iret hx hb hr hlocks hP hD hS dX2_orderOfSizes_142 (by rw [hz9]; exact ⟨_, _, rfl, rfl, hw9, by omega⟩)
        ·
          obtain ⟨k, hk⟩ : ∃ k : Nat, gp = (k : Int) := ⟨gp.toNat, by omega⟩
          subst hk
          refine lv_aload_n hx hb dX2_orderOfSizes_126 rfl (lv_at hl 2 rfl) ?_
          refine lv_iload_n hx hb dX2_orderOfSizes_127 rfl (lv_at hl 1 rfl) ?_
          refine ef_callV (As := [.int (iv ((k : Int)))]) (rest := []) ⟨hx, hb, hml, hown, hts⟩ (c_alignP l dC dI ht q hA1 hU1 hA2 hU2 (by omega) (by omega) k (by omega)) (cwV 1 hts gX2_orderOfSizes_X2_alignTops rfl rfl rfl (by decide +kernel) ⟨Nat.le_of_ble_eq_true rfl, Nat.le_of_ble_eq_true rfl⟩) hK hNX hP hD hS 0 rfl rfl rfl rfl hl.1 rfl (Nat.le_of_ble_eq_true rfl) dX2_orderOfSizes_128 ⟨Nat.zero_le _, Nat.zero_le _⟩ (fun o w1 H locs hq hP hD hS => ?_)
          obtain ⟨rfl, rfl⟩ := hq
          have hP : va_P (dC, dI) vwCl (cC cI q (A1) (U1) (b1) (e1) (A2) (U2) (b2) (e2) (P1) (P2 * 2 ^ k)) H := hP
          have hD : va_D (ef_A (cC cI q (A1) (U1) (b1) (e1) (A2) (U2) (b2) (e2) (L) (R))) (cC cI q (A1) (U1) (b1) (e1) (A2) (U2) (b2) (e2) (P1) (P2 * 2 ^ k)) := hD
          refine W.eq (g2 := F0 m 131 ls []) rfl ?_
          have hw9 : wl (P2 * 2 ^ k) ≤ 301 := wl_le (by
            have h1 := bl_lt P2
            have h2 : P2 * 2 ^ k < 2 ^ (bl P2 + k) := by rw [Nat.pow_add]; exact Nat.mul_lt_mul_of_pos_right h1 (Nat.pow_pos (by decide))
            exact Nat.lt_of_lt_of_le h2 (Nat.pow_le_pow_right (by decide) (by omega)))
          have hz9 : zc ((P1 * pw e1 : Nat) : Int) ((P2 * pw e2 : Nat) : Int) = zc (P1 : Int) ((P2 * 2 ^ k : Nat) : Int) := by
            rw [show e2 = e1 + (k : Int) by omega, pw_add (by omega), Nat.mul_comm (pw e1), ← Nat.mul_assoc, zc_mul (pw_pos e1)]
          refine lv_aload_n hx hb dX2_orderOfSizes_131 rfl (lv_at hl 2 rfl) ?_
          refine va_get (D := (dC, dI)) (ci := 2) (v := .ref (q 11)) (C := RX2) (T := TX2) (N := 4) hx hb hts (by decide +kernel) hown hK hP 0 rfl rfl 2 (by decide) (hts (.fieldLink RX2 22 "ExactFractions" "left" "LExactFractions$Whole;") (by decide +kernel)) (fun _ h9 => h9) rfl dX2_orderOfSizes_132 ?_
          refine lv_aload_n hx hb dX2_orderOfSizes_135 rfl (lv_at hl 2 rfl) ?_
          refine va_get (D := (dC, dI)) (ci := 2) (v := .ref (q 13)) (C := RX2) (T := TX2) (N := 4) hx hb hts (by decide +kernel) hown hK hP 0 rfl rfl 3 (by decide) (hts (.fieldLink RX2 26 "ExactFractions" "right" "LExactFractions$Whole;") (by decide +kernel)) (fun _ h9 => h9) rfl dX2_orderOfSizes_136 ?_
          refine ef_callV (As := [.ref (q 13)]) (rest := []) ⟨hx, hb, hml, hown, hts⟩ (c_order l dC dI ht (isW_c (X := P1) (ws := cC cI q (A1) (U1) (b1) (e1) (A2) (U2) (b2) (e2) (P1) (P2 * 2 ^ k)) (k0 := 11) (k1 := 12) (by decide) rfl rfl) (by omega) (isW_c (X := P2 * 2 ^ k) (ws := cC cI q (A1) (U1) (b1) (e1) (A2) (U2) (b2) (e2) (P1) (P2 * 2 ^ k)) (k0 := 13) (k1 := 14) (by decide) rfl rfl) hw9) (cwV 1 hts gX2_orderOfSizes_X1_order rfl rfl rfl (by decide +kernel) ⟨Nat.le_of_ble_eq_true rfl, Nat.le_of_ble_eq_true rfl⟩) hK hNX hP hD hS 11 rfl rfl rfl rfl hl.1 rfl (Nat.le_of_ble_eq_true rfl) dX2_orderOfSizes_139 ⟨Nat.zero_le _, Nat.zero_le _⟩ (fun o w1 H locs hq hP hD hS => ?_)
          obtain ⟨rfl, e9⟩ := hq
          rw [e9] at hP hD
          refine W.eq (g2 := F0 m 142 ls [.int (iv (zc ((P1 : Nat) : Int) ((P2 * 2 ^ k : Nat) : Int)))]) rfl ?_
          exact ef_iret hx hb hr hlocks hP hD hS dX2_orderOfSizes_142 (by rw [hz9]; exact ⟨_, _, rfl, rfl, by omega, hw9⟩)
      ·
        refine lv_iload_n hx hb dX2_orderOfSizes_116 rfl (lv_at hl 0 rfl) ?_
        refine iw_if_ge (tgt := 124) hx hb dX2_orderOfSizes_117 (by decide) ⟨by omega, by omega⟩ (fun c5 => ?_) (fun c5 => ?_)
        ·
          have q3 := cmp_bl (X := P2) (Y := P1) nL (by omega : -20000 ≤ e2) (by omega : -20000 ≤ e1) (by omega)
          refine lv_iconst (v := iv (1)) hx hb dX2_orderOfSizes_124 (by decide) ?_
          exact ef_iret hx hb hr hlocks hP hD hS dX2_orderOfSizes_125 (by rw [zc_gt (by omega)]; exact ⟨_, _, rfl, rfl, by omega, by omega⟩)
        ·
          have q3 := cmp_bl (X := P1) (Y := P2) nR (by omega : -20000 ≤ e1) (by omega : -20000 ≤ e2) (by omega)
          refine lv_iconst (v := iv (-1)) hx hb dX2_orderOfSizes_120 (by decide) ?_
          refine lv_goto (tgt := 125) hx hb dX2_orderOfSizes_121 (by decide) ?_
          exact ef_iret hx hb hr hlocks hP hD hS dX2_orderOfSizes_125 (by rw [zc_lt (by omega)]; exact ⟨_, _, rfl, rfl, by omega, by omega⟩)
    ·
      refine lv_iload_n hx hb dX2_orderOfSizes_26 rfl (lv_at hl 0 rfl) ?_
      refine iw_if_ge (tgt := 34) hx hb dX2_orderOfSizes_27 (by decide) ⟨by omega, by omega⟩ (fun c6 => ?_) (fun c6 => ?_)
      ·
        exact absurd c6 (by omega)
      ·
        refine lv_iconst (v := iv (-1)) hx hb dX2_orderOfSizes_30 (by decide) ?_
        refine lv_goto (tgt := 35) hx hb dX2_orderOfSizes_31 (by decide) ?_
        exact ef_iret hx hb hr hlocks hP hD hS dX2_orderOfSizes_35 (by rw [scmp_lt nA2 nU1 (by omega) (by omega) (by omega)]; exact ⟨_, _, rfl, rfl, hL, hR⟩)

set_option maxRecDepth 100000 in
set_option maxHeartbeats 4000000 in
/-- compare -/
theorem c_compare (l : Launch) (dC : Nat → ClassId) (dI : Nat → Nat → Nat) {cI : ClassId} {tys : List (ClassId × FieldType)} (ht : tys[0]? = some (cI, .int)) (q : Nat → Nat) {A1 U1 A2 U2 L R : Nat} {b1 e1 b2 e2 : Int} (hA1 : wl A1 ≤ 150) (hU1 : wl U1 ≤ 150) (hA2 : wl A2 ≤ 150) (hU2 : wl U2 ≤ 150) (hL : wl L ≤ 301) (hR : wl R ≤ 301) (bA1 : bl A1 ≤ 4800) (bU1 : bl U1 ≤ 4800) (bA2 : bl A2 ≤ 4800) (bU2 : bl U2 ≤ 4800) (le1 : -12000 ≤ e1) (ge1 : e1 ≤ 12000) (le2 : -12000 ≤ e2) (ge2 : e2 ≤ 12000) (nU1 : U1 ≠ 0) (nU2 : U2 ≠ 0) (hb1 : b1 = 0 ∨ b1 = 1) (hb2 : b2 = 0 ∨ b2 = 1) : ef_C l yX2_compare wsX2_compare ({ frames := 5, cells := 0, slots := 0, locals := 115 } : Room) [.ref (q 0)] (dC, dI) vwCl tys (cC cI q (A1) (U1) (b1) (e1) (A2) (U2) (b2) (e2) (L) (R)) (fun o w1 => ∃ L2 R2 : Nat, o = some (.int (iv (ccmp A1 U1 b1 e1 A2 U2 b2 e2))) ∧ w1 = cC cI q (A1) (U1) (b1) (e1) (A2) (U2) (b2) (e2) (L2) (R2) ∧ wl L2 ≤ 301 ∧ wl R2 ≤ 301) := by
  refine ef_C.of (cc := cX2_compare) (maxL := 3) (ret := (some .int)) (by decide) rfl (Nat.le_of_ble_eq_true rfl) ?_
  intro p e s m below meth c ls hx hb hml hr hts hown hlocks hK hNX hP hD hS hl
  have hl : lv_has ls 3 [(0, .ref (q 0))] := hl
  have hown : s.vm.findClass RX2 = some m.cls := hown
  generalize hH : s.heap = H at hP ⊢
  have hS : va_S (ef_A (cC cI q (A1) (U1) (b1) (e1) (A2) (U2) (b2) (e2) (L) (R))) s.heap H [] := by rw [← hH]; exact hS
  generalize ([] : List Loc) = locs at hS ⊢
  refine lv_aload_n hx hb dX2_compare_0 rfl (lv_at hl 0 rfl) ?_
  refine va_get (D := (dC, dI)) (ci := 2) (v := .ref (q 1)) (C := RX2) (T := TX2) (N := 4) hx hb hts (by decide +kernel) hown hK hP 0 rfl rfl 0 (by decide) (hts (.fieldLink RX2 12 "ExactFractions" "first" "LExactFractions$Fraction;") (by decide +kernel)) (fun _ h9 => h9) rfl dX2_compare_1 ?_
  refine ef_callV (As := []) (rest := []) ⟨hx, hb, hml, hown, hts⟩ (c_sign0 l dC dI ht q hA1 hU1 hA2 hU2 hL hR hb1) (cwV 0 hts gX2_compare_X0_sign rfl rfl rfl (by decide +kernel) ⟨Nat.le_of_ble_eq_true rfl, Nat.le_of_ble_eq_true rfl⟩) hK hNX hP hD hS 1 rfl rfl rfl rfl hl.1 rfl (Nat.le_of_ble_eq_true rfl) dX2_compare_4 ⟨Nat.zero_le _, Nat.zero_le _⟩ (fun o w1 H locs hq hP hD hS => ?_)
  obtain ⟨rfl, e9⟩ := hq
  rw [e9] at hP hD
  refine W.eq (g2 := F0 m 7 ls [.int (iv (sgn A1 b1))]) rfl ?_
  refine lv_istore_n (lv' := [(1, .int (iv (sgn A1 b1))), (0, .ref (q 0))]) hx hb dX2_compare_7 rfl hl (by decide) rfl (fun ls hl => ?_)
  refine lv_aload_n hx hb dX2_compare_8 rfl (lv_at hl 1 rfl) ?_
  refine va_get (D := (dC, dI)) (ci := 2) (v := .ref (q 2)) (C := RX2) (T := TX2) (N := 4) hx hb hts (by decide +kernel) hown hK hP 0 rfl rfl 1 (by decide) (hts (.fieldLink RX2 16 "ExactFractions" "second" "LExactFractions$Fraction;") (by decide +kernel)) (fun _ h9 => h9) rfl dX2_compare_9 ?_
  refine ef_callV (As := []) (rest := []) ⟨hx, hb, hml, hown, hts⟩ (c_sign1 l dC dI ht q hA1 hU1 hA2 hU2 hL hR hb2) (cwV 0 hts gX2_compare_X0_sign rfl rfl rfl (by decide +kernel) ⟨Nat.le_of_ble_eq_true rfl, Nat.le_of_ble_eq_true rfl⟩) hK hNX hP hD hS 2 rfl rfl rfl rfl hl.1 rfl (Nat.le_of_ble_eq_true rfl) dX2_compare_12 ⟨Nat.zero_le _, Nat.zero_le _⟩ (fun o w1 H locs hq hP hD hS => ?_)
  obtain ⟨rfl, e9⟩ := hq
  rw [e9] at hP hD
  refine W.eq (g2 := F0 m 15 ls [.int (iv (sgn A2 b2))]) rfl ?_
  have r1 := sgn_r A1 b1
  have r2 := sgn_r A2 b2
  refine lv_istore_n (lv' := [(2, .int (iv (sgn A2 b2))), (1, .int (iv (sgn A1 b1))), (0, .ref (q 0))]) hx hb dX2_compare_15 rfl hl (by decide) rfl (fun ls hl => ?_)
  refine lv_iload_n hx hb dX2_compare_16 rfl (lv_at hl 1 rfl) ?_
  refine lv_iload_n hx hb dX2_compare_17 rfl (lv_at hl 0 rfl) ?_
  refine iw_icmp_eq (tgt := 32) hx hb dX2_compare_18 (by decide) (sgn_ir A1 b1) (sgn_ir A2 b2) (fun c1 => ?_) (fun c1 => ?_)
  ·
    refine lv_iload_n hx hb dX2_compare_32 rfl (lv_at hl 1 rfl) ?_
    refine iw_if_ne (tgt := 40) hx hb dX2_compare_33 (by decide) (sgn_ir A1 b1) (fun c2 => ?_) (fun c2 => ?_)
    ·
      have nA1 : A1 ≠ 0 := fun q => c2 (by unfold sgn; rw [if_pos q])
      have nA2 : A2 ≠ 0 := fun q => c2 (by rw [c1]; unfold sgn; rw [if_pos q])
      refine lv_iload_n hx hb dX2_compare_40 rfl (lv_at hl 1 rfl) ?_
      refine lv_aload_n hx hb dX2_compare_41 rfl (lv_at hl 2 rfl) ?_
      refine ef_callV (As := []) (rest := [.int (iv (sgn A1 b1))]) ⟨hx, hb, hml, hown, hts⟩ (c_orderOfSizes l dC dI ht q hA1 hU1 hA2 hU2 hL hR bA1 bU1 bA2 bU2 le1 ge1 le2 ge2 nA1 nU1 nA2 nU2) (cwV 0 hts gX2_compare_X2_orderOfSizes rfl rfl rfl (by decide +kernel) ⟨Nat.le_of_ble_eq_true rfl, Nat.le_of_ble_eq_true rfl⟩) hK hNX hP hD hS 0 rfl rfl rfl rfl hl.1 rfl (Nat.le_of_ble_eq_true rfl) dX2_compare_42 ⟨Nat.zero_le _, Nat.zero_le _⟩ (fun o w1 H locs hq hP hD hS => ?_)
      obtain ⟨L2, R2, rfl, rfl, hL2, hR2⟩ := hq
      have hP : va_P (dC, dI) vwCl (cC cI q (A1) (U1) (b1) (e1) (A2) (U2) (b2) (e2) (L2) (R2)) H := hP
      have hD : va_D (ef_A (cC cI q (A1) (U1) (b1) (e1) (A2) (U2) (b2) (e2) (L) (R))) (cC cI q (A1) (U1) (b1) (e1) (A2) (U2) (b2) (e2) (L2) (R2)) := hD
      refine W.eq (g2 := F0 m 45 ls [.int (iv (scmp A1 U1 e1 A2 U2 e2)), .int (iv (sgn A1 b1))]) rfl ?_
      refine iw_imul hx hb dX2_compare_45 ?_
      exact ef_iret hx hb hr hlocks hP hD hS dX2_compare_46 (by unfold ccmp; rw [if_neg (by omega), if_neg (by omega), if_neg c2]; exact ⟨_, _, rfl, rfl, hL2, hR2⟩)
    ·
      refine lv_iconst (v := iv (0)) hx hb dX2_compare_36 (by decide) ?_
      refine lv_goto (tgt := 46) hx hb dX2_compare_37 (by decide) ?_
      exact ef_iret hx hb hr hlocks hP hD hS dX2_compare_46 (by unfold ccmp; rw [if_neg (by omega), if_neg (by omega), if_pos c2]; exact ⟨_, _, rfl, rfl, hL, hR⟩)
  ·
    refine lv_iload_n hx hb dX2_compare_21 rfl (lv_at hl 1 rfl) ?_
    refine lv_iload_n hx hb dX2_compare_22 rfl (lv_at hl 0 rfl) ?_
    refine iw_icmp_ge (tgt := 30) hx hb dX2_compare_23 (by decide) (sgn_ir A1 b1) (sgn_ir A2 b2) (fun c3 => ?_) (fun c3 => ?_)
    ·
      refine lv_iconst (v := iv (1)) hx hb dX2_compare_30 (by decide) ?_
      exact ef_iret hx hb hr hlocks hP hD hS dX2_compare_31 (by unfold ccmp; rw [if_neg (by omega), if_pos (by omega)]; exact ⟨_, _, rfl, rfl, hL, hR⟩)
    ·
      refine lv_iconst (v := iv (-1)) hx hb dX2_compare_26 (by decide) ?_
      refine lv_goto (tgt := 31) hx hb dX2_compare_27 (by decide) ?_
      exact ef_iret hx hb hr hlocks hP hD hS dX2_compare_31 (by unfold ccmp; rw [if_pos (by omega)]; exact ⟨_, _, rfl, rfl, hL, hR⟩)
