/-! The cells of a Fraction and of the whole class: fifteen cells -/
abbrev fo (f x y : Nat) (b e : Int) : Nat × va_E := (f, .inr (0, [.ref x, .ref y, .int (iv b), .int (iv e)]))
def cC (cI : ClassId) (q : Nat → Nat) (A1 U1 : Nat) (b1 e1 : Int) (A2 U2 : Nat) (b2 e2 : Int) (L R : Nat) : va_W :=
  [(q 0, .inr (2, [.ref (q 1), .ref (q 2), .ref (q 11), .ref (q 13)])), fo (q 1) (q 3) (q 5) b1 e1, fo (q 2) (q 7) (q 9) b2 e2,
   wo (q 3) (q 4) (wl A1), wa cI (q 4) (wd A1), wo (q 5) (q 6) (wl U1), wa cI (q 6) (wd U1), wo (q 7) (q 8) (wl A2), wa cI (q 8) (wd A2), wo (q 9) (q 10) (wl U2), wa cI (q 10) (wd U2),
   wo (q 11) (q 12) (wl L), wa cI (q 12) (wd L), wo (q 13) (q 14) (wl R), wa cI (q 14) (wd R)]
theorem isW_c {ws : va_W} {k0 k1 h a : Nat} {cI : ClassId} {X : Nat} (h0 : k0 ≠ k1) (h1 : ws[k0]? = some (wo h a (wl X))) (h2 : ws[k1]? = some (wa cI a (wd X))) : isW ws k0 k1 h a cI (wl X) (wd X) := ⟨h0, h1, h2⟩
theorem apt_c {k0 k1 j0 j1 : Nat} (h : (j0 != k0 && j0 != k1 && j1 != k0 && j1 != k1) = true) : apt k0 k1 j0 j1 := by
  simp only [Bool.and_eq_true, bne_iff_ne] at h
  exact ⟨h.1.1.1, h.1.1.2, h.1.2, h.2⟩
theorem wd_z {X : Nat} : ∀ j, wl X ≤ j → j < 301 → wd X j = 0 := fun _ h _ => wd_above h
def sgn (A : Nat) (b : Int) : Int := if A = 0 then 0 else if b = 0 then 1 else -1
theorem wl_bl {X k : Nat} (h : bl X ≤ 32 * k) : wl X ≤ k := wl_le (Nat.lt_of_lt_of_le (bl_lt X) (Nat.pow_le_pow_right (by decide) h))
theorem wl_mono {X Y : Nat} (h : X ≤ Y) : wl X ≤ wl Y := wl_le (Nat.lt_of_le_of_lt h (wl_lt Y))
theorem bl_mono {X Y : Nat} (h : X ≤ Y) : bl X ≤ bl Y := bl_le (Nat.lt_of_le_of_lt h (bl_lt Y))
theorem wl_mul {Y mu mo : Nat} (h : wl Y ≤ 150) (hmu : mu ≤ 1000000) (hmo : mo ≤ 1000000) : wl (Y * mu + mo) ≤ 152 := wl_le (by
  have h1 := wl_lt Y
  have h2 : 2 ^ (32 * wl Y) ≤ 2 ^ (32 * 150) := Nat.pow_le_pow_right (by decide) (by omega)
  have h3 : Y * mu ≤ 2 ^ (32 * 150) * 1000000 := Nat.mul_le_mul (by omega) hmu
  have h4 : (2 : Nat) ^ (32 * 152) = 2 ^ (32 * 150) * 18446744073709551616 := by rw [show (18446744073709551616 : Nat) = 2 ^ 64 from rfl, ← Nat.pow_add]
  have h5 : 0 < (2 : Nat) ^ (32 * 150) := Nat.pow_pos (by decide)
  rw [h4]
  generalize (2 : Nat) ^ (32 * 150) = T at h2 h3 h5 ⊢
  omega)
theorem wl_add {Y Z k : Nat} (h : wl Y ≤ k) (h2 : wl Z ≤ k) : wl (Y + Z) ≤ k + 1 := wl_le (by
  have h1 := Nat.lt_of_lt_of_le (wl_lt Y) (Nat.pow_le_pow_right (show 0 < 2 by decide) (show 32 * wl Y ≤ 32 * k by omega))
  have h3 := Nat.lt_of_lt_of_le (wl_lt Z) (Nat.pow_le_pow_right (show 0 < 2 by decide) (show 32 * wl Z ≤ 32 * k by omega))
  rw [p32]
  omega)
def sw0 (q : Nat → Nat) : Nat → Nat
  | 3 => q 5
  | 4 => q 6
  | 5 => q 3
  | 6 => q 4
  | n => q n
def sw1 (q : Nat → Nat) : Nat → Nat
  | 7 => q 9
  | 8 => q 10
  | 9 => q 7
  | 10 => q 8
  | n => q n

set_option maxRecDepth 100000 in
set_option maxHeartbeats 4000000 in
/-- numberOf -/
theorem c_numberOf0 (l : Launch) (dC : Nat → ClassId) (dI : Nat → Nat → Nat) {cI : ClassId} {tys : List (ClassId × FieldType)} (ht : tys[0]? = some (cI, .int)) (q : Nat → Nat) {A1 U1 A2 U2 L R : Nat} {b1 e1 b2 e2 : Int} : ef_C l yX2_numberOf wsX2_numberOf ({ frames := 0, cells := 0, slots := 0, locals := 0 } : Room) [.ref (q 0), .int (iv (0))] (dC, dI) vwCl tys (cC cI q (A1) (U1) (b1) (e1) (A2) (U2) (b2) (e2) (L) (R)) (fun o w1 => o = some (.ref (q 1)) ∧ w1 = cC cI q (A1) (U1) (b1) (e1) (A2) (U2) (b2) (e2) (L) (R)) := by
  refine ef_C.of (cc := cX2_numberOf) (maxL := 2) (ret := (some (.object "ExactFractions$Fraction"))) (by decide) rfl (Nat.le_of_ble_eq_true rfl) ?_
  intro p e s m below meth c ls hx hb hml hr hts hown hlocks hK hNX hP hD hS hl
  have hl : lv_has ls 2 [(0, .ref (q 0)), (1, .int (iv (0)))] := hl
  have hown : s.vm.findClass RX2 = some m.cls := hown
  generalize hH : s.heap = H at hP ⊢
  have hS : va_S (ef_A (cC cI q (A1) (U1) (b1) (e1) (A2) (U2) (b2) (e2) (L) (R))) s.heap H [] := by rw [← hH]; exact hS
  generalize ([] : List Loc) = locs at hS ⊢
  refine lv_iload_n hx hb dX2_numberOf_0 rfl (lv_at hl 1 rfl) ?_
  refine iw_if_ne (tgt := 9) hx hb dX2_numberOf_1 (by decide) ⟨by omega, by omega⟩ (fun c1 => ?_) (fun c1 => ?_)
  ·
    exact absurd rfl c1
  ·
    refine lv_aload_n hx hb dX2_numberOf_4 rfl (lv_at hl 0 rfl) ?_
    refine va_get (D := (dC, dI)) (ci := 2) (v := .ref (q 1)) (C := RX2) (T := TX2) (N := 4) hx hb hts (by decide +kernel) hown hK hP 0 rfl rfl 0 (by decide) (hts (.fieldLink RX2 12 "ExactFractions" "first" "LExactFractions$Fraction;") (by decide +kernel)) (fun _ h9 => h9) rfl dX2_numberOf_5 ?_
    exact ef_aret hx hb hr (Or.inl ⟨_, rfl⟩) (Or.inr ⟨_, rfl⟩) hlocks hP hD hS dX2_numberOf_8 (⟨rfl, rfl⟩)

set_option maxRecDepth 100000 in
set_option maxHeartbeats 4000000 in
/-- numberOf -/
theorem c_numberOf1 (l : Launch) (dC : Nat → ClassId) (dI : Nat → Nat → Nat) {cI : ClassId} {tys : List (ClassId × FieldType)} (ht : tys[0]? = some (cI, .int)) (q : Nat → Nat) {A1 U1 A2 U2 L R : Nat} {b1 e1 b2 e2 : Int} : ef_C l yX2_numberOf wsX2_numberOf ({ frames := 0, cells := 0, slots := 0, locals := 0 } : Room) [.ref (q 0), .int (iv (1))] (dC, dI) vwCl tys (cC cI q (A1) (U1) (b1) (e1) (A2) (U2) (b2) (e2) (L) (R)) (fun o w1 => o = some (.ref (q 2)) ∧ w1 = cC cI q (A1) (U1) (b1) (e1) (A2) (U2) (b2) (e2) (L) (R)) := by
  refine ef_C.of (cc := cX2_numberOf) (maxL := 2) (ret := (some (.object "ExactFractions$Fraction"))) (by decide) rfl (Nat.le_of_ble_eq_true rfl) ?_
  intro p e s m below meth c ls hx hb hml hr hts hown hlocks hK hNX hP hD hS hl
  have hl : lv_has ls 2 [(0, .ref (q 0)), (1, .int (iv (1)))] := hl
  have hown : s.vm.findClass RX2 = some m.cls := hown
  generalize hH : s.heap = H at hP ⊢
  have hS : va_S (ef_A (cC cI q (A1) (U1) (b1) (e1) (A2) (U2) (b2) (e2) (L) (R))) s.heap H [] := by rw [← hH]; exact hS
  generalize ([] : List Loc) = locs at hS ⊢
  refine lv_iload_n hx hb dX2_numberOf_0 rfl (lv_at hl 1 rfl) ?_
  refine iw_if_ne (tgt := 9) hx hb dX2_numberOf_1 (by decide) ⟨by omega, by omega⟩ (fun c1 => ?_) (fun c1 => ?_)
  ·
    refine lv_iload_n hx hb dX2_numberOf_9 rfl (lv_at hl 1 rfl) ?_
    refine lv_iconst (v := iv (1)) hx hb dX2_numberOf_10 (by decide) ?_
    refine iw_icmp_ne (tgt := 21) hx hb dX2_numberOf_11 (by decide) ⟨by omega, by omega⟩ ⟨by omega, by omega⟩ (fun c2 => ?_) (fun c2 => ?_)
    ·
      exact absurd rfl c2
    ·
      refine lv_aload_n hx hb dX2_numberOf_14 rfl (lv_at hl 0 rfl) ?_
      refine va_get (D := (dC, dI)) (ci := 2) (v := .ref (q 2)) (C := RX2) (T := TX2) (N := 4) hx hb hts (by decide +kernel) hown hK hP 0 rfl rfl 1 (by decide) (hts (.fieldLink RX2 16 "ExactFractions" "second" "LExactFractions$Fraction;") (by decide +kernel)) (fun _ h9 => h9) rfl dX2_numberOf_15 ?_
      refine lv_goto (tgt := 22) hx hb dX2_numberOf_18 (by decide) ?_
      exact ef_aret hx hb hr (Or.inl ⟨_, rfl⟩) (Or.inr ⟨_, rfl⟩) hlocks hP hD hS dX2_numberOf_22 (⟨rfl, rfl⟩)
  ·
    exact absurd c1 (by decide)

set_option maxRecDepth 100000 in
set_option maxHeartbeats 4000000 in
/-- numberOf -/
theorem c_numberOfx (l : Launch) (dC : Nat → ClassId) (dI : Nat → Nat → Nat) {cI : ClassId} {tys : List (ClassId × FieldType)} (ht : tys[0]? = some (cI, .int)) (q : Nat → Nat) {A1 U1 A2 U2 L R : Nat} {b1 e1 b2 e2 : Int} (z : Int) (hz : ir z) (hz0 : z ≠ 0) (hz1 : z ≠ 1) : ef_C l yX2_numberOf wsX2_numberOf ({ frames := 0, cells := 0, slots := 0, locals := 0 } : Room) [.ref (q 0), .int (iv (z))] (dC, dI) vwCl tys (cC cI q (A1) (U1) (b1) (e1) (A2) (U2) (b2) (e2) (L) (R)) (fun o w1 => o = some .null ∧ w1 = cC cI q (A1) (U1) (b1) (e1) (A2) (U2) (b2) (e2) (L) (R)) := by
  refine ef_C.of (cc := cX2_numberOf) (maxL := 2) (ret := (some (.object "ExactFractions$Fraction"))) (by decide) rfl (Nat.le_of_ble_eq_true rfl) ?_
  intro p e s m below meth c ls hx hb hml hr hts hown hlocks hK hNX hP hD hS hl
  have hl : lv_has ls 2 [(0, .ref (q 0)), (1, .int (iv (z)))] := hl
  have hown : s.vm.findClass RX2 = some m.cls := hown
  generalize hH : s.heap = H at hP ⊢
  have hS : va_S (ef_A (cC cI q (A1) (U1) (b1) (e1) (A2) (U2) (b2) (e2) (L) (R))) s.heap H [] := by rw [← hH]; exact hS
  generalize ([] : List Loc) = locs at hS ⊢
  have hz9 := hz
  refine lv_iload_n hx hb dX2_numberOf_0 rfl (lv_at hl 1 rfl) ?_
  refine iw_if_ne (tgt := 9) hx hb dX2_numberOf_1 (by decide) (hz) (fun c1 => ?_) (fun c1 => ?_)
  ·
    refine lv_iload_n hx hb dX2_numberOf_9 rfl (lv_at hl 1 rfl) ?_
    refine lv_iconst (v := iv (1)) hx hb dX2_numberOf_10 (by decide) ?_
    refine iw_icmp_ne (tgt := 21) hx hb dX2_numberOf_11 (by decide) (hz) ⟨by omega, by omega⟩ (fun c2 => ?_) (fun c2 => ?_)
    ·
      refine lv_null hx hb dX2_numberOf_21 ?_
      exact ef_aret hx hb hr (Or.inl ⟨_, rfl⟩) (Or.inl rfl) hlocks hP hD hS dX2_numberOf_22 (⟨rfl, rfl⟩)
    ·
      exact absurd c2 hz1
  ·
    exact absurd c1 hz0

set_option maxRecDepth 100000 in
set_option maxHeartbeats 4000000 in
/-- partOf -/
theorem c_partOf00 (l : Launch) (dC : Nat → ClassId) (dI : Nat → Nat → Nat) {cI : ClassId} {tys : List (ClassId × FieldType)} (ht : tys[0]? = some (cI, .int)) (q : Nat → Nat) {A1 U1 A2 U2 L R : Nat} {b1 e1 b2 e2 : Int} : ef_C l yX2_partOf wsX2_partOf ({ frames := 1, cells := 0, slots := 0, locals := 21 } : Room) [.ref (q 0), .int (iv (0)), .int (iv (0))] (dC, dI) vwCl tys (cC cI q (A1) (U1) (b1) (e1) (A2) (U2) (b2) (e2) (L) (R)) (fun o w1 => o = some (.ref (q 3)) ∧ w1 = cC cI q (A1) (U1) (b1) (e1) (A2) (U2) (b2) (e2) (L) (R)) := by
  refine ef_C.of (cc := cX2_partOf) (maxL := 4) (ret := (some (.object "ExactFractions$Whole"))) (by decide) rfl (Nat.le_of_ble_eq_true rfl) ?_
  intro p e s m below meth c ls hx hb hml hr hts hown hlocks hK hNX hP hD hS hl
  have hl : lv_has ls 4 [(0, .ref (q 0)), (1, .int (iv (0))), (2, .int (iv (0)))] := hl
  have hown : s.vm.findClass RX2 = some m.cls := hown
  generalize hH : s.heap = H at hP ⊢
  have hS : va_S (ef_A (cC cI q (A1) (U1) (b1) (e1) (A2) (U2) (b2) (e2) (L) (R))) s.heap H [] := by rw [← hH]; exact hS
  generalize ([] : List Loc) = locs at hS ⊢
  refine lv_aload_n hx hb dX2_partOf_0 rfl (lv_at hl 0 rfl) ?_
  refine lv_iload_n hx hb dX2_partOf_1 rfl (lv_at hl 1 rfl) ?_
  refine ef_callV (As := [.int (iv (0))]) (rest := []) ⟨hx, hb, hml, hown, hts⟩ (c_numberOf0 l dC dI ht q) (cwV 1 hts gX2_partOf_X2_numberOf rfl rfl rfl (by decide +kernel) ⟨Nat.le_of_ble_eq_true rfl, Nat.le_of_ble_eq_true rfl⟩) hK hNX hP hD hS 0 rfl rfl rfl rfl hl.1 rfl (Nat.le_of_ble_eq_true rfl) dX2_partOf_2 ⟨Nat.zero_le _, Nat.zero_le _⟩ (fun o w1 H locs hq hP hD hS => ?_)
  obtain ⟨rfl, e9⟩ := hq
  rw [e9] at hP hD
  refine W.eq (g2 := F0 m 5 ls [.ref (q 1)]) rfl ?_
  refine lv_astore_n (lv' := [(3, .ref (q 1)), (0, .ref (q 0)), (1, .int (iv (0))), (2, .int (iv (0)))]) hx hb dX2_partOf_5 rfl hl (by decide) rfl (fun ls hl => ?_)
  refine lv_aload_n hx hb dX2_partOf_6 rfl (lv_at hl 0 rfl) ?_
  refine lv_ifnonnull (tgt := 12) hx hb dX2_partOf_7 (by decide) ?_
  refine lv_iload_n hx hb dX2_partOf_12 rfl (lv_at hl 3 rfl) ?_
  refine iw_if_ne (tgt := 21) hx hb dX2_partOf_13 (by decide) ⟨by omega, by omega⟩ (fun c1 => ?_) (fun c1 => ?_)
  ·
    exact absurd rfl c1
  ·
    refine lv_aload_n hx hb dX2_partOf_16 rfl (lv_at hl 0 rfl) ?_
    refine va_get (D := (dC, dI)) (ci := 0) (v := .ref (q 3)) (C := RX0) (T := TX0) (N := 4) hx hb hts (by decide +kernel) hown hK hP 1 rfl rfl 0 (by decide) (hts (.fieldLink RX2 65 "ExactFractions$Fraction" "above" "LExactFractions$Whole;") (by decide +kernel)) (fun _ h9 => h9) rfl dX2_partOf_17 ?_
    exact ef_aret hx hb hr (Or.inl ⟨_, rfl⟩) (Or.inr ⟨_, rfl⟩) hlocks hP hD hS dX2_partOf_20 (⟨rfl, rfl⟩)

set_option maxRecDepth 100000 in
set_option maxHeartbeats 4000000 in
/-- partOf -/
theorem c_partOf01 (l : Launch) (dC : Nat → ClassId) (dI : Nat → Nat → Nat) {cI : ClassId} {tys : List (ClassId × FieldType)} (ht : tys[0]? = some (cI, .int)) (q : Nat → Nat) {A1 U1 A2 U2 L R : Nat} {b1 e1 b2 e2 : Int} : ef_C l yX2_partOf wsX2_partOf ({ frames := 1, cells := 0, slots := 0, locals := 21 } : Room) [.ref (q 0), .int (iv (0)), .int (iv (1))] (dC, dI) vwCl tys (cC cI q (A1) (U1) (b1) (e1) (A2) (U2) (b2) (e2) (L) (R)) (fun o w1 => o = some (.ref (q 5)) ∧ w1 = cC cI q (A1) (U1) (b1) (e1) (A2) (U2) (b2) (e2) (L) (R)) := by
  refine ef_C.of (cc := cX2_partOf) (maxL := 4) (ret := (some (.object "ExactFractions$Whole"))) (by decide) rfl (Nat.le_of_ble_eq_true rfl) ?_
  intro p e s m below meth c ls hx hb hml hr hts hown hlocks hK hNX hP hD hS hl
  have hl : lv_has ls 4 [(0, .ref (q 0)), (1, .int (iv (0))), (2, .int (iv (1)))] := hl
  have hown : s.vm.findClass RX2 = some m.cls := hown
  generalize hH : s.heap = H at hP ⊢
  have hS : va_S (ef_A (cC cI q (A1) (U1) (b1) (e1) (A2) (U2) (b2) (e2) (L) (R))) s.heap H [] := by rw [← hH]; exact hS
  generalize ([] : List Loc) = locs at hS ⊢
  refine lv_aload_n hx hb dX2_partOf_0 rfl (lv_at hl 0 rfl) ?_
  refine lv_iload_n hx hb dX2_partOf_1 rfl (lv_at hl 1 rfl) ?_
  refine ef_callV (As := [.int (iv (0))]) (rest := []) ⟨hx, hb, hml, hown, hts⟩ (c_numberOf0 l dC dI ht q) (cwV 1 hts gX2_partOf_X2_numberOf rfl rfl rfl (by decide +kernel) ⟨Nat.le_of_ble_eq_true rfl, Nat.le_of_ble_eq_true rfl⟩) hK hNX hP hD hS 0 rfl rfl rfl rfl hl.1 rfl (Nat.le_of_ble_eq_true rfl) dX2_partOf_2 ⟨Nat.zero_le _, Nat.zero_le _⟩ (fun o w1 H locs hq hP hD hS => ?_)
  obtain ⟨rfl, e9⟩ := hq
  rw [e9] at hP hD
  refine W.eq (g2 := F0 m 5 ls [.ref (q 1)]) rfl ?_
  refine lv_astore_n (lv' := [(3, .ref (q 1)), (0, .ref (q 0)), (1, .int (iv (0))), (2, .int (iv (1)))]) hx hb dX2_partOf_5 rfl hl (by decide) rfl (fun ls hl => ?_)
  refine lv_aload_n hx hb dX2_partOf_6 rfl (lv_at hl 0 rfl) ?_
  refine lv_ifnonnull (tgt := 12) hx hb dX2_partOf_7 (by decide) ?_
  refine lv_iload_n hx hb dX2_partOf_12 rfl (lv_at hl 3 rfl) ?_
  refine iw_if_ne (tgt := 21) hx hb dX2_partOf_13 (by decide) ⟨by omega, by omega⟩ (fun c1 => ?_) (fun c1 => ?_)
  ·
    refine lv_iload_n hx hb dX2_partOf_21 rfl (lv_at hl 3 rfl) ?_
    refine lv_iconst (v := iv (1)) hx hb dX2_partOf_22 (by decide) ?_
    refine iw_icmp_ne (tgt := 33) hx hb dX2_partOf_23 (by decide) ⟨by omega, by omega⟩ ⟨by omega, by omega⟩ (fun c2 => ?_) (fun c2 => ?_)
    ·
      exact absurd rfl c2
    ·
      refine lv_aload_n hx hb dX2_partOf_26 rfl (lv_at hl 0 rfl) ?_
      refine va_get (D := (dC, dI)) (ci := 0) (v := .ref (q 5)) (C := RX0) (T := TX0) (N := 4) hx hb hts (by decide +kernel) hown hK hP 1 rfl rfl 1 (by decide) (hts (.fieldLink RX2 103 "ExactFractions$Fraction" "under" "LExactFractions$Whole;") (by decide +kernel)) (fun _ h9 => h9) rfl dX2_partOf_27 ?_
      refine lv_goto (tgt := 34) hx hb dX2_partOf_30 (by decide) ?_
      exact ef_aret hx hb hr (Or.inl ⟨_, rfl⟩) (Or.inr ⟨_, rfl⟩) hlocks hP hD hS dX2_partOf_34 (⟨rfl, rfl⟩)
  ·
    exact absurd c1 (by decide)

set_option maxRecDepth 100000 in
set_option maxHeartbeats 4000000 in
/-- partOf -/
theorem c_partOf0x (l : Launch) (dC : Nat → ClassId) (dI : Nat → Nat → Nat) {cI : ClassId} {tys : List (ClassId × FieldType)} (ht : tys[0]? = some (cI, .int)) (q : Nat → Nat) {A1 U1 A2 U2 L R : Nat} {b1 e1 b2 e2 : Int} (z : Int) (hz : ir z) (hz0 : z ≠ 0) (hz1 : z ≠ 1) : ef_C l yX2_partOf wsX2_partOf ({ frames := 1, cells := 0, slots := 0, locals := 21 } : Room) [.ref (q 0), .int (iv (0)), .int (iv (z))] (dC, dI) vwCl tys (cC cI q (A1) (U1) (b1) (e1) (A2) (U2) (b2) (e2) (L) (R)) (fun o w1 => o = some .null ∧ w1 = cC cI q (A1) (U1) (b1) (e1) (A2) (U2) (b2) (e2) (L) (R)) := by
  refine ef_C.of (cc := cX2_partOf) (maxL := 4) (ret := (some (.object "ExactFractions$Whole"))) (by decide) rfl (Nat.le_of_ble_eq_true rfl) ?_
  intro p e s m below meth c ls hx hb hml hr hts hown hlocks hK hNX hP hD hS hl
  have hl : lv_has ls 4 [(0, .ref (q 0)), (1, .int (iv (0))), (2, .int (iv (z)))] := hl
  have hown : s.vm.findClass RX2 = some m.cls := hown
  generalize hH : s.heap = H at hP ⊢
  have hS : va_S (ef_A (cC cI q (A1) (U1) (b1) (e1) (A2) (U2) (b2) (e2) (L) (R))) s.heap H [] := by rw [← hH]; exact hS
  generalize ([] : List Loc) = locs at hS ⊢
  refine lv_aload_n hx hb dX2_partOf_0 rfl (lv_at hl 0 rfl) ?_
  refine lv_iload_n hx hb dX2_partOf_1 rfl (lv_at hl 1 rfl) ?_
  refine ef_callV (As := [.int (iv (0))]) (rest := []) ⟨hx, hb, hml, hown, hts⟩ (c_numberOf0 l dC dI ht q) (cwV 1 hts gX2_partOf_X2_numberOf rfl rfl rfl (by decide +kernel) ⟨Nat.le_of_ble_eq_true rfl, Nat.le_of_ble_eq_true rfl⟩) hK hNX hP hD hS 0 rfl rfl rfl rfl hl.1 rfl (Nat.le_of_ble_eq_true rfl) dX2_partOf_2 ⟨Nat.zero_le _, Nat.zero_le _⟩ (fun o w1 H locs hq hP hD hS => ?_)
  obtain ⟨rfl, e9⟩ := hq
  rw [e9] at hP hD
  refine W.eq (g2 := F0 m 5 ls [.ref (q 1)]) rfl ?_
  refine lv_astore_n (lv' := [(3, .ref (q 1)), (0, .ref (q 0)), (1, .int (iv (0))), (2, .int (iv (z)))]) hx hb dX2_partOf_5 rfl hl (by decide) rfl (fun ls hl => ?_)
  refine lv_aload_n hx hb dX2_partOf_6 rfl (lv_at hl 0 rfl) ?_
  refine lv_ifnonnull (tgt := 12) hx hb dX2_partOf_7 (by decide) ?_
  refine lv_iload_n hx hb dX2_partOf_12 rfl (lv_at hl 3 rfl) ?_
  refine iw_if_ne (tgt := 21) hx hb dX2_partOf_13 (by decide) (hz) (fun c1 => ?_) (fun c1 => ?_)
  ·
    refine lv_iload_n hx hb dX2_partOf_21 rfl (lv_at hl 3 rfl) ?_
    refine lv_iconst (v := iv (1)) hx hb dX2_partOf_22 (by decide) ?_
    refine iw_icmp_ne (tgt := 33) hx hb dX2_partOf_23 (by decide) (hz) ⟨by omega, by omega⟩ (fun c2 => ?_) (fun c2 => ?_)
    ·
      refine lv_null hx hb dX2_partOf_33 ?_
      exact ef_aret hx hb hr (Or.inl ⟨_, rfl⟩) (Or.inl rfl) hlocks hP hD hS dX2_partOf_34 (⟨rfl, rfl⟩)
    ·
      exact absurd c2 hz1
  ·
    exact absurd c1 hz0

set_option maxRecDepth 100000 in
set_option maxHeartbeats 4000000 in
/-- partOf -/
theorem c_partOf10 (l : Launch) (dC : Nat → ClassId) (dI : Nat → Nat → Nat) {cI : ClassId} {tys : List (ClassId × FieldType)} (ht : tys[0]? = some (cI, .int)) (q : Nat → Nat) {A1 U1 A2 U2 L R : Nat} {b1 e1 b2 e2 : Int} : ef_C l yX2_partOf wsX2_partOf ({ frames := 1, cells := 0, slots := 0, locals := 21 } : Room) [.ref (q 0), .int (iv (1)), .int (iv (0))] (dC, dI) vwCl tys (cC cI q (A1) (U1) (b1) (e1) (A2) (U2) (b2) (e2) (L) (R)) (fun o w1 => o = some (.ref (q 7)) ∧ w1 = cC cI q (A1) (U1) (b1) (e1) (A2) (U2) (b2) (e2) (L) (R)) := by
  refine ef_C.of (cc := cX2_partOf) (maxL := 4) (ret := (some (.object "ExactFractions$Whole"))) (by decide) rfl (Nat.le_of_ble_eq_true rfl) ?_
  intro p e s m below meth c ls hx hb hml hr hts hown hlocks hK hNX hP hD hS hl
  have hl : lv_has ls 4 [(0, .ref (q 0)), (1, .int (iv (1))), (2, .int (iv (0)))] := hl
  have hown : s.vm.findClass RX2 = some m.cls := hown
  generalize hH : s.heap = H at hP ⊢
  have hS : va_S (ef_A (cC cI q (A1) (U1) (b1) (e1) (A2) (U2) (b2) (e2) (L) (R))) s.heap H [] := by rw [← hH]; exact hS
  generalize ([] : List Loc) = locs at hS ⊢
  refine lv_aload_n hx hb dX2_partOf_0 rfl (lv_at hl 0 rfl) ?_
  refine lv_iload_n hx hb dX2_partOf_1 rfl (lv_at hl 1 rfl) ?_
  refine ef_callV (As := [.int (iv (1))]) (rest := []) ⟨hx, hb, hml, hown, hts⟩ (c_numberOf1 l dC dI ht q) (cwV 1 hts gX2_partOf_X2_numberOf rfl rfl rfl (by decide +kernel) ⟨Nat.le_of_ble_eq_true rfl, Nat.le_of_ble_eq_true rfl⟩) hK hNX hP hD hS 0 rfl rfl rfl rfl hl.1 rfl (Nat.le_of_ble_eq_true rfl) dX2_partOf_2 ⟨Nat.zero_le _, Nat.zero_le _⟩ (fun o w1 H locs hq hP hD hS => ?_)
  obtain ⟨rfl, e9⟩ := hq
  rw [e9] at hP hD
  refine W.eq (g2 := F0 m 5 ls [.ref (q 2)]) rfl ?_
  refine lv_astore_n (lv' := [(3, .ref (q 2)), (0, .ref (q 0)), (1, .int (iv (1))), (2, .int (iv (0)))]) hx hb dX2_partOf_5 rfl hl (by decide) rfl (fun ls hl => ?_)
  refine lv_aload_n hx hb dX2_partOf_6 rfl (lv_at hl 0 rfl) ?_
  refine lv_ifnonnull (tgt := 12) hx hb dX2_partOf_7 (by decide) ?_
  refine lv_iload_n hx hb dX2_partOf_12 rfl (lv_at hl 3 rfl) ?_
  refine iw_if_ne (tgt := 21) hx hb dX2_partOf_13 (by decide) ⟨by omega, by omega⟩ (fun c1 => ?_) (fun c1 => ?_)
  ·
    exact absurd rfl c1
  ·
    refine lv_aload_n hx hb dX2_partOf_16 rfl (lv_at hl 0 rfl) ?_
    refine va_get (D := (dC, dI)) (ci := 0) (v := .ref (q 7)) (C := RX0) (T := TX0) (N := 4) hx hb hts (by decide +kernel) hown hK hP 2 rfl rfl 0 (by decide) (hts (.fieldLink RX2 65 "ExactFractions$Fraction" "above" "LExactFractions$Whole;") (by decide +kernel)) (fun _ h9 => h9) rfl dX2_partOf_17 ?_
    exact ef_aret hx hb hr (Or.inl ⟨_, rfl⟩) (Or.inr ⟨_, rfl⟩) hlocks hP hD hS dX2_partOf_20 (⟨rfl, rfl⟩)

set_option maxRecDepth 100000 in
set_option maxHeartbeats 4000000 in
/-- partOf -/
theorem c_partOf11 (l : Launch) (dC : Nat → ClassId) (dI : Nat → Nat → Nat) {cI : ClassId} {tys : List (ClassId × FieldType)} (ht : tys[0]? = some (cI, .int)) (q : Nat → Nat) {A1 U1 A2 U2 L R : Nat} {b1 e1 b2 e2 : Int} : ef_C l yX2_partOf wsX2_partOf ({ frames := 1, cells := 0, slots := 0, locals := 21 } : Room) [.ref (q 0), .int (iv (1)), .int (iv (1))] (dC, dI) vwCl tys (cC cI q (A1) (U1) (b1) (e1) (A2) (U2) (b2) (e2) (L) (R)) (fun o w1 => o = some (.ref (q 9)) ∧ w1 = cC cI q (A1) (U1) (b1) (e1) (A2) (U2) (b2) (e2) (L) (R)) := by
  refine ef_C.of (cc := cX2_partOf) (maxL := 4) (ret := (some (.object "ExactFractions$Whole"))) (by decide) rfl (Nat.le_of_ble_eq_true rfl) ?_
  intro p e s m below meth c ls hx hb hml hr hts hown hlocks hK hNX hP hD hS hl
  have hl : lv_has ls 4 [(0, .ref (q 0)), (1, .int (iv (1))), (2, .int (iv (1)))] := hl
  have hown : s.vm.findClass RX2 = some m.cls := hown
  generalize hH : s.heap = H at hP ⊢
  have hS : va_S (ef_A (cC cI q (A1) (U1) (b1) (e1) (A2) (U2) (b2) (e2) (L) (R))) s.heap H [] := by rw [← hH]; exact hS
  generalize ([] : List Loc) = locs at hS ⊢
  refine lv_aload_n hx hb dX2_partOf_0 rfl (lv_at hl 0 rfl) ?_
  refine lv_iload_n hx hb dX2_partOf_1 rfl (lv_at hl 1 rfl) ?_
  refine ef_callV (As := [.int (iv (1))]) (rest := []) ⟨hx, hb, hml, hown, hts⟩ (c_numberOf1 l dC dI ht q) (cwV 1 hts gX2_partOf_X2_numberOf rfl rfl rfl (by decide +kernel) ⟨Nat.le_of_ble_eq_true rfl, Nat.le_of_ble_eq_true rfl⟩) hK hNX hP hD hS 0 rfl rfl rfl rfl hl.1 rfl (Nat.le_of_ble_eq_true rfl) dX2_partOf_2 ⟨Nat.zero_le _, Nat.zero_le _⟩ (fun o w1 H locs hq hP hD hS => ?_)
  obtain ⟨rfl, e9⟩ := hq
  rw [e9] at hP hD
  refine W.eq (g2 := F0 m 5 ls [.ref (q 2)]) rfl ?_
  refine lv_astore_n (lv' := [(3, .ref (q 2)), (0, .ref (q 0)), (1, .int (iv (1))), (2, .int (iv (1)))]) hx hb dX2_partOf_5 rfl hl (by decide) rfl (fun ls hl => ?_)
  refine lv_aload_n hx hb dX2_partOf_6 rfl (lv_at hl 0 rfl) ?_
  refine lv_ifnonnull (tgt := 12) hx hb dX2_partOf_7 (by decide) ?_
  refine lv_iload_n hx hb dX2_partOf_12 rfl (lv_at hl 3 rfl) ?_
  refine iw_if_ne (tgt := 21) hx hb dX2_partOf_13 (by decide) ⟨by omega, by omega⟩ (fun c1 => ?_) (fun c1 => ?_)
  ·
    refine lv_iload_n hx hb dX2_partOf_21 rfl (lv_at hl 3 rfl) ?_
    refine lv_iconst (v := iv (1)) hx hb dX2_partOf_22 (by decide) ?_
    refine iw_icmp_ne (tgt := 33) hx hb dX2_partOf_23 (by decide) ⟨by omega, by omega⟩ ⟨by omega, by omega⟩ (fun c2 => ?_) (fun c2 => ?_)
    ·
      exact absurd rfl c2
    ·
      refine lv_aload_n hx hb dX2_partOf_26 rfl (lv_at hl 0 rfl) ?_
      refine va_get (D := (dC, dI)) (ci := 0) (v := .ref (q 9)) (C := RX0) (T := TX0) (N := 4) hx hb hts (by decide +kernel) hown hK hP 2 rfl rfl 1 (by decide) (hts (.fieldLink RX2 103 "ExactFractions$Fraction" "under" "LExactFractions$Whole;") (by decide +kernel)) (fun _ h9 => h9) rfl dX2_partOf_27 ?_
      refine lv_goto (tgt := 34) hx hb dX2_partOf_30 (by decide) ?_
      exact ef_aret hx hb hr (Or.inl ⟨_, rfl⟩) (Or.inr ⟨_, rfl⟩) hlocks hP hD hS dX2_partOf_34 (⟨rfl, rfl⟩)
  ·
    exact absurd c1 (by decide)

set_option maxRecDepth 100000 in
set_option maxHeartbeats 4000000 in
/-- partOf -/
theorem c_partOf1x (l : Launch) (dC : Nat → ClassId) (dI : Nat → Nat → Nat) {cI : ClassId} {tys : List (ClassId × FieldType)} (ht : tys[0]? = some (cI, .int)) (q : Nat → Nat) {A1 U1 A2 U2 L R : Nat} {b1 e1 b2 e2 : Int} (z : Int) (hz : ir z) (hz0 : z ≠ 0) (hz1 : z ≠ 1) : ef_C l yX2_partOf wsX2_partOf ({ frames := 1, cells := 0, slots := 0, locals := 21 } : Room) [.ref (q 0), .int (iv (1)), .int (iv (z))] (dC, dI) vwCl tys (cC cI q (A1) (U1) (b1) (e1) (A2) (U2) (b2) (e2) (L) (R)) (fun o w1 => o = some .null ∧ w1 = cC cI q (A1) (U1) (b1) (e1) (A2) (U2) (b2) (e2) (L) (R)) := by
  refine ef_C.of (cc := cX2_partOf) (maxL := 4) (ret := (some (.object "ExactFractions$Whole"))) (by decide) rfl (Nat.le_of_ble_eq_true rfl) ?_
  intro p e s m below meth c ls hx hb hml hr hts hown hlocks hK hNX hP hD hS hl
  have hl : lv_has ls 4 [(0, .ref (q 0)), (1, .int (iv (1))), (2, .int (iv (z)))] := hl
  have hown : s.vm.findClass RX2 = some m.cls := hown
  generalize hH : s.heap = H at hP ⊢
  have hS : va_S (ef_A (cC cI q (A1) (U1) (b1) (e1) (A2) (U2) (b2) (e2) (L) (R))) s.heap H [] := by rw [← hH]; exact hS
  generalize ([] : List Loc) = locs at hS ⊢
  refine lv_aload_n hx hb dX2_partOf_0 rfl (lv_at hl 0 rfl) ?_
  refine lv_iload_n hx hb dX2_partOf_1 rfl (lv_at hl 1 rfl) ?_
  refine ef_callV (As := [.int (iv (1))]) (rest := []) ⟨hx, hb, hml, hown, hts⟩ (c_numberOf1 l dC dI ht q) (cwV 1 hts gX2_partOf_X2_numberOf rfl rfl rfl (by decide +kernel) ⟨Nat.le_of_ble_eq_true rfl, Nat.le_of_ble_eq_true rfl⟩) hK hNX hP hD hS 0 rfl rfl rfl rfl hl.1 rfl (Nat.le_of_ble_eq_true rfl) dX2_partOf_2 ⟨Nat.zero_le _, Nat.zero_le _⟩ (fun o w1 H locs hq hP hD hS => ?_)
  obtain ⟨rfl, e9⟩ := hq
  rw [e9] at hP hD
  refine W.eq (g2 := F0 m 5 ls [.ref (q 2)]) rfl ?_
  refine lv_astore_n (lv' := [(3, .ref (q 2)), (0, .ref (q 0)), (1, .int (iv (1))), (2, .int (iv (z)))]) hx hb dX2_partOf_5 rfl hl (by decide) rfl (fun ls hl => ?_)
  refine lv_aload_n hx hb dX2_partOf_6 rfl (lv_at hl 0 rfl) ?_
  refine lv_ifnonnull (tgt := 12) hx hb dX2_partOf_7 (by decide) ?_
  refine lv_iload_n hx hb dX2_partOf_12 rfl (lv_at hl 3 rfl) ?_
  refine iw_if_ne (tgt := 21) hx hb dX2_partOf_13 (by decide) (hz) (fun c1 => ?_) (fun c1 => ?_)
  ·
    refine lv_iload_n hx hb dX2_partOf_21 rfl (lv_at hl 3 rfl) ?_
    refine lv_iconst (v := iv (1)) hx hb dX2_partOf_22 (by decide) ?_
    refine iw_icmp_ne (tgt := 33) hx hb dX2_partOf_23 (by decide) (hz) ⟨by omega, by omega⟩ (fun c2 => ?_) (fun c2 => ?_)
    ·
      refine lv_null hx hb dX2_partOf_33 ?_
      exact ef_aret hx hb hr (Or.inl ⟨_, rfl⟩) (Or.inl rfl) hlocks hP hD hS dX2_partOf_34 (⟨rfl, rfl⟩)
    ·
      exact absurd c2 hz1
  ·
    exact absurd c1 hz0

set_option maxRecDepth 100000 in
set_option maxHeartbeats 4000000 in
/-- partOf of no number -/
theorem c_partOfxx (l : Launch) (dC : Nat → ClassId) (dI : Nat → Nat → Nat) {cI : ClassId} {tys : List (ClassId × FieldType)} (ht : tys[0]? = some (cI, .int)) (q : Nat → Nat) {A1 U1 A2 U2 L R : Nat} {b1 e1 b2 e2 : Int} (z y : Int) (hz : ir z) (hz0 : z ≠ 0) (hz1 : z ≠ 1) : ef_C l yX2_partOf wsX2_partOf ({ frames := 1, cells := 0, slots := 0, locals := 21 } : Room) [.ref (q 0), .int (iv (z)), .int (iv (y))] (dC, dI) vwCl tys (cC cI q (A1) (U1) (b1) (e1) (A2) (U2) (b2) (e2) (L) (R)) (fun o w1 => o = some .null ∧ w1 = cC cI q (A1) (U1) (b1) (e1) (A2) (U2) (b2) (e2) (L) (R)) := by
  refine ef_C.of (cc := cX2_partOf) (maxL := 4) (ret := (some (.object "ExactFractions$Whole"))) (by decide) rfl (Nat.le_of_ble_eq_true rfl) ?_
  intro p e s m below meth c ls hx hb hml hr hts hown hlocks hK hNX hP hD hS hl
  have hl : lv_has ls 4 [(0, .ref (q 0)), (1, .int (iv (z))), (2, .int (iv (y)))] := hl
  have hown : s.vm.findClass RX2 = some m.cls := hown
  generalize hH : s.heap = H at hP ⊢
  have hS : va_S (ef_A (cC cI q (A1) (U1) (b1) (e1) (A2) (U2) (b2) (e2) (L) (R))) s.heap H [] := by rw [← hH]; exact hS
  generalize ([] : List Loc) = locs at hS ⊢
  refine lv_aload_n hx hb dX2_partOf_0 rfl (lv_at hl 0 rfl) ?_
  refine lv_iload_n hx hb dX2_partOf_1 rfl (lv_at hl 1 rfl) ?_
  refine ef_callV (As := [.int (iv (z))]) (rest := []) ⟨hx, hb, hml, hown, hts⟩ (c_numberOfx l dC dI ht q z hz hz0 hz1) (cwV 1 hts gX2_partOf_X2_numberOf rfl rfl rfl (by decide +kernel) ⟨Nat.le_of_ble_eq_true rfl, Nat.le_of_ble_eq_true rfl⟩) hK hNX hP hD hS 0 rfl rfl rfl rfl hl.1 rfl (Nat.le_of_ble_eq_true rfl) dX2_partOf_2 ⟨Nat.zero_le _, Nat.zero_le _⟩ (fun o w1 H locs hq hP hD hS => ?_)
  obtain ⟨rfl, e9⟩ := hq
  rw [e9] at hP hD
  refine W.eq (g2 := F0 m 5 ls [.null]) rfl ?_
  refine lv_astore_nN (lv' := [(3, .null), (0, .ref (q 0)), (1, .int (iv (z))), (2, .int (iv (y)))]) hx hb dX2_partOf_5 rfl hl (by decide) rfl (fun ls hl => ?_)
  refine lv_aload_nN hx hb dX2_partOf_6 rfl (lv_at hl 0 rfl) ?_
  refine lv_ifnonnullN hx hb dX2_partOf_7 ?_
  refine lv_null hx hb dX2_partOf_10 ?_
  exact ef_aret hx hb hr (Or.inl ⟨_, rfl⟩) (Or.inl rfl) hlocks hP hD hS dX2_partOf_11 (⟨rfl, rfl⟩)

set_option maxRecDepth 100000 in
set_option maxHeartbeats 4000000 in
/-- sign -/
theorem c_sign0 (l : Launch) (dC : Nat → ClassId) (dI : Nat → Nat → Nat) {cI : ClassId} {tys : List (ClassId × FieldType)} (ht : tys[0]? = some (cI, .int)) (q : Nat → Nat) {A1 U1 A2 U2 L R : Nat} {b1 e1 b2 e2 : Int} (hA1 : wl A1 ≤ 150) (hU1 : wl U1 ≤ 150) (hA2 : wl A2 ≤ 150) (hU2 : wl U2 ≤ 150) (hL : wl L ≤ 301) (hR : wl R ≤ 301) (hbo : b1 = 0 ∨ b1 = 1) : ef_C l yX0_sign wsX0_sign ({ frames := 1, cells := 0, slots := 0, locals := 20 } : Room) [.ref (q 1)] (dC, dI) vwCl tys (cC cI q (A1) (U1) (b1) (e1) (A2) (U2) (b2) (e2) (L) (R)) (fun o w1 => o = some (.int (iv (sgn A1 b1))) ∧ w1 = cC cI q (A1) (U1) (b1) (e1) (A2) (U2) (b2) (e2) (L) (R)) := by
  refine ef_C.of (cc := cX0_sign) (maxL := 1) (ret := (some .int)) (by decide) rfl (Nat.le_of_ble_eq_true rfl) ?_
  intro p e s m below meth c ls hx hb hml hr hts hown hlocks hK hNX hP hD hS hl
  have hl : lv_has ls 1 [(0, .ref (q 1))] := hl
  have hown : s.vm.findClass RX0 = some m.cls := hown
  generalize hH : s.heap = H at hP ⊢
  have hS : va_S (ef_A (cC cI q (A1) (U1) (b1) (e1) (A2) (U2) (b2) (e2) (L) (R))) s.heap H [] := by rw [← hH]; exact hS
  generalize ([] : List Loc) = locs at hS ⊢
  refine lv_aload_n hx hb dX0_sign_0 rfl (lv_at hl 0 rfl) ?_
  refine va_get (D := (dC, dI)) (ci := 0) (v := .ref (q 3)) (C := RX0) (T := TX0) (N := 4) hx hb hts (by decide +kernel) hown hK hP 1 rfl rfl 0 (by decide) (hts (.fieldLink RX0 10 "ExactFractions$Fraction" "above" "LExactFractions$Whole;") (by decide +kernel)) (fun _ h9 => h9) rfl dX0_sign_1 ?_
  refine ef_callV (As := []) (rest := []) ⟨hx, hb, hml, hown, hts⟩ (c_isZero l dC dI ht (isW_c (X := A1) (ws := cC cI q (A1) (U1) (b1) (e1) (A2) (U2) (b2) (e2) (L) (R)) (k0 := 3) (k1 := 4) (by decide) rfl rfl) (by omega)) (cwV 0 hts gX0_sign_X1_isZero rfl rfl rfl (by decide +kernel) ⟨Nat.le_of_ble_eq_true rfl, Nat.le_of_ble_eq_true rfl⟩) hK hNX hP hD hS 3 rfl rfl rfl rfl hl.1 rfl (Nat.le_of_ble_eq_true rfl) dX0_sign_4 ⟨Nat.zero_le _, Nat.zero_le _⟩ (fun o w1 H locs hq hP hD hS => ?_)
  obtain ⟨rfl, e9⟩ := hq
  rw [e9] at hP hD
  refine W.eq (g2 := F0 m 7 ls [.int (iv (if A1 = 0 then 1 else 0))]) rfl ?_
  have hc0 : ir (if A1 = 0 then 1 else 0) := by split <;> exact ⟨by omega, by omega⟩
  refine iw_if_eq (tgt := 12) hx hb dX0_sign_7 (by decide) (hc0) (fun c1 => ?_) (fun c1 => ?_)
  ·
    have hA0 : A1 ≠ 0 := fun q => by rw [if_pos q] at c1; exact absurd c1 (by decide)
    refine lv_aload_n hx hb dX0_sign_12 rfl (lv_at hl 0 rfl) ?_
    refine va_get (D := (dC, dI)) (ci := 0) (v := .int (iv (b1))) (C := RX0) (T := TX0) (N := 4) hx hb hts (by decide +kernel) hown hK hP 1 rfl rfl 2 (by decide) (hts (.fieldLink RX0 26 "ExactFractions$Fraction" "below" "Z") (by decide +kernel)) (fun _ h9 => h9) rfl dX0_sign_13 ?_
    refine iw_if_eq (tgt := 23) hx hb dX0_sign_16 (by decide) (by rcases hbo with h | h <;> rw [h] <;> exact ⟨by decide, by decide⟩) (fun c2 => ?_) (fun c2 => ?_)
    ·
      refine lv_iconst (v := iv (1)) hx hb dX0_sign_23 (by decide) ?_
      exact ef_iret hx hb hr hlocks hP hD hS dX0_sign_24 (by unfold sgn; rw [if_neg hA0, if_pos c2]; exact ⟨rfl, rfl⟩)
    ·
      refine lv_iconst (v := iv (-1)) hx hb dX0_sign_19 (by decide) ?_
      refine lv_goto (tgt := 24) hx hb dX0_sign_20 (by decide) ?_
      exact ef_iret hx hb hr hlocks hP hD hS dX0_sign_24 (by unfold sgn; rw [if_neg hA0, if_neg c2]; exact ⟨rfl, rfl⟩)
  ·
    have hA0 : A1 = 0 := by
      by_cases q : A1 = 0
      · exact q
      · rw [if_neg q] at c1; exact absurd rfl c1
    refine lv_iconst (v := iv (0)) hx hb dX0_sign_10 (by decide) ?_
    exact ef_iret hx hb hr hlocks hP hD hS dX0_sign_11 (by unfold sgn; rw [if_pos hA0]; exact ⟨rfl, rfl⟩)

set_option maxRecDepth 100000 in
set_option maxHeartbeats 4000000 in
/-- sign -/
theorem c_sign1 (l : Launch) (dC : Nat → ClassId) (dI : Nat → Nat → Nat) {cI : ClassId} {tys : List (ClassId × FieldType)} (ht : tys[0]? = some (cI, .int)) (q : Nat → Nat) {A1 U1 A2 U2 L R : Nat} {b1 e1 b2 e2 : Int} (hA1 : wl A1 ≤ 150) (hU1 : wl U1 ≤ 150) (hA2 : wl A2 ≤ 150) (hU2 : wl U2 ≤ 150) (hL : wl L ≤ 301) (hR : wl R ≤ 301) (hbo : b2 = 0 ∨ b2 = 1) : ef_C l yX0_sign wsX0_sign ({ frames := 1, cells := 0, slots := 0, locals := 20 } : Room) [.ref (q 2)] (dC, dI) vwCl tys (cC cI q (A1) (U1) (b1) (e1) (A2) (U2) (b2) (e2) (L) (R)) (fun o w1 => o = some (.int (iv (sgn A2 b2))) ∧ w1 = cC cI q (A1) (U1) (b1) (e1) (A2) (U2) (b2) (e2) (L) (R)) := by
  refine ef_C.of (cc := cX0_sign) (maxL := 1) (ret := (some .int)) (by decide) rfl (Nat.le_of_ble_eq_true rfl) ?_
  intro p e s m below meth c ls hx hb hml hr hts hown hlocks hK hNX hP hD hS hl
  have hl : lv_has ls 1 [(0, .ref (q 2))] := hl
  have hown : s.vm.findClass RX0 = some m.cls := hown
  generalize hH : s.heap = H at hP ⊢
  have hS : va_S (ef_A (cC cI q (A1) (U1) (b1) (e1) (A2) (U2) (b2) (e2) (L) (R))) s.heap H [] := by rw [← hH]; exact hS
  generalize ([] : List Loc) = locs at hS ⊢
  refine lv_aload_n hx hb dX0_sign_0 rfl (lv_at hl 0 rfl) ?_
  refine va_get (D := (dC, dI)) (ci := 0) (v := .ref (q 7)) (C := RX0) (T := TX0) (N := 4) hx hb hts (by decide +kernel) hown hK hP 2 rfl rfl 0 (by decide) (hts (.fieldLink RX0 10 "ExactFractions$Fraction" "above" "LExactFractions$Whole;") (by decide +kernel)) (fun _ h9 => h9) rfl dX0_sign_1 ?_
  refine ef_callV (As := []) (rest := []) ⟨hx, hb, hml, hown, hts⟩ (c_isZero l dC dI ht (isW_c (X := A2) (ws := cC cI q (A1) (U1) (b1) (e1) (A2) (U2) (b2) (e2) (L) (R)) (k0 := 7) (k1 := 8) (by decide) rfl rfl) (by omega)) (cwV 0 hts gX0_sign_X1_isZero rfl rfl rfl (by decide +kernel) ⟨Nat.le_of_ble_eq_true rfl, Nat.le_of_ble_eq_true rfl⟩) hK hNX hP hD hS 7 rfl rfl rfl rfl hl.1 rfl (Nat.le_of_ble_eq_true rfl) dX0_sign_4 ⟨Nat.zero_le _, Nat.zero_le _⟩ (fun o w1 H locs hq hP hD hS => ?_)
  obtain ⟨rfl, e9⟩ := hq
  rw [e9] at hP hD
  refine W.eq (g2 := F0 m 7 ls [.int (iv (if A2 = 0 then 1 else 0))]) rfl ?_
  have hc0 : ir (if A2 = 0 then 1 else 0) := by split <;> exact ⟨by omega, by omega⟩
  refine iw_if_eq (tgt := 12) hx hb dX0_sign_7 (by decide) (hc0) (fun c1 => ?_) (fun c1 => ?_)
  ·
    have hA0 : A2 ≠ 0 := fun q => by rw [if_pos q] at c1; exact absurd c1 (by decide)
    refine lv_aload_n hx hb dX0_sign_12 rfl (lv_at hl 0 rfl) ?_
    refine va_get (D := (dC, dI)) (ci := 0) (v := .int (iv (b2))) (C := RX0) (T := TX0) (N := 4) hx hb hts (by decide +kernel) hown hK hP 2 rfl rfl 2 (by decide) (hts (.fieldLink RX0 26 "ExactFractions$Fraction" "below" "Z") (by decide +kernel)) (fun _ h9 => h9) rfl dX0_sign_13 ?_
    refine iw_if_eq (tgt := 23) hx hb dX0_sign_16 (by decide) (by rcases hbo with h | h <;> rw [h] <;> exact ⟨by decide, by decide⟩) (fun c2 => ?_) (fun c2 => ?_)
    ·
      refine lv_iconst (v := iv (1)) hx hb dX0_sign_23 (by decide) ?_
      exact ef_iret hx hb hr hlocks hP hD hS dX0_sign_24 (by unfold sgn; rw [if_neg hA0, if_pos c2]; exact ⟨rfl, rfl⟩)
    ·
      refine lv_iconst (v := iv (-1)) hx hb dX0_sign_19 (by decide) ?_
      refine lv_goto (tgt := 24) hx hb dX0_sign_20 (by decide) ?_
      exact ef_iret hx hb hr hlocks hP hD hS dX0_sign_24 (by unfold sgn; rw [if_neg hA0, if_neg c2]; exact ⟨rfl, rfl⟩)
  ·
    have hA0 : A2 = 0 := by
      by_cases q : A2 = 0
      · exact q
      · rw [if_neg q] at c1; exact absurd rfl c1
    refine lv_iconst (v := iv (0)) hx hb dX0_sign_10 (by decide) ?_
    exact ef_iret hx hb hr hlocks hP hD hS dX0_sign_11 (by unfold sgn; rw [if_pos hA0]; exact ⟨rfl, rfl⟩)

set_option maxRecDepth 100000 in
set_option maxHeartbeats 4000000 in
/-- rank -/
theorem c_rank0 (l : Launch) (dC : Nat → ClassId) (dI : Nat → Nat → Nat) {cI : ClassId} {tys : List (ClassId × FieldType)} (ht : tys[0]? = some (cI, .int)) (q : Nat → Nat) {A1 U1 A2 U2 L R : Nat} {b1 e1 b2 e2 : Int} (hA1 : wl A1 ≤ 150) (hU1 : wl U1 ≤ 150) (hA2 : wl A2 ≤ 150) (hU2 : wl U2 ≤ 150) (hL : wl L ≤ 301) (hR : wl R ≤ 301) : ef_C l yX0_rank wsX0_rank ({ frames := 2, cells := 0, slots := 0, locals := 43 } : Room) [.ref (q 1)] (dC, dI) vwCl tys (cC cI q (A1) (U1) (b1) (e1) (A2) (U2) (b2) (e2) (L) (R)) (fun o w1 => o = some (.int (iv ((bl A1 : Int) - (bl U1 : Int) + e1))) ∧ w1 = cC cI q (A1) (U1) (b1) (e1) (A2) (U2) (b2) (e2) (L) (R)) := by
  refine ef_C.of (cc := cX0_rank) (maxL := 1) (ret := (some .int)) (by decide) rfl (Nat.le_of_ble_eq_true rfl) ?_
  intro p e s m below meth c ls hx hb hml hr hts hown hlocks hK hNX hP hD hS hl
  have hl : lv_has ls 1 [(0, .ref (q 1))] := hl
  have hown : s.vm.findClass RX0 = some m.cls := hown
  generalize hH : s.heap = H at hP ⊢
  have hS : va_S (ef_A (cC cI q (A1) (U1) (b1) (e1) (A2) (U2) (b2) (e2) (L) (R))) s.heap H [] := by rw [← hH]; exact hS
  generalize ([] : List Loc) = locs at hS ⊢
  refine lv_aload_n hx hb dX0_rank_0 rfl (lv_at hl 0 rfl) ?_
  refine va_get (D := (dC, dI)) (ci := 0) (v := .ref (q 3)) (C := RX0) (T := TX0) (N := 4) hx hb hts (by decide +kernel) hown hK hP 1 rfl rfl 0 (by decide) (hts (.fieldLink RX0 10 "ExactFractions$Fraction" "above" "LExactFractions$Whole;") (by decide +kernel)) (fun _ h9 => h9) rfl dX0_rank_1 ?_
  refine ef_callV (As := []) (rest := []) ⟨hx, hb, hml, hown, hts⟩ (c_length l dC dI ht (isW_c (X := A1) (ws := cC cI q (A1) (U1) (b1) (e1) (A2) (U2) (b2) (e2) (L) (R)) (k0 := 3) (k1 := 4) (by decide) rfl rfl) (by omega)) (cwV 0 hts gX0_rank_X1_length rfl rfl rfl (by decide +kernel) ⟨Nat.le_of_ble_eq_true rfl, Nat.le_of_ble_eq_true rfl⟩) hK hNX hP hD hS 3 rfl rfl rfl rfl hl.1 rfl (Nat.le_of_ble_eq_true rfl) dX0_rank_4 ⟨Nat.zero_le _, Nat.zero_le _⟩ (fun o w1 H locs hq hP hD hS => ?_)
  obtain ⟨rfl, e9⟩ := hq
  rw [e9] at hP hD
  refine W.eq (g2 := F0 m 7 ls [.int (iv ((bl A1 : Int)))]) rfl ?_
  refine lv_aload_n hx hb dX0_rank_7 rfl (lv_at hl 0 rfl) ?_
  refine va_get (D := (dC, dI)) (ci := 0) (v := .ref (q 5)) (C := RX0) (T := TX0) (N := 4) hx hb hts (by decide +kernel) hown hK hP 1 rfl rfl 1 (by decide) (hts (.fieldLink RX0 16 "ExactFractions$Fraction" "under" "LExactFractions$Whole;") (by decide +kernel)) (fun _ h9 => h9) rfl dX0_rank_8 ?_
  refine ef_callV (As := []) (rest := [.int (iv ((bl A1 : Int)))]) ⟨hx, hb, hml, hown, hts⟩ (c_length l dC dI ht (isW_c (X := U1) (ws := cC cI q (A1) (U1) (b1) (e1) (A2) (U2) (b2) (e2) (L) (R)) (k0 := 5) (k1 := 6) (by decide) rfl rfl) (by omega)) (cwV 0 hts gX0_rank_X1_length rfl rfl rfl (by decide +kernel) ⟨Nat.le_of_ble_eq_true rfl, Nat.le_of_ble_eq_true rfl⟩) hK hNX hP hD hS 5 rfl rfl rfl rfl hl.1 rfl (Nat.le_of_ble_eq_true rfl) dX0_rank_11 ⟨Nat.zero_le _, Nat.zero_le _⟩ (fun o w1 H locs hq hP hD hS => ?_)
  obtain ⟨rfl, e9⟩ := hq
  rw [e9] at hP hD
  refine W.eq (g2 := F0 m 14 ls [.int (iv ((bl U1 : Int))), .int (iv ((bl A1 : Int)))]) rfl ?_
  refine iw_isub hx hb dX0_rank_14 ?_
  refine lv_aload_n hx hb dX0_rank_15 rfl (lv_at hl 0 rfl) ?_
  refine va_get (D := (dC, dI)) (ci := 0) (v := .int (iv (e1))) (C := RX0) (T := TX0) (N := 4) hx hb hts (by decide +kernel) hown hK hP 1 rfl rfl 3 (by decide) (hts (.fieldLink RX0 30 "ExactFractions$Fraction" "exponent" "I") (by decide +kernel)) (fun _ h9 => h9) rfl dX0_rank_16 ?_
  refine iw_iadd hx hb dX0_rank_19 ?_
  exact ef_iret hx hb hr hlocks hP hD hS dX0_rank_20 (⟨rfl, rfl⟩)

set_option maxRecDepth 100000 in
set_option maxHeartbeats 4000000 in
/-- rank -/
theorem c_rank1 (l : Launch) (dC : Nat → ClassId) (dI : Nat → Nat → Nat) {cI : ClassId} {tys : List (ClassId × FieldType)} (ht : tys[0]? = some (cI, .int)) (q : Nat → Nat) {A1 U1 A2 U2 L R : Nat} {b1 e1 b2 e2 : Int} (hA1 : wl A1 ≤ 150) (hU1 : wl U1 ≤ 150) (hA2 : wl A2 ≤ 150) (hU2 : wl U2 ≤ 150) (hL : wl L ≤ 301) (hR : wl R ≤ 301) : ef_C l yX0_rank wsX0_rank ({ frames := 2, cells := 0, slots := 0, locals := 43 } : Room) [.ref (q 2)] (dC, dI) vwCl tys (cC cI q (A1) (U1) (b1) (e1) (A2) (U2) (b2) (e2) (L) (R)) (fun o w1 => o = some (.int (iv ((bl A2 : Int) - (bl U2 : Int) + e2))) ∧ w1 = cC cI q (A1) (U1) (b1) (e1) (A2) (U2) (b2) (e2) (L) (R)) := by
  refine ef_C.of (cc := cX0_rank) (maxL := 1) (ret := (some .int)) (by decide) rfl (Nat.le_of_ble_eq_true rfl) ?_
  intro p e s m below meth c ls hx hb hml hr hts hown hlocks hK hNX hP hD hS hl
  have hl : lv_has ls 1 [(0, .ref (q 2))] := hl
  have hown : s.vm.findClass RX0 = some m.cls := hown
  generalize hH : s.heap = H at hP ⊢
  have hS : va_S (ef_A (cC cI q (A1) (U1) (b1) (e1) (A2) (U2) (b2) (e2) (L) (R))) s.heap H [] := by rw [← hH]; exact hS
  generalize ([] : List Loc) = locs at hS ⊢
  refine lv_aload_n hx hb dX0_rank_0 rfl (lv_at hl 0 rfl) ?_
  refine va_get (D := (dC, dI)) (ci := 0) (v := .ref (q 7)) (C := RX0) (T := TX0) (N := 4) hx hb hts (by decide +kernel) hown hK hP 2 rfl rfl 0 (by decide) (hts (.fieldLink RX0 10 "ExactFractions$Fraction" "above" "LExactFractions$Whole;") (by decide +kernel)) (fun _ h9 => h9) rfl dX0_rank_1 ?_
  refine ef_callV (As := []) (rest := []) ⟨hx, hb, hml, hown, hts⟩ (c_length l dC dI ht (isW_c (X := A2) (ws := cC cI q (A1) (U1) (b1) (e1) (A2) (U2) (b2) (e2) (L) (R)) (k0 := 7) (k1 := 8) (by decide) rfl rfl) (by omega)) (cwV 0 hts gX0_rank_X1_length rfl rfl rfl (by decide +kernel) ⟨Nat.le_of_ble_eq_true rfl, Nat.le_of_ble_eq_true rfl⟩) hK hNX hP hD hS 7 rfl rfl rfl rfl hl.1 rfl (Nat.le_of_ble_eq_true rfl) dX0_rank_4 ⟨Nat.zero_le _, Nat.zero_le _⟩ (fun o w1 H locs hq hP hD hS => ?_)
  obtain ⟨rfl, e9⟩ := hq
  rw [e9] at hP hD
  refine W.eq (g2 := F0 m 7 ls [.int (iv ((bl A2 : Int)))]) rfl ?_
  refine lv_aload_n hx hb dX0_rank_7 rfl (lv_at hl 0 rfl) ?_
  refine va_get (D := (dC, dI)) (ci := 0) (v := .ref (q 9)) (C := RX0) (T := TX0) (N := 4) hx hb hts (by decide +kernel) hown hK hP 2 rfl rfl 1 (by decide) (hts (.fieldLink RX0 16 "ExactFractions$Fraction" "under" "LExactFractions$Whole;") (by decide +kernel)) (fun _ h9 => h9) rfl dX0_rank_8 ?_
  refine ef_callV (As := []) (rest := [.int (iv ((bl A2 : Int)))]) ⟨hx, hb, hml, hown, hts⟩ (c_length l dC dI ht (isW_c (X := U2) (ws := cC cI q (A1) (U1) (b1) (e1) (A2) (U2) (b2) (e2) (L) (R)) (k0 := 9) (k1 := 10) (by decide) rfl rfl) (by omega)) (cwV 0 hts gX0_rank_X1_length rfl rfl rfl (by decide +kernel) ⟨Nat.le_of_ble_eq_true rfl, Nat.le_of_ble_eq_true rfl⟩) hK hNX hP hD hS 9 rfl rfl rfl rfl hl.1 rfl (Nat.le_of_ble_eq_true rfl) dX0_rank_11 ⟨Nat.zero_le _, Nat.zero_le _⟩ (fun o w1 H locs hq hP hD hS => ?_)
  obtain ⟨rfl, e9⟩ := hq
  rw [e9] at hP hD
  refine W.eq (g2 := F0 m 14 ls [.int (iv ((bl U2 : Int))), .int (iv ((bl A2 : Int)))]) rfl ?_
  refine iw_isub hx hb dX0_rank_14 ?_
  refine lv_aload_n hx hb dX0_rank_15 rfl (lv_at hl 0 rfl) ?_
  refine va_get (D := (dC, dI)) (ci := 0) (v := .int (iv (e2))) (C := RX0) (T := TX0) (N := 4) hx hb hts (by decide +kernel) hown hK hP 2 rfl rfl 3 (by decide) (hts (.fieldLink RX0 30 "ExactFractions$Fraction" "exponent" "I") (by decide +kernel)) (fun _ h9 => h9) rfl dX0_rank_16 ?_
  refine iw_iadd hx hb dX0_rank_19 ?_
  exact ef_iret hx hb hr hlocks hP hD hS dX0_rank_20 (⟨rfl, rfl⟩)

set_option maxRecDepth 100000 in
set_option maxHeartbeats 4000000 in
/-- restart -/
theorem c_restart0 (l : Launch) (dC : Nat → ClassId) (dI : Nat → Nat → Nat) {cI : ClassId} {tys : List (ClassId × FieldType)} (ht : tys[0]? = some (cI, .int)) (q : Nat → Nat) {A1 U1 A2 U2 L R : Nat} {b1 e1 b2 e2 : Int} (hA1 : wl A1 ≤ 150) (hU1 : wl U1 ≤ 150) (hA2 : wl A2 ≤ 150) (hU2 : wl U2 ≤ 150) (hL : wl L ≤ 301) (hR : wl R ≤ 301) : ef_C l yX0_restart wsX0_restart ({ frames := 3, cells := 0, slots := 0, locals := 67 } : Room) [.ref (q 1)] (dC, dI) vwCl tys (cC cI q (A1) (U1) (b1) (e1) (A2) (U2) (b2) (e2) (L) (R)) (fun o w1 => o = none ∧ w1 = cC cI q (0) (1) (0) (0) (A2) (U2) (b2) (e2) (L) (R)) := by
  refine ef_C.of (cc := cX0_restart) (maxL := 1) (ret := none) (by decide) rfl (Nat.le_of_ble_eq_true rfl) ?_
  intro p e s m below meth c ls hx hb hml hr hts hown hlocks hK hNX hP hD hS hl
  have hl : lv_has ls 1 [(0, .ref (q 1))] := hl
  have hown : s.vm.findClass RX0 = some m.cls := hown
  generalize hH : s.heap = H at hP ⊢
  have hS : va_S (ef_A (cC cI q (A1) (U1) (b1) (e1) (A2) (U2) (b2) (e2) (L) (R))) s.heap H [] := by rw [← hH]; exact hS
  generalize ([] : List Loc) = locs at hS ⊢
  refine lv_aload_n hx hb dX0_restart_0 rfl (lv_at hl 0 rfl) ?_
  refine va_get (D := (dC, dI)) (ci := 0) (v := .ref (q 3)) (C := RX0) (T := TX0) (N := 4) hx hb hts (by decide +kernel) hown hK hP 1 rfl rfl 0 (by decide) (hts (.fieldLink RX0 10 "ExactFractions$Fraction" "above" "LExactFractions$Whole;") (by decide +kernel)) (fun _ h9 => h9) rfl dX0_restart_1 ?_
  refine lv_lconst (v := jv (0)) hx hb dX0_restart_4 (by decide) ?_
  refine iw_topl (y := jv (((0 : Nat) : Int))) (congrArg jv (by omega : ((0) : Int) = (((0 : Nat) : Int)))) ?_
  refine ef_callV (As := [.long (jv (((0 : Nat) : Int)))]) (rest := []) ⟨hx, hb, hml, hown, hts⟩ (c_become l dC dI ht (isW_c (X := A1) (ws := cC cI q (A1) (U1) (b1) (e1) (A2) (U2) (b2) (e2) (L) (R)) (k0 := 3) (k1 := 4) (by decide) rfl rfl) (by omega) (wd_lt _) wd_z (0) (by decide)) (cwV 1 hts gX0_restart_X1_become rfl rfl rfl (by decide +kernel) ⟨Nat.le_of_ble_eq_true rfl, Nat.le_of_ble_eq_true rfl⟩) hK hNX hP hD hS 3 rfl rfl rfl rfl hl.1 rfl (Nat.le_of_ble_eq_true rfl) dX0_restart_5 ⟨Nat.zero_le _, Nat.zero_le _⟩ (fun o w1 H locs hq hP hD hS => ?_)
  obtain ⟨rfl, rfl⟩ := hq
  have hP : va_P (dC, dI) vwCl (cC cI q (0) (U1) (b1) (e1) (A2) (U2) (b2) (e2) (L) (R)) H := hP
  have hD : va_D (ef_A (cC cI q (A1) (U1) (b1) (e1) (A2) (U2) (b2) (e2) (L) (R))) (cC cI q (0) (U1) (b1) (e1) (A2) (U2) (b2) (e2) (L) (R)) := hD
  refine W.eq (g2 := F0 m 8 ls []) rfl ?_
  refine lv_aload_n hx hb dX0_restart_8 rfl (lv_at hl 0 rfl) ?_
  refine va_get (D := (dC, dI)) (ci := 0) (v := .ref (q 5)) (C := RX0) (T := TX0) (N := 4) hx hb hts (by decide +kernel) hown hK hP 1 rfl rfl 1 (by decide) (hts (.fieldLink RX0 16 "ExactFractions$Fraction" "under" "LExactFractions$Whole;") (by decide +kernel)) (fun _ h9 => h9) rfl dX0_restart_9 ?_
  refine lv_lconst (v := jv (1)) hx hb dX0_restart_12 (by decide) ?_
  refine iw_topl (y := jv (((1 : Nat) : Int))) (congrArg jv (by omega : ((1) : Int) = (((1 : Nat) : Int)))) ?_
  refine ef_callV (As := [.long (jv (((1 : Nat) : Int)))]) (rest := []) ⟨hx, hb, hml, hown, hts⟩ (c_become l dC dI ht (isW_c (X := U1) (ws := cC cI q (0) (U1) (b1) (e1) (A2) (U2) (b2) (e2) (L) (R)) (k0 := 5) (k1 := 6) (by decide) rfl rfl) (by omega) (wd_lt _) wd_z (1) (by decide)) (cwV 1 hts gX0_restart_X1_become rfl rfl rfl (by decide +kernel) ⟨Nat.le_of_ble_eq_true rfl, Nat.le_of_ble_eq_true rfl⟩) hK hNX hP hD hS 5 rfl rfl rfl rfl hl.1 rfl (Nat.le_of_ble_eq_true rfl) dX0_restart_13 ⟨Nat.zero_le _, Nat.zero_le _⟩ (fun o w1 H locs hq hP hD hS => ?_)
  obtain ⟨rfl, rfl⟩ := hq
  have hP : va_P (dC, dI) vwCl (cC cI q (0) (1) (b1) (e1) (A2) (U2) (b2) (e2) (L) (R)) H := hP
  have hD : va_D (ef_A (cC cI q (A1) (U1) (b1) (e1) (A2) (U2) (b2) (e2) (L) (R))) (cC cI q (0) (1) (b1) (e1) (A2) (U2) (b2) (e2) (L) (R)) := hD
  refine W.eq (g2 := F0 m 16 ls []) rfl ?_
  refine lv_aload_n hx hb dX0_restart_16 rfl (lv_at hl 0 rfl) ?_
  refine lv_iconst (v := iv (0)) hx hb dX0_restart_17 (by decide) ?_
  refine va_put (D := (dC, dI)) (ci := 0) (v := .int (iv (0))) (ty := .boolean) (C := RX0) (T := TX0) (N := 4) hx hb hts (by decide +kernel) tyX0 tyX0_ok nmX0 hown hK hP hD hS 1 rfl rfl 2 (by decide) (hts (.fieldLink RX0 26 "ExactFractions$Fraction" "below" "Z") (by decide +kernel)) (fun _ h9 => h9) rfl (by decide +kernel) rfl rfl (Nat.le_of_ble_eq_true rfl) dX0_restart_18 (fun H locs hP hD hS => ?_)
  have hP : va_P (dC, dI) vwCl (cC cI q (0) (1) (0) (e1) (A2) (U2) (b2) (e2) (L) (R)) H := hP
  have hD : va_D (ef_A (cC cI q (A1) (U1) (b1) (e1) (A2) (U2) (b2) (e2) (L) (R))) (cC cI q (0) (1) (0) (e1) (A2) (U2) (b2) (e2) (L) (R)) := hD
  refine lv_aload_n hx hb dX0_restart_21 rfl (lv_at hl 0 rfl) ?_
  refine lv_iconst (v := iv (0)) hx hb dX0_restart_22 (by decide) ?_
  refine va_put (D := (dC, dI)) (ci := 0) (v := .int (iv (0))) (ty := .int) (C := RX0) (T := TX0) (N := 4) hx hb hts (by decide +kernel) tyX0 tyX0_ok nmX0 hown hK hP hD hS 1 rfl rfl 3 (by decide) (hts (.fieldLink RX0 30 "ExactFractions$Fraction" "exponent" "I") (by decide +kernel)) (fun _ h9 => h9) rfl (by decide +kernel) rfl rfl (Nat.le_of_ble_eq_true rfl) dX0_restart_23 (fun H locs hP hD hS => ?_)
  have hP : va_P (dC, dI) vwCl (cC cI q (0) (1) (0) (0) (A2) (U2) (b2) (e2) (L) (R)) H := hP
  have hD : va_D (ef_A (cC cI q (A1) (U1) (b1) (e1) (A2) (U2) (b2) (e2) (L) (R))) (cC cI q (0) (1) (0) (0) (A2) (U2) (b2) (e2) (L) (R)) := hD
  exact ef_vret hx hb hr hlocks hP hD hS dX0_restart_26 (⟨rfl, rfl⟩)

set_option maxRecDepth 100000 in
set_option maxHeartbeats 4000000 in
/-- restart -/
theorem c_restart1 (l : Launch) (dC : Nat → ClassId) (dI : Nat → Nat → Nat) {cI : ClassId} {tys : List (ClassId × FieldType)} (ht : tys[0]? = some (cI, .int)) (q : Nat → Nat) {A1 U1 A2 U2 L R : Nat} {b1 e1 b2 e2 : Int} (hA1 : wl A1 ≤ 150) (hU1 : wl U1 ≤ 150) (hA2 : wl A2 ≤ 150) (hU2 : wl U2 ≤ 150) (hL : wl L ≤ 301) (hR : wl R ≤ 301) : ef_C l yX0_restart wsX0_restart ({ frames := 3, cells := 0, slots := 0, locals := 67 } : Room) [.ref (q 2)] (dC, dI) vwCl tys (cC cI q (A1) (U1) (b1) (e1) (A2) (U2) (b2) (e2) (L) (R)) (fun o w1 => o = none ∧ w1 = cC cI q (A1) (U1) (b1) (e1) (0) (1) (0) (0) (L) (R)) := by
  refine ef_C.of (cc := cX0_restart) (maxL := 1) (ret := none) (by decide) rfl (Nat.le_of_ble_eq_true rfl) ?_
  intro p e s m below meth c ls hx hb hml hr hts hown hlocks hK hNX hP hD hS hl
  have hl : lv_has ls 1 [(0, .ref (q 2))] := hl
  have hown : s.vm.findClass RX0 = some m.cls := hown
  generalize hH : s.heap = H at hP ⊢
  have hS : va_S (ef_A (cC cI q (A1) (U1) (b1) (e1) (A2) (U2) (b2) (e2) (L) (R))) s.heap H [] := by rw [← hH]; exact hS
  generalize ([] : List Loc) = locs at hS ⊢
  refine lv_aload_n hx hb dX0_restart_0 rfl (lv_at hl 0 rfl) ?_
  refine va_get (D := (dC, dI)) (ci := 0) (v := .ref (q 7)) (C := RX0) (T := TX0) (N := 4) hx hb hts (by decide +kernel) hown hK hP 2 rfl rfl 0 (by decide) (hts (.fieldLink RX0 10 "ExactFractions$Fraction" "above" "LExactFractions$Whole;") (by decide +kernel)) (fun _ h9 => h9) rfl dX0_restart_1 ?_
  refine lv_lconst (v := jv (0)) hx hb dX0_restart_4 (by decide) ?_
  refine iw_topl (y := jv (((0 : Nat) : Int))) (congrArg jv (by omega : ((0) : Int) = (((0 : Nat) : Int)))) ?_
  refine ef_callV (As := [.long (jv (((0 : Nat) : Int)))]) (rest := []) ⟨hx, hb, hml, hown, hts⟩ (c_become l dC dI ht (isW_c (X := A2) (ws := cC cI q (A1) (U1) (b1) (e1) (A2) (U2) (b2) (e2) (L) (R)) (k0 := 7) (k1 := 8) (by decide) rfl rfl) (by omega) (wd_lt _) wd_z (0) (by decide)) (cwV 1 hts gX0_restart_X1_become rfl rfl rfl (by decide +kernel) ⟨Nat.le_of_ble_eq_true rfl, Nat.le_of_ble_eq_true rfl⟩) hK hNX hP hD hS 7 rfl rfl rfl rfl hl.1 rfl (Nat.le_of_ble_eq_true rfl) dX0_restart_5 ⟨Nat.zero_le _, Nat.zero_le _⟩ (fun o w1 H locs hq hP hD hS => ?_)
  obtain ⟨rfl, rfl⟩ := hq
  have hP : va_P (dC, dI) vwCl (cC cI q (A1) (U1) (b1) (e1) (0) (U2) (b2) (e2) (L) (R)) H := hP
  have hD : va_D (ef_A (cC cI q (A1) (U1) (b1) (e1) (A2) (U2) (b2) (e2) (L) (R))) (cC cI q (A1) (U1) (b1) (e1) (0) (U2) (b2) (e2) (L) (R)) := hD
  refine W.eq (g2 := F0 m 8 ls []) rfl ?_
  refine lv_aload_n hx hb dX0_restart_8 rfl (lv_at hl 0 rfl) ?_
  refine va_get (D := (dC, dI)) (ci := 0) (v := .ref (q 9)) (C := RX0) (T := TX0) (N := 4) hx hb hts (by decide +kernel) hown hK hP 2 rfl rfl 1 (by decide) (hts (.fieldLink RX0 16 "ExactFractions$Fraction" "under" "LExactFractions$Whole;") (by decide +kernel)) (fun _ h9 => h9) rfl dX0_restart_9 ?_
  refine lv_lconst (v := jv (1)) hx hb dX0_restart_12 (by decide) ?_
  refine iw_topl (y := jv (((1 : Nat) : Int))) (congrArg jv (by omega : ((1) : Int) = (((1 : Nat) : Int)))) ?_
  refine ef_callV (As := [.long (jv (((1 : Nat) : Int)))]) (rest := []) ⟨hx, hb, hml, hown, hts⟩ (c_become l dC dI ht (isW_c (X := U2) (ws := cC cI q (A1) (U1) (b1) (e1) (0) (U2) (b2) (e2) (L) (R)) (k0 := 9) (k1 := 10) (by decide) rfl rfl) (by omega) (wd_lt _) wd_z (1) (by decide)) (cwV 1 hts gX0_restart_X1_become rfl rfl rfl (by decide +kernel) ⟨Nat.le_of_ble_eq_true rfl, Nat.le_of_ble_eq_true rfl⟩) hK hNX hP hD hS 9 rfl rfl rfl rfl hl.1 rfl (Nat.le_of_ble_eq_true rfl) dX0_restart_13 ⟨Nat.zero_le _, Nat.zero_le _⟩ (fun o w1 H locs hq hP hD hS => ?_)
  obtain ⟨rfl, rfl⟩ := hq
  have hP : va_P (dC, dI) vwCl (cC cI q (A1) (U1) (b1) (e1) (0) (1) (b2) (e2) (L) (R)) H := hP
  have hD : va_D (ef_A (cC cI q (A1) (U1) (b1) (e1) (A2) (U2) (b2) (e2) (L) (R))) (cC cI q (A1) (U1) (b1) (e1) (0) (1) (b2) (e2) (L) (R)) := hD
  refine W.eq (g2 := F0 m 16 ls []) rfl ?_
  refine lv_aload_n hx hb dX0_restart_16 rfl (lv_at hl 0 rfl) ?_
  refine lv_iconst (v := iv (0)) hx hb dX0_restart_17 (by decide) ?_
  refine va_put (D := (dC, dI)) (ci := 0) (v := .int (iv (0))) (ty := .boolean) (C := RX0) (T := TX0) (N := 4) hx hb hts (by decide +kernel) tyX0 tyX0_ok nmX0 hown hK hP hD hS 2 rfl rfl 2 (by decide) (hts (.fieldLink RX0 26 "ExactFractions$Fraction" "below" "Z") (by decide +kernel)) (fun _ h9 => h9) rfl (by decide +kernel) rfl rfl (Nat.le_of_ble_eq_true rfl) dX0_restart_18 (fun H locs hP hD hS => ?_)
  have hP : va_P (dC, dI) vwCl (cC cI q (A1) (U1) (b1) (e1) (0) (1) (0) (e2) (L) (R)) H := hP
  have hD : va_D (ef_A (cC cI q (A1) (U1) (b1) (e1) (A2) (U2) (b2) (e2) (L) (R))) (cC cI q (A1) (U1) (b1) (e1) (0) (1) (0) (e2) (L) (R)) := hD
  refine lv_aload_n hx hb dX0_restart_21 rfl (lv_at hl 0 rfl) ?_
  refine lv_iconst (v := iv (0)) hx hb dX0_restart_22 (by decide) ?_
  refine va_put (D := (dC, dI)) (ci := 0) (v := .int (iv (0))) (ty := .int) (C := RX0) (T := TX0) (N := 4) hx hb hts (by decide +kernel) tyX0 tyX0_ok nmX0 hown hK hP hD hS 2 rfl rfl 3 (by decide) (hts (.fieldLink RX0 30 "ExactFractions$Fraction" "exponent" "I") (by decide +kernel)) (fun _ h9 => h9) rfl (by decide +kernel) rfl rfl (Nat.le_of_ble_eq_true rfl) dX0_restart_23 (fun H locs hP hD hS => ?_)
  have hP : va_P (dC, dI) vwCl (cC cI q (A1) (U1) (b1) (e1) (0) (1) (0) (0) (L) (R)) H := hP
  have hD : va_D (ef_A (cC cI q (A1) (U1) (b1) (e1) (A2) (U2) (b2) (e2) (L) (R))) (cC cI q (A1) (U1) (b1) (e1) (0) (1) (0) (0) (L) (R)) := hD
  exact ef_vret hx hb hr hlocks hP hD hS dX0_restart_26 (⟨rfl, rfl⟩)
