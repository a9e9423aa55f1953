theorem bl_shift {X : Nat} (h : X ≠ 0) (k : Nat) : bl (X * 2 ^ k) = bl X + k := by
  have h0 : bl X ≠ 0 := fun q => h (bl_0.1 q)
  apply bl_eq
  · rw [Nat.pow_add]
    exact Nat.mul_lt_mul_of_pos_right (bl_lt X) (Nat.pow_pos (by decide))
  · right
    rw [show bl X + k - 1 = bl X - 1 + k by omega, Nat.pow_add]
    exact Nat.mul_le_mul_right _ (bl_ge h)
theorem bl_same {X Y : Nat} (hX : X ≠ 0) (h : bl X = bl Y) : Y < 2 * X := by
  have h0 : bl X ≠ 0 := fun q => hX (bl_0.1 q)
  have h1 := bl_ge hX
  have h2 := bl_lt Y
  rw [← h, show bl X = bl X - 1 + 1 by omega, Nat.pow_succ] at h2
  omega
theorem jv_or1 {f : Nat} (h : f < 4611686018427387904) : jv ((f * 2 : Nat) : Int) ||| jv 1 = jv ((f * 2 + 1 : Nat) : Int) := by
  have e : jv 1 = jv ((1 : Nat) : Int) := rfl
  rw [e, jv_nat, jv_nat, jv_nat]
  exact g_or (k := 1) (p := 2) rfl (by decide) (by omega)
theorem jv_sign {z : Nat} (h : z < 9223372036854775808) : jv (z : Int) ||| jv (-9223372036854775808) = jv ((z : Int) - 9223372036854775808) := by
  have e : jv (-9223372036854775808) = jv ((1 * 9223372036854775808 : Nat) : Int) := jv_cong (by decide)
  have e2 : jv ((z : Int) - 9223372036854775808) = jv ((z + 1 * 9223372036854775808 : Nat) : Int) := jv_cong (by omega)
  rw [e, e2, jv_nat, jv_nat, jv_nat]
  exact g_or' (k := 63) (p := 9223372036854775808) rfl h (by omega)
section SROWS
variable {p : Program} {l : Launch} {e : Env} {R : Room} {s : State} {m : MethodId} {args : Array Value} {below : List Frame} {meth : Method} {c : Code} {H : Heap} {locs : List Loc} {cells slots : Nat} {Q : State → Prop} {cc : ByteArray} {pc : Nat} {ls : Array Slot} {rest : List Value}
theorem iw_lor1 (hx : p.tables.exec = Jvm.exec) (hb : c.code = cc) {f : Nat} (h : f < 4611686018427387904) (hdg : decode cc pc = .ok (.lor, 1)) (kk : W p l e R s m args below meth c H locs cells slots Q (F0 m (pc + 1) ls (.long (jv ((f * 2 + 1 : Nat) : Int)) :: rest))) : W p l e R s m args below meth c H locs cells slots Q (F0 m pc ls (.long (jv 1) :: .long (jv ((f * 2 : Nat) : Int)) :: rest)) := lv_lor hx hb hdg (by rw [jv_or1 h]; exact kk)
theorem iw_lorS (hx : p.tables.exec = Jvm.exec) (hb : c.code = cc) {z : Nat} (h : z < 9223372036854775808) (hdg : decode cc pc = .ok (.lor, 1)) (kk : W p l e R s m args below meth c H locs cells slots Q (F0 m (pc + 1) ls (.long (jv ((z : Int) - 9223372036854775808)) :: rest))) : W p l e R s m args below meth c H locs cells slots Q (F0 m pc ls (.long (jv (-9223372036854775808)) :: .long (jv (z : Int)) :: rest)) := lv_lor hx hb hdg (by rw [jv_sign h]; exact kk)
end SROWS

set_option maxRecDepth 100000 in
set_option maxHeartbeats 4000000 in
/-- layOut -/
theorem c_layOut0 (l : Launch) (dC : Nat → ClassId) (dI : Nat → Nat → Nat) {cI : ClassId} {tys : List (ClassId × FieldType)} (ht : tys[0]? = some (cI, .int)) (q : Nat → Nat) {A1 U1 A2 U2 L R : Nat} {b1 e1 b2 e2 : Int} (hA1 : wl A1 ≤ 150) (hU1 : wl U1 ≤ 150) (hA2 : wl A2 ≤ 150) (hU2 : wl U2 ≤ 150) (hL : wl L ≤ 301) (hR : wl R ≤ 301) (bA1 : bl A1 ≤ 4800) (bU1 : bl U1 ≤ 4800) (bA2 : bl A2 ≤ 4800) (bU2 : bl U2 ≤ 4800) (le1 : -12000 ≤ e1) (ge1 : e1 ≤ 12000) (le2 : -12000 ≤ e2) (ge2 : e2 ≤ 12000) (nA : A1 ≠ 0) (nU : U1 ≠ 0) : ef_C l yX2_layOut wsX2_layOut ({ frames := 4, cells := 0, slots := 0, locals := 93 } : Room) [.ref (q 0), .ref (q 1)] (dC, dI) vwCl tys (cC cI q (A1) (U1) (b1) (e1) (A2) (U2) (b2) (e2) (L) (R)) (fun o w1 => ∃ (L2 R2 : Nat) (P : Int), o = some (.int (iv P)) ∧ w1 = cC cI q (A1) (U1) (b1) (e1) (A2) (U2) (b2) (e2) (L2) (R2) ∧ R2 ≤ L2 ∧ L2 < 2 * R2 ∧ A1 * R2 * pw e1 = L2 * U1 * pw P ∧ -17000 ≤ P ∧ P ≤ 17000 ∧ bl R2 ≤ 4800) := by
  refine ef_C.of (cc := cX2_layOut) (maxL := 2) (ret := (some .int)) (by decide) rfl (Nat.le_of_ble_eq_true rfl) ?_
  intro p e s m below meth c ls hx hb hml hr hts hown hlocks hK hNX hP hD hS hl
  have hl : lv_has ls 2 [(0, .ref (q 0)), (1, .ref (q 1))] := hl
  have hown : s.vm.findClass RX2 = some m.cls := hown
  generalize hH : s.heap = H at hP ⊢
  have hS : va_S (ef_A (cC cI q (A1) (U1) (b1) (e1) (A2) (U2) (b2) (e2) (L) (R))) s.heap H [] := by rw [← hH]; exact hS
  generalize ([] : List Loc) = locs at hS ⊢
  have b1A : bl A1 ≠ 0 := fun q => nA (bl_0.1 q)
  have b1U : bl U1 ≠ 0 := fun q => nU (bl_0.1 q)
  have wA9 := wl_of_bl A1
  have wU9 := wl_of_bl U1
  refine lv_aload_n hx hb dX2_layOut_0 rfl (lv_at hl 0 rfl) ?_
  refine va_get (D := (dC, dI)) (ci := 2) (v := .ref (q 11)) (C := RX2) (T := TX2) (N := 4) hx hb hts (by decide +kernel) hown hK hP 0 rfl rfl 2 (by decide) (hts (.fieldLink RX2 22 "ExactFractions" "left" "LExactFractions$Whole;") (by decide +kernel)) (fun _ h9 => h9) rfl dX2_layOut_1 ?_
  refine lv_aload_n hx hb dX2_layOut_4 rfl (lv_at hl 1 rfl) ?_
  refine va_get (D := (dC, dI)) (ci := 0) (v := .ref (q 3)) (C := RX0) (T := TX0) (N := 4) hx hb hts (by decide +kernel) hown hK hP 1 rfl rfl 0 (by decide) (hts (.fieldLink RX2 65 "ExactFractions$Fraction" "above" "LExactFractions$Whole;") (by decide +kernel)) (fun _ h9 => h9) rfl dX2_layOut_5 ?_
  refine ef_callV (As := [.ref (q 3)]) (rest := []) ⟨hx, hb, hml, hown, hts⟩ (c_copy l dC dI ht (isW_c (X := L) (ws := cC cI q (A1) (U1) (b1) (e1) (A2) (U2) (b2) (e2) (L) (R)) (k0 := 11) (k1 := 12) (by decide) rfl rfl) hL (wd_lt _) wd_z (isW_c (X := A1) (ws := cC cI q (A1) (U1) (b1) (e1) (A2) (U2) (b2) (e2) (L) (R)) (k0 := 3) (k1 := 4) (by decide) rfl rfl) (by omega) (apt_c (k0 := 11) (k1 := 12) (j0 := 3) (j1 := 4) rfl)) (cwV 1 hts gX2_layOut_X1_copy rfl rfl rfl (by decide +kernel) ⟨Nat.le_of_ble_eq_true rfl, Nat.le_of_ble_eq_true rfl⟩) hK hNX hP hD hS 11 rfl rfl rfl rfl hl.1 rfl (Nat.le_of_ble_eq_true rfl) dX2_layOut_8 ⟨Nat.zero_le _, Nat.zero_le _⟩ (fun o w1 H locs hq hP hD hS => ?_)
  obtain ⟨rfl, rfl⟩ := hq
  have hP : va_P (dC, dI) vwCl (cC cI q (A1) (U1) (b1) (e1) (A2) (U2) (b2) (e2) (A1) (R)) H := hP
  have hD : va_D (ef_A (cC cI q (A1) (U1) (b1) (e1) (A2) (U2) (b2) (e2) (L) (R))) (cC cI q (A1) (U1) (b1) (e1) (A2) (U2) (b2) (e2) (A1) (R)) := hD
  refine W.eq (g2 := F0 m 11 ls []) rfl ?_
  refine lv_aload_n hx hb dX2_layOut_11 rfl (lv_at hl 0 rfl) ?_
  refine va_get (D := (dC, dI)) (ci := 2) (v := .ref (q 13)) (C := RX2) (T := TX2) (N := 4) hx hb hts (by decide +kernel) hown hK hP 0 rfl rfl 3 (by decide) (hts (.fieldLink RX2 26 "ExactFractions" "right" "LExactFractions$Whole;") (by decide +kernel)) (fun _ h9 => h9) rfl dX2_layOut_12 ?_
  refine lv_aload_n hx hb dX2_layOut_15 rfl (lv_at hl 1 rfl) ?_
  refine va_get (D := (dC, dI)) (ci := 0) (v := .ref (q 5)) (C := RX0) (T := TX0) (N := 4) hx hb hts (by decide +kernel) hown hK hP 1 rfl rfl 1 (by decide) (hts (.fieldLink RX2 103 "ExactFractions$Fraction" "under" "LExactFractions$Whole;") (by decide +kernel)) (fun _ h9 => h9) rfl dX2_layOut_16 ?_
  refine ef_callV (As := [.ref (q 5)]) (rest := []) ⟨hx, hb, hml, hown, hts⟩ (c_copy l dC dI ht (isW_c (X := R) (ws := cC cI q (A1) (U1) (b1) (e1) (A2) (U2) (b2) (e2) (A1) (R)) (k0 := 13) (k1 := 14) (by decide) rfl rfl) hR (wd_lt _) wd_z (isW_c (X := U1) (ws := cC cI q (A1) (U1) (b1) (e1) (A2) (U2) (b2) (e2) (A1) (R)) (k0 := 5) (k1 := 6) (by decide) rfl rfl) (by omega) (apt_c (k0 := 13) (k1 := 14) (j0 := 5) (j1 := 6) rfl)) (cwV 1 hts gX2_layOut_X1_copy rfl rfl rfl (by decide +kernel) ⟨Nat.le_of_ble_eq_true rfl, Nat.le_of_ble_eq_true rfl⟩) hK hNX hP hD hS 13 rfl rfl rfl rfl hl.1 rfl (Nat.le_of_ble_eq_true rfl) dX2_layOut_19 ⟨Nat.zero_le _, Nat.zero_le _⟩ (fun o w1 H locs hq hP hD hS => ?_)
  obtain ⟨rfl, rfl⟩ := hq
  have hP : va_P (dC, dI) vwCl (cC cI q (A1) (U1) (b1) (e1) (A2) (U2) (b2) (e2) (A1) (U1)) H := hP
  have hD : va_D (ef_A (cC cI q (A1) (U1) (b1) (e1) (A2) (U2) (b2) (e2) (L) (R))) (cC cI q (A1) (U1) (b1) (e1) (A2) (U2) (b2) (e2) (A1) (U1)) := hD
  refine W.eq (g2 := F0 m 22 ls []) rfl ?_
  refine lv_aload_n hx hb dX2_layOut_22 rfl (lv_at hl 0 rfl) ?_
  refine lv_aload_n hx hb dX2_layOut_23 rfl (lv_at hl 0 rfl) ?_
  refine va_get (D := (dC, dI)) (ci := 2) (v := .ref (q 11)) (C := RX2) (T := TX2) (N := 4) hx hb hts (by decide +kernel) hown hK hP 0 rfl rfl 2 (by decide) (hts (.fieldLink RX2 22 "ExactFractions" "left" "LExactFractions$Whole;") (by decide +kernel)) (fun _ h9 => h9) rfl dX2_layOut_24 ?_
  refine ef_callV (As := []) (rest := [.ref (q 0)]) ⟨hx, hb, hml, hown, hts⟩ (c_length l dC dI ht (isW_c (X := A1) (ws := cC cI q (A1) (U1) (b1) (e1) (A2) (U2) (b2) (e2) (A1) (U1)) (k0 := 11) (k1 := 12) (by decide) rfl rfl) (by omega)) (cwV 0 hts gX2_layOut_X1_length rfl rfl rfl (by decide +kernel) ⟨Nat.le_of_ble_eq_true rfl, Nat.le_of_ble_eq_true rfl⟩) hK hNX hP hD hS 11 rfl rfl rfl rfl hl.1 rfl (Nat.le_of_ble_eq_true rfl) dX2_layOut_27 ⟨Nat.zero_le _, Nat.zero_le _⟩ (fun o w1 H locs hq hP hD hS => ?_)
  obtain ⟨rfl, e9⟩ := hq
  rw [e9] at hP hD
  refine W.eq (g2 := F0 m 30 ls [.int (iv ((bl A1 : Int))), .ref (q 0)]) rfl ?_
  refine lv_aload_n hx hb dX2_layOut_30 rfl (lv_at hl 0 rfl) ?_
  refine va_get (D := (dC, dI)) (ci := 2) (v := .ref (q 13)) (C := RX2) (T := TX2) (N := 4) hx hb hts (by decide +kernel) hown hK hP 0 rfl rfl 3 (by decide) (hts (.fieldLink RX2 26 "ExactFractions" "right" "LExactFractions$Whole;") (by decide +kernel)) (fun _ h9 => h9) rfl dX2_layOut_31 ?_
  refine ef_callV (As := []) (rest := [.int (iv ((bl A1 : Int))), .ref (q 0)]) ⟨hx, hb, hml, hown, hts⟩ (c_length l dC dI ht (isW_c (X := U1) (ws := cC cI q (A1) (U1) (b1) (e1) (A2) (U2) (b2) (e2) (A1) (U1)) (k0 := 13) (k1 := 14) (by decide) rfl rfl) (by omega)) (cwV 0 hts gX2_layOut_X1_length rfl rfl rfl (by decide +kernel) ⟨Nat.le_of_ble_eq_true rfl, Nat.le_of_ble_eq_true rfl⟩) hK hNX hP hD hS 13 rfl rfl rfl rfl hl.1 rfl (Nat.le_of_ble_eq_true rfl) dX2_layOut_34 ⟨Nat.zero_le _, Nat.zero_le _⟩ (fun o w1 H locs hq hP hD hS => ?_)
  obtain ⟨rfl, e9⟩ := hq
  rw [e9] at hP hD
  refine W.eq (g2 := F0 m 37 ls [.int (iv ((bl U1 : Int))), .int (iv ((bl A1 : Int))), .ref (q 0)]) rfl ?_
  refine iw_isub hx hb dX2_layOut_37 ?_
  obtain ⟨gp, hgp⟩ : ∃ z, z = (bl A1 : Int) - (bl U1 : Int) := ⟨_, rfl⟩
  refine iw_topi (y := iv (gp)) (congrArg iv (by omega : ((((bl A1 : Int)) - ((bl U1 : Int))) : Int) = (gp))) ?_
  rcases Int.lt_or_le gp 0 with hg | hg
  ·
    obtain ⟨k, hk⟩ : ∃ k : Nat, gp = -(k : Int) := ⟨(-gp).toNat, by omega⟩
    subst hk
    refine ef_callV (As := [.int (iv (-(k : Int)))]) (rest := []) ⟨hx, hb, hml, hown, hts⟩ (c_alignN l dC dI ht q hA1 hU1 hA2 hU2 (by omega) (by omega) k (by omega) (by omega)) (cwV 1 hts gX2_layOut_X2_alignTops rfl rfl rfl (by decide +kernel) ⟨Nat.le_of_ble_eq_true rfl, Nat.le_of_ble_eq_true rfl⟩) hK hNX hP hD hS 0 rfl rfl rfl rfl hl.1 rfl (Nat.le_of_ble_eq_true rfl) dX2_layOut_38 ⟨Nat.zero_le _, Nat.zero_le _⟩ (fun o w1 H locs hq hP hD hS => ?_)
    obtain ⟨rfl, rfl⟩ := hq
    have hP : va_P (dC, dI) vwCl (cC cI q (A1) (U1) (b1) (e1) (A2) (U2) (b2) (e2) (A1 * 2 ^ k) (U1)) H := hP
    have hD : va_D (ef_A (cC cI q (A1) (U1) (b1) (e1) (A2) (U2) (b2) (e2) (L) (R))) (cC cI q (A1) (U1) (b1) (e1) (A2) (U2) (b2) (e2) (A1 * 2 ^ k) (U1)) := hD
    refine W.eq (g2 := F0 m 41 ls []) rfl ?_
    have hbs : bl (A1 * 2 ^ k) = bl (U1) := by rw [bl_shift nA]; omega
    have hrel : A1 * (U1) * pw e1 = (A1 * 2 ^ k) * U1 * pw (-(k : Int) + e1) := by
      have q := pw_add (z := -(k : Int) + e1) (by omega) k
      rw [show -(k : Int) + e1 + (k : Int) = e1 by omega] at q
      rw [q, Nat.mul_right_comm A1 (2 ^ k), Nat.mul_comm (pw _) (2 ^ k), ← Nat.mul_assoc]
    have nL1 : A1 * 2 ^ k ≠ 0 := Nat.mul_ne_zero nA (Nat.ne_of_gt (Nat.pow_pos (by decide)))
    have nR1 : U1 ≠ 0 := nU
    have hbl1 : bl (A1 * 2 ^ k) ≤ 4800 := by omega
    have hbr1 : bl (U1) ≤ 4800 := by omega
    have wl1 := wl_of_bl (A1 * 2 ^ k)
    have wr1 := wl_of_bl (U1)
    have hs1 := bl_same nL1 hbs
    have hs2 := bl_same nR1 hbs.symm
    refine lv_aload_n hx hb dX2_layOut_41 rfl (lv_at hl 0 rfl) ?_
    refine va_get (D := (dC, dI)) (ci := 2) (v := .ref (q 11)) (C := RX2) (T := TX2) (N := 4) hx hb hts (by decide +kernel) hown hK hP 0 rfl rfl 2 (by decide) (hts (.fieldLink RX2 22 "ExactFractions" "left" "LExactFractions$Whole;") (by decide +kernel)) (fun _ h9 => h9) rfl dX2_layOut_42 ?_
    refine lv_aload_n hx hb dX2_layOut_45 rfl (lv_at hl 0 rfl) ?_
    refine va_get (D := (dC, dI)) (ci := 2) (v := .ref (q 13)) (C := RX2) (T := TX2) (N := 4) hx hb hts (by decide +kernel) hown hK hP 0 rfl rfl 3 (by decide) (hts (.fieldLink RX2 26 "ExactFractions" "right" "LExactFractions$Whole;") (by decide +kernel)) (fun _ h9 => h9) rfl dX2_layOut_46 ?_
    refine ef_callV (As := [.ref (q 13)]) (rest := []) ⟨hx, hb, hml, hown, hts⟩ (c_order l dC dI ht (isW_c (X := A1 * 2 ^ k) (ws := cC cI q (A1) (U1) (b1) (e1) (A2) (U2) (b2) (e2) (A1 * 2 ^ k) (U1)) (k0 := 11) (k1 := 12) (by decide) rfl rfl) (by omega) (isW_c (X := U1) (ws := cC cI q (A1) (U1) (b1) (e1) (A2) (U2) (b2) (e2) (A1 * 2 ^ k) (U1)) (k0 := 13) (k1 := 14) (by decide) rfl rfl) (by omega)) (cwV 1 hts gX2_layOut_X1_order rfl rfl rfl (by decide +kernel) ⟨Nat.le_of_ble_eq_true rfl, Nat.le_of_ble_eq_true rfl⟩) hK hNX hP hD hS 11 rfl rfl rfl rfl hl.1 rfl (Nat.le_of_ble_eq_true rfl) dX2_layOut_49 ⟨Nat.zero_le _, Nat.zero_le _⟩ (fun o w1 H locs hq hP hD hS => ?_)
    obtain ⟨rfl, e9⟩ := hq
    rw [e9] at hP hD
    refine W.eq (g2 := F0 m 52 ls [.int (iv (zc ((A1 * 2 ^ k : Nat) : Int) ((U1 : Nat) : Int)))]) rfl ?_
    refine iw_if_lt (tgt := 60) hx hb dX2_layOut_52 (by decide) (ir_zc _ _) (fun c1 => ?_) (fun c1 => ?_)
    ·
      have c2 : (A1 * 2 ^ k) < (U1) := by
        rcases Nat.lt_or_ge (A1 * 2 ^ k) (U1) with q | q
        · exact q
        · exact absurd ((zc_ge _ _).2 (Int.ofNat_le.mpr q)) (by omega)
      refine lv_aload_n hx hb dX2_layOut_60 rfl (lv_at hl 0 rfl) ?_
      refine va_get (D := (dC, dI)) (ci := 2) (v := .ref (q 11)) (C := RX2) (T := TX2) (N := 4) hx hb hts (by decide +kernel) hown hK hP 0 rfl rfl 2 (by decide) (hts (.fieldLink RX2 22 "ExactFractions" "left" "LExactFractions$Whole;") (by decide +kernel)) (fun _ h9 => h9) rfl dX2_layOut_61 ?_
      refine lv_iconst (v := iv (1)) hx hb dX2_layOut_64 (by decide) ?_
      refine iw_topi (y := iv (((1 : Nat) : Int))) (congrArg iv (by omega : ((1) : Int) = (((1 : Nat) : Int)))) ?_
      refine ef_callV (As := [.int (iv (((1 : Nat) : Int)))]) (rest := []) ⟨hx, hb, hml, hown, hts⟩ (c_shiftUp l dC dI ht (isW_c (X := A1 * 2 ^ k) (ws := cC cI q (A1) (U1) (b1) (e1) (A2) (U2) (b2) (e2) (A1 * 2 ^ k) (U1)) (k0 := 11) (k1 := 12) (by decide) rfl rfl) (by omega) 1 (by omega)) (cwV 1 hts gX2_layOut_X1_shiftUp rfl rfl rfl (by decide +kernel) ⟨Nat.le_of_ble_eq_true rfl, Nat.le_of_ble_eq_true rfl⟩) hK hNX hP hD hS 11 rfl rfl rfl rfl hl.1 rfl (Nat.le_of_ble_eq_true rfl) dX2_layOut_65 ⟨Nat.zero_le _, Nat.zero_le _⟩ (fun o w1 H locs hq hP hD hS => ?_)
      obtain ⟨rfl, rfl⟩ := hq
      have hP : va_P (dC, dI) vwCl (cC cI q (A1) (U1) (b1) (e1) (A2) (U2) (b2) (e2) (A1 * 2 ^ k * 2 ^ 1) (U1)) H := hP
      have hD : va_D (ef_A (cC cI q (A1) (U1) (b1) (e1) (A2) (U2) (b2) (e2) (L) (R))) (cC cI q (A1) (U1) (b1) (e1) (A2) (U2) (b2) (e2) (A1 * 2 ^ k * 2 ^ 1) (U1)) := hD
      refine W.eq (g2 := F0 m 68 ls []) rfl ?_
      have wl2 : wl (A1 * 2 ^ k * 2 ^ 1) ≤ 301 := by rw [wl_of_bl, bl_shift nL1]; omega
      refine lv_aload_n hx hb dX2_layOut_68 rfl (lv_at hl 1 rfl) ?_
      refine ef_callV (As := []) (rest := []) ⟨hx, hb, hml, hown, hts⟩ (c_rank0 l dC dI ht q hA1 hU1 hA2 hU2 wl2 (by omega)) (cwV 0 hts gX2_layOut_X0_rank rfl rfl rfl (by decide +kernel) ⟨Nat.le_of_ble_eq_true rfl, Nat.le_of_ble_eq_true rfl⟩) hK hNX hP hD hS 1 rfl rfl rfl rfl hl.1 rfl (Nat.le_of_ble_eq_true rfl) dX2_layOut_69 ⟨Nat.zero_le _, Nat.zero_le _⟩ (fun o w1 H locs hq hP hD hS => ?_)
      obtain ⟨rfl, e9⟩ := hq
      rw [e9] at hP hD
      refine W.eq (g2 := F0 m 72 ls [.int (iv ((bl A1 : Int) - (bl U1 : Int) + e1))]) rfl ?_
      refine lv_iconst (v := iv (1)) hx hb dX2_layOut_72 (by decide) ?_
      refine iw_isub hx hb dX2_layOut_73 ?_
      refine iw_topi (y := iv (-(k : Int) + e1 - 1)) (congrArg iv (by omega : ((((bl A1 : Int) - (bl U1 : Int) + e1) - (1)) : Int) = (-(k : Int) + e1 - 1))) ?_
      exact ef_iret hx hb hr hlocks hP hD hS dX2_layOut_74 (⟨_, _, _, rfl, rfl, by omega, by omega, by
            have q := pw_add (z := -(k : Int) + e1 - 1) (by omega) 1
            rw [show -(k : Int) + e1 - 1 + ((1 : Nat) : Int) = -(k : Int) + e1 by omega] at q
            rw [hrel, q, Nat.mul_right_comm (A1 * 2 ^ k) (2 ^ 1), Nat.mul_comm (pw _) (2 ^ 1), ← Nat.mul_assoc], by omega, by omega, hbr1⟩)
    ·
      have c2 : (U1) ≤ (A1 * 2 ^ k) := by have := (zc_ge _ _).1 c1; omega
      refine lv_aload_n hx hb dX2_layOut_55 rfl (lv_at hl 1 rfl) ?_
      refine ef_callV (As := []) (rest := []) ⟨hx, hb, hml, hown, hts⟩ (c_rank0 l dC dI ht q hA1 hU1 hA2 hU2 (by omega) (by omega)) (cwV 0 hts gX2_layOut_X0_rank rfl rfl rfl (by decide +kernel) ⟨Nat.le_of_ble_eq_true rfl, Nat.le_of_ble_eq_true rfl⟩) hK hNX hP hD hS 1 rfl rfl rfl rfl hl.1 rfl (Nat.le_of_ble_eq_true rfl) dX2_layOut_56 ⟨Nat.zero_le _, Nat.zero_le _⟩ (fun o w1 H locs hq hP hD hS => ?_)
      obtain ⟨rfl, e9⟩ := hq
      rw [e9] at hP hD
      refine W.eq (g2 := F0 m 59 ls [.int (iv ((bl A1 : Int) - (bl U1 : Int) + e1))]) rfl ?_
      refine iw_topi (y := iv (-(k : Int) + e1)) (congrArg iv (by omega : (((bl A1 : Int) - (bl U1 : Int) + e1) : Int) = (-(k : Int) + e1))) ?_
      exact ef_iret hx hb hr hlocks hP hD hS dX2_layOut_59 (⟨_, _, _, rfl, rfl, c2, by omega, hrel, by omega, by omega, hbr1⟩)
  ·
    obtain ⟨k, hk⟩ : ∃ k : Nat, gp = (k : Int) := ⟨gp.toNat, by omega⟩
    subst hk
    refine ef_callV (As := [.int (iv ((k : Int)))]) (rest := []) ⟨hx, hb, hml, hown, hts⟩ (c_alignP l dC dI ht q hA1 hU1 hA2 hU2 (by omega) (by omega) k (by omega)) (cwV 1 hts gX2_layOut_X2_alignTops rfl rfl rfl (by decide +kernel) ⟨Nat.le_of_ble_eq_true rfl, Nat.le_of_ble_eq_true rfl⟩) hK hNX hP hD hS 0 rfl rfl rfl rfl hl.1 rfl (Nat.le_of_ble_eq_true rfl) dX2_layOut_38 ⟨Nat.zero_le _, Nat.zero_le _⟩ (fun o w1 H locs hq hP hD hS => ?_)
    obtain ⟨rfl, rfl⟩ := hq
    have hP : va_P (dC, dI) vwCl (cC cI q (A1) (U1) (b1) (e1) (A2) (U2) (b2) (e2) (A1) (U1 * 2 ^ k)) H := hP
    have hD : va_D (ef_A (cC cI q (A1) (U1) (b1) (e1) (A2) (U2) (b2) (e2) (L) (R))) (cC cI q (A1) (U1) (b1) (e1) (A2) (U2) (b2) (e2) (A1) (U1 * 2 ^ k)) := hD
    refine W.eq (g2 := F0 m 41 ls []) rfl ?_
    have hbs : bl (A1) = bl (U1 * 2 ^ k) := by rw [bl_shift nU]; omega
    have hrel : A1 * (U1 * 2 ^ k) * pw e1 = (A1) * U1 * pw ((k : Int) + e1) := by
      rw [show (k : Int) + e1 = e1 + (k : Int) by omega, pw_add (by omega), ← Nat.mul_assoc, Nat.mul_assoc (A1 * U1), Nat.mul_comm (2 ^ k), ← Nat.mul_assoc]
    have nL1 : A1 ≠ 0 := nA
    have nR1 : U1 * 2 ^ k ≠ 0 := Nat.mul_ne_zero nU (Nat.ne_of_gt (Nat.pow_pos (by decide)))
    have hbl1 : bl (A1) ≤ 4800 := by omega
    have hbr1 : bl (U1 * 2 ^ k) ≤ 4800 := by omega
    have wl1 := wl_of_bl (A1)
    have wr1 := wl_of_bl (U1 * 2 ^ k)
    have hs1 := bl_same nL1 hbs
    have hs2 := bl_same nR1 hbs.symm
    refine lv_aload_n hx hb dX2_layOut_41 rfl (lv_at hl 0 rfl) ?_
    refine va_get (D := (dC, dI)) (ci := 2) (v := .ref (q 11)) (C := RX2) (T := TX2) (N := 4) hx hb hts (by decide +kernel) hown hK hP 0 rfl rfl 2 (by decide) (hts (.fieldLink RX2 22 "ExactFractions" "left" "LExactFractions$Whole;") (by decide +kernel)) (fun _ h9 => h9) rfl dX2_layOut_42 ?_
    refine lv_aload_n hx hb dX2_layOut_45 rfl (lv_at hl 0 rfl) ?_
    refine va_get (D := (dC, dI)) (ci := 2) (v := .ref (q 13)) (C := RX2) (T := TX2) (N := 4) hx hb hts (by decide +kernel) hown hK hP 0 rfl rfl 3 (by decide) (hts (.fieldLink RX2 26 "ExactFractions" "right" "LExactFractions$Whole;") (by decide +kernel)) (fun _ h9 => h9) rfl dX2_layOut_46 ?_
    refine ef_callV (As := [.ref (q 13)]) (rest := []) ⟨hx, hb, hml, hown, hts⟩ (c_order l dC dI ht (isW_c (X := A1) (ws := cC cI q (A1) (U1) (b1) (e1) (A2) (U2) (b2) (e2) (A1) (U1 * 2 ^ k)) (k0 := 11) (k1 := 12) (by decide) rfl rfl) (by omega) (isW_c (X := U1 * 2 ^ k) (ws := cC cI q (A1) (U1) (b1) (e1) (A2) (U2) (b2) (e2) (A1) (U1 * 2 ^ k)) (k0 := 13) (k1 := 14) (by decide) rfl rfl) (by omega)) (cwV 1 hts gX2_layOut_X1_order rfl rfl rfl (by decide +kernel) ⟨Nat.le_of_ble_eq_true rfl, Nat.le_of_ble_eq_true rfl⟩) hK hNX hP hD hS 11 rfl rfl rfl rfl hl.1 rfl (Nat.le_of_ble_eq_true rfl) dX2_layOut_49 ⟨Nat.zero_le _, Nat.zero_le _⟩ (fun o w1 H locs hq hP hD hS => ?_)
    obtain ⟨rfl, e9⟩ := hq
    rw [e9] at hP hD
    refine W.eq (g2 := F0 m 52 ls [.int (iv (zc ((A1 : Nat) : Int) ((U1 * 2 ^ k : Nat) : Int)))]) rfl ?_
    refine iw_if_lt (tgt := 60) hx hb dX2_layOut_52 (by decide) (ir_zc _ _) (fun c1 => ?_) (fun c1 => ?_)
    ·
      have c2 : (A1) < (U1 * 2 ^ k) := by
        rcases Nat.lt_or_ge (A1) (U1 * 2 ^ k) with q | q
        · exact q
        · exact absurd ((zc_ge _ _).2 (Int.ofNat_le.mpr q)) (by omega)
      refine lv_aload_n hx hb dX2_layOut_60 rfl (lv_at hl 0 rfl) ?_
      refine va_get (D := (dC, dI)) (ci := 2) (v := .ref (q 11)) (C := RX2) (T := TX2) (N := 4) hx hb hts (by decide +kernel) hown hK hP 0 rfl rfl 2 (by decide) (hts (.fieldLink RX2 22 "ExactFractions" "left" "LExactFractions$Whole;") (by decide +kernel)) (fun _ h9 => h9) rfl dX2_layOut_61 ?_
      refine lv_iconst (v := iv (1)) hx hb dX2_layOut_64 (by decide) ?_
      refine iw_topi (y := iv (((1 : Nat) : Int))) (congrArg iv (by omega : ((1) : Int) = (((1 : Nat) : Int)))) ?_
      refine ef_callV (As := [.int (iv (((1 : Nat) : Int)))]) (rest := []) ⟨hx, hb, hml, hown, hts⟩ (c_shiftUp l dC dI ht (isW_c (X := A1) (ws := cC cI q (A1) (U1) (b1) (e1) (A2) (U2) (b2) (e2) (A1) (U1 * 2 ^ k)) (k0 := 11) (k1 := 12) (by decide) rfl rfl) (by omega) 1 (by omega)) (cwV 1 hts gX2_layOut_X1_shiftUp rfl rfl rfl (by decide +kernel) ⟨Nat.le_of_ble_eq_true rfl, Nat.le_of_ble_eq_true rfl⟩) hK hNX hP hD hS 11 rfl rfl rfl rfl hl.1 rfl (Nat.le_of_ble_eq_true rfl) dX2_layOut_65 ⟨Nat.zero_le _, Nat.zero_le _⟩ (fun o w1 H locs hq hP hD hS => ?_)
      obtain ⟨rfl, rfl⟩ := hq
      have hP : va_P (dC, dI) vwCl (cC cI q (A1) (U1) (b1) (e1) (A2) (U2) (b2) (e2) (A1 * 2 ^ 1) (U1 * 2 ^ k)) H := hP
      have hD : va_D (ef_A (cC cI q (A1) (U1) (b1) (e1) (A2) (U2) (b2) (e2) (L) (R))) (cC cI q (A1) (U1) (b1) (e1) (A2) (U2) (b2) (e2) (A1 * 2 ^ 1) (U1 * 2 ^ k)) := hD
      refine W.eq (g2 := F0 m 68 ls []) rfl ?_
      have wl2 : wl (A1 * 2 ^ 1) ≤ 301 := by rw [wl_of_bl, bl_shift nL1]; omega
      refine lv_aload_n hx hb dX2_layOut_68 rfl (lv_at hl 1 rfl) ?_
      refine ef_callV (As := []) (rest := []) ⟨hx, hb, hml, hown, hts⟩ (c_rank0 l dC dI ht q hA1 hU1 hA2 hU2 wl2 (by omega)) (cwV 0 hts gX2_layOut_X0_rank rfl rfl rfl (by decide +kernel) ⟨Nat.le_of_ble_eq_true rfl, Nat.le_of_ble_eq_true rfl⟩) hK hNX hP hD hS 1 rfl rfl rfl rfl hl.1 rfl (Nat.le_of_ble_eq_true rfl) dX2_layOut_69 ⟨Nat.zero_le _, Nat.zero_le _⟩ (fun o w1 H locs hq hP hD hS => ?_)
      obtain ⟨rfl, e9⟩ := hq
      rw [e9] at hP hD
      refine W.eq (g2 := F0 m 72 ls [.int (iv ((bl A1 : Int) - (bl U1 : Int) + e1))]) rfl ?_
      refine lv_iconst (v := iv (1)) hx hb dX2_layOut_72 (by decide) ?_
      refine iw_isub hx hb dX2_layOut_73 ?_
      refine iw_topi (y := iv ((k : Int) + e1 - 1)) (congrArg iv (by omega : ((((bl A1 : Int) - (bl U1 : Int) + e1) - (1)) : Int) = ((k : Int) + e1 - 1))) ?_
      exact ef_iret hx hb hr hlocks hP hD hS dX2_layOut_74 (⟨_, _, _, rfl, rfl, by omega, by omega, by
            have q := pw_add (z := (k : Int) + e1 - 1) (by omega) 1
            rw [show (k : Int) + e1 - 1 + ((1 : Nat) : Int) = (k : Int) + e1 by omega] at q
            rw [hrel, q, Nat.mul_right_comm (A1) (2 ^ 1), Nat.mul_comm (pw _) (2 ^ 1), ← Nat.mul_assoc], by omega, by omega, hbr1⟩)
    ·
      have c2 : (U1 * 2 ^ k) ≤ (A1) := by have := (zc_ge _ _).1 c1; omega
      refine lv_aload_n hx hb dX2_layOut_55 rfl (lv_at hl 1 rfl) ?_
      refine ef_callV (As := []) (rest := []) ⟨hx, hb, hml, hown, hts⟩ (c_rank0 l dC dI ht q hA1 hU1 hA2 hU2 (by omega) (by omega)) (cwV 0 hts gX2_layOut_X0_rank rfl rfl rfl (by decide +kernel) ⟨Nat.le_of_ble_eq_true rfl, Nat.le_of_ble_eq_true rfl⟩) hK hNX hP hD hS 1 rfl rfl rfl rfl hl.1 rfl (Nat.le_of_ble_eq_true rfl) dX2_layOut_56 ⟨Nat.zero_le _, Nat.zero_le _⟩ (fun o w1 H locs hq hP hD hS => ?_)
      obtain ⟨rfl, e9⟩ := hq
      rw [e9] at hP hD
      refine W.eq (g2 := F0 m 59 ls [.int (iv ((bl A1 : Int) - (bl U1 : Int) + e1))]) rfl ?_
      refine iw_topi (y := iv ((k : Int) + e1)) (congrArg iv (by omega : (((bl A1 : Int) - (bl U1 : Int) + e1) : Int) = ((k : Int) + e1))) ?_
      exact ef_iret hx hb hr hlocks hP hD hS dX2_layOut_59 (⟨_, _, _, rfl, rfl, c2, by omega, hrel, by omega, by omega, hbr1⟩)

set_option maxRecDepth 100000 in
set_option maxHeartbeats 4000000 in
/-- layOut -/
theorem c_layOut1 (l : Launch) (dC : Nat → ClassId) (dI : Nat → Nat → Nat) {cI : ClassId} {tys : List (ClassId × FieldType)} (ht : tys[0]? = some (cI, .int)) (q : Nat → Nat) {A1 U1 A2 U2 L R : Nat} {b1 e1 b2 e2 : Int} (hA1 : wl A1 ≤ 150) (hU1 : wl U1 ≤ 150) (hA2 : wl A2 ≤ 150) (hU2 : wl U2 ≤ 150) (hL : wl L ≤ 301) (hR : wl R ≤ 301) (bA1 : bl A1 ≤ 4800) (bU1 : bl U1 ≤ 4800) (bA2 : bl A2 ≤ 4800) (bU2 : bl U2 ≤ 4800) (le1 : -12000 ≤ e1) (ge1 : e1 ≤ 12000) (le2 : -12000 ≤ e2) (ge2 : e2 ≤ 12000) (nA : A2 ≠ 0) (nU : U2 ≠ 0) : ef_C l yX2_layOut wsX2_layOut ({ frames := 4, cells := 0, slots := 0, locals := 93 } : Room) [.ref (q 0), .ref (q 2)] (dC, dI) vwCl tys (cC cI q (A1) (U1) (b1) (e1) (A2) (U2) (b2) (e2) (L) (R)) (fun o w1 => ∃ (L2 R2 : Nat) (P : Int), o = some (.int (iv P)) ∧ w1 = cC cI q (A1) (U1) (b1) (e1) (A2) (U2) (b2) (e2) (L2) (R2) ∧ R2 ≤ L2 ∧ L2 < 2 * R2 ∧ A2 * R2 * pw e2 = L2 * U2 * pw P ∧ -17000 ≤ P ∧ P ≤ 17000 ∧ bl R2 ≤ 4800) := by
  refine ef_C.of (cc := cX2_layOut) (maxL := 2) (ret := (some .int)) (by decide) rfl (Nat.le_of_ble_eq_true rfl) ?_
  intro p e s m below meth c ls hx hb hml hr hts hown hlocks hK hNX hP hD hS hl
  have hl : lv_has ls 2 [(0, .ref (q 0)), (1, .ref (q 2))] := hl
  have hown : s.vm.findClass RX2 = some m.cls := hown
  generalize hH : s.heap = H at hP ⊢
  have hS : va_S (ef_A (cC cI q (A1) (U1) (b1) (e1) (A2) (U2) (b2) (e2) (L) (R))) s.heap H [] := by rw [← hH]; exact hS
  generalize ([] : List Loc) = locs at hS ⊢
  have b1A : bl A2 ≠ 0 := fun q => nA (bl_0.1 q)
  have b1U : bl U2 ≠ 0 := fun q => nU (bl_0.1 q)
  have wA9 := wl_of_bl A2
  have wU9 := wl_of_bl U2
  refine lv_aload_n hx hb dX2_layOut_0 rfl (lv_at hl 0 rfl) ?_
  refine va_get (D := (dC, dI)) (ci := 2) (v := .ref (q 11)) (C := RX2) (T := TX2) (N := 4) hx hb hts (by decide +kernel) hown hK hP 0 rfl rfl 2 (by decide) (hts (.fieldLink RX2 22 "ExactFractions" "left" "LExactFractions$Whole;") (by decide +kernel)) (fun _ h9 => h9) rfl dX2_layOut_1 ?_
  refine lv_aload_n hx hb dX2_layOut_4 rfl (lv_at hl 1 rfl) ?_
  refine va_get (D := (dC, dI)) (ci := 0) (v := .ref (q 7)) (C := RX0) (T := TX0) (N := 4) hx hb hts (by decide +kernel) hown hK hP 2 rfl rfl 0 (by decide) (hts (.fieldLink RX2 65 "ExactFractions$Fraction" "above" "LExactFractions$Whole;") (by decide +kernel)) (fun _ h9 => h9) rfl dX2_layOut_5 ?_
  refine ef_callV (As := [.ref (q 7)]) (rest := []) ⟨hx, hb, hml, hown, hts⟩ (c_copy l dC dI ht (isW_c (X := L) (ws := cC cI q (A1) (U1) (b1) (e1) (A2) (U2) (b2) (e2) (L) (R)) (k0 := 11) (k1 := 12) (by decide) rfl rfl) hL (wd_lt _) wd_z (isW_c (X := A2) (ws := cC cI q (A1) (U1) (b1) (e1) (A2) (U2) (b2) (e2) (L) (R)) (k0 := 7) (k1 := 8) (by decide) rfl rfl) (by omega) (apt_c (k0 := 11) (k1 := 12) (j0 := 7) (j1 := 8) rfl)) (cwV 1 hts gX2_layOut_X1_copy rfl rfl rfl (by decide +kernel) ⟨Nat.le_of_ble_eq_true rfl, Nat.le_of_ble_eq_true rfl⟩) hK hNX hP hD hS 11 rfl rfl rfl rfl hl.1 rfl (Nat.le_of_ble_eq_true rfl) dX2_layOut_8 ⟨Nat.zero_le _, Nat.zero_le _⟩ (fun o w1 H locs hq hP hD hS => ?_)
  obtain ⟨rfl, rfl⟩ := hq
  have hP : va_P (dC, dI) vwCl (cC cI q (A1) (U1) (b1) (e1) (A2) (U2) (b2) (e2) (A2) (R)) H := hP
  have hD : va_D (ef_A (cC cI q (A1) (U1) (b1) (e1) (A2) (U2) (b2) (e2) (L) (R))) (cC cI q (A1) (U1) (b1) (e1) (A2) (U2) (b2) (e2) (A2) (R)) := hD
  refine W.eq (g2 := F0 m 11 ls []) rfl ?_
  refine lv_aload_n hx hb dX2_layOut_11 rfl (lv_at hl 0 rfl) ?_
  refine va_get (D := (dC, dI)) (ci := 2) (v := .ref (q 13)) (C := RX2) (T := TX2) (N := 4) hx hb hts (by decide +kernel) hown hK hP 0 rfl rfl 3 (by decide) (hts (.fieldLink RX2 26 "ExactFractions" "right" "LExactFractions$Whole;") (by decide +kernel)) (fun _ h9 => h9) rfl dX2_layOut_12 ?_
  refine lv_aload_n hx hb dX2_layOut_15 rfl (lv_at hl 1 rfl) ?_
  refine va_get (D := (dC, dI)) (ci := 0) (v := .ref (q 9)) (C := RX0) (T := TX0) (N := 4) hx hb hts (by decide +kernel) hown hK hP 2 rfl rfl 1 (by decide) (hts (.fieldLink RX2 103 "ExactFractions$Fraction" "under" "LExactFractions$Whole;") (by decide +kernel)) (fun _ h9 => h9) rfl dX2_layOut_16 ?_
  refine ef_callV (As := [.ref (q 9)]) (rest := []) ⟨hx, hb, hml, hown, hts⟩ (c_copy l dC dI ht (isW_c (X := R) (ws := cC cI q (A1) (U1) (b1) (e1) (A2) (U2) (b2) (e2) (A2) (R)) (k0 := 13) (k1 := 14) (by decide) rfl rfl) hR (wd_lt _) wd_z (isW_c (X := U2) (ws := cC cI q (A1) (U1) (b1) (e1) (A2) (U2) (b2) (e2) (A2) (R)) (k0 := 9) (k1 := 10) (by decide) rfl rfl) (by omega) (apt_c (k0 := 13) (k1 := 14) (j0 := 9) (j1 := 10) rfl)) (cwV 1 hts gX2_layOut_X1_copy rfl rfl rfl (by decide +kernel) ⟨Nat.le_of_ble_eq_true rfl, Nat.le_of_ble_eq_true rfl⟩) hK hNX hP hD hS 13 rfl rfl rfl rfl hl.1 rfl (Nat.le_of_ble_eq_true rfl) dX2_layOut_19 ⟨Nat.zero_le _, Nat.zero_le _⟩ (fun o w1 H locs hq hP hD hS => ?_)
  obtain ⟨rfl, rfl⟩ := hq
  have hP : va_P (dC, dI) vwCl (cC cI q (A1) (U1) (b1) (e1) (A2) (U2) (b2) (e2) (A2) (U2)) H := hP
  have hD : va_D (ef_A (cC cI q (A1) (U1) (b1) (e1) (A2) (U2) (b2) (e2) (L) (R))) (cC cI q (A1) (U1) (b1) (e1) (A2) (U2) (b2) (e2) (A2) (U2)) := hD
  refine W.eq (g2 := F0 m 22 ls []) rfl ?_
  refine lv_aload_n hx hb dX2_layOut_22 rfl (lv_at hl 0 rfl) ?_
  refine lv_aload_n hx hb dX2_layOut_23 rfl (lv_at hl 0 rfl) ?_
  refine va_get (D := (dC, dI)) (ci := 2) (v := .ref (q 11)) (C := RX2) (T := TX2) (N := 4) hx hb hts (by decide +kernel) hown hK hP 0 rfl rfl 2 (by decide) (hts (.fieldLink RX2 22 "ExactFractions" "left" "LExactFractions$Whole;") (by decide +kernel)) (fun _ h9 => h9) rfl dX2_layOut_24 ?_
  refine ef_callV (As := []) (rest := [.ref (q 0)]) ⟨hx, hb, hml, hown, hts⟩ (c_length l dC dI ht (isW_c (X := A2) (ws := cC cI q (A1) (U1) (b1) (e1) (A2) (U2) (b2) (e2) (A2) (U2)) (k0 := 11) (k1 := 12) (by decide) rfl rfl) (by omega)) (cwV 0 hts gX2_layOut_X1_length rfl rfl rfl (by decide +kernel) ⟨Nat.le_of_ble_eq_true rfl, Nat.le_of_ble_eq_true rfl⟩) hK hNX hP hD hS 11 rfl rfl rfl rfl hl.1 rfl (Nat.le_of_ble_eq_true rfl) dX2_layOut_27 ⟨Nat.zero_le _, Nat.zero_le _⟩ (fun o w1 H locs hq hP hD hS => ?_)
  obtain ⟨rfl, e9⟩ := hq
  rw [e9] at hP hD
  refine W.eq (g2 := F0 m 30 ls [.int (iv ((bl A2 : Int))), .ref (q 0)]) rfl ?_
  refine lv_aload_n hx hb dX2_layOut_30 rfl (lv_at hl 0 rfl) ?_
  refine va_get (D := (dC, dI)) (ci := 2) (v := .ref (q 13)) (C := RX2) (T := TX2) (N := 4) hx hb hts (by decide +kernel) hown hK hP 0 rfl rfl 3 (by decide) (hts (.fieldLink RX2 26 "ExactFractions" "right" "LExactFractions$Whole;") (by decide +kernel)) (fun _ h9 => h9) rfl dX2_layOut_31 ?_
  refine ef_callV (As := []) (rest := [.int (iv ((bl A2 : Int))), .ref (q 0)]) ⟨hx, hb, hml, hown, hts⟩ (c_length l dC dI ht (isW_c (X := U2) (ws := cC cI q (A1) (U1) (b1) (e1) (A2) (U2) (b2) (e2) (A2) (U2)) (k0 := 13) (k1 := 14) (by decide) rfl rfl) (by omega)) (cwV 0 hts gX2_layOut_X1_length rfl rfl rfl (by decide +kernel) ⟨Nat.le_of_ble_eq_true rfl, Nat.le_of_ble_eq_true rfl⟩) hK hNX hP hD hS 13 rfl rfl rfl rfl hl.1 rfl (Nat.le_of_ble_eq_true rfl) dX2_layOut_34 ⟨Nat.zero_le _, Nat.zero_le _⟩ (fun o w1 H locs hq hP hD hS => ?_)
  obtain ⟨rfl, e9⟩ := hq
  rw [e9] at hP hD
  refine W.eq (g2 := F0 m 37 ls [.int (iv ((bl U2 : Int))), .int (iv ((bl A2 : Int))), .ref (q 0)]) rfl ?_
  refine iw_isub hx hb dX2_layOut_37 ?_
  obtain ⟨gp, hgp⟩ : ∃ z, z = (bl A2 : Int) - (bl U2 : Int) := ⟨_, rfl⟩
  refine iw_topi (y := iv (gp)) (congrArg iv (by omega : ((((bl A2 : Int)) - ((bl U2 : Int))) : Int) = (gp))) ?_
  rcases Int.lt_or_le gp 0 with hg | hg
  ·
    obtain ⟨k, hk⟩ : ∃ k : Nat, gp = -(k : Int) := ⟨(-gp).toNat, by omega⟩
    subst hk
    refine ef_callV (As := [.int (iv (-(k : Int)))]) (rest := []) ⟨hx, hb, hml, hown, hts⟩ (c_alignN l dC dI ht q hA1 hU1 hA2 hU2 (by omega) (by omega) k (by omega) (by omega)) (cwV 1 hts gX2_layOut_X2_alignTops rfl rfl rfl (by decide +kernel) ⟨Nat.le_of_ble_eq_true rfl, Nat.le_of_ble_eq_true rfl⟩) hK hNX hP hD hS 0 rfl rfl rfl rfl hl.1 rfl (Nat.le_of_ble_eq_true rfl) dX2_layOut_38 ⟨Nat.zero_le _, Nat.zero_le _⟩ (fun o w1 H locs hq hP hD hS => ?_)
    obtain ⟨rfl, rfl⟩ := hq
    have hP : va_P (dC, dI) vwCl (cC cI q (A1) (U1) (b1) (e1) (A2) (U2) (b2) (e2) (A2 * 2 ^ k) (U2)) H := hP
    have hD : va_D (ef_A (cC cI q (A1) (U1) (b1) (e1) (A2) (U2) (b2) (e2) (L) (R))) (cC cI q (A1) (U1) (b1) (e1) (A2) (U2) (b2) (e2) (A2 * 2 ^ k) (U2)) := hD
    refine W.eq (g2 := F0 m 41 ls []) rfl ?_
    have hbs : bl (A2 * 2 ^ k) = bl (U2) := by rw [bl_shift nA]; omega
    have hrel : A2 * (U2) * pw e2 = (A2 * 2 ^ k) * U2 * pw (-(k : Int) + e2) := by
      have q := pw_add (z := -(k : Int) + e2) (by omega) k
      rw [show -(k : Int) + e2 + (k : Int) = e2 by omega] at q
      rw [q, Nat.mul_right_comm A2 (2 ^ k), Nat.mul_comm (pw _) (2 ^ k), ← Nat.mul_assoc]
    have nL1 : A2 * 2 ^ k ≠ 0 := Nat.mul_ne_zero nA (Nat.ne_of_gt (Nat.pow_pos (by decide)))
    have nR1 : U2 ≠ 0 := nU
    have hbl1 : bl (A2 * 2 ^ k) ≤ 4800 := by omega
    have hbr1 : bl (U2) ≤ 4800 := by omega
    have wl1 := wl_of_bl (A2 * 2 ^ k)
    have wr1 := wl_of_bl (U2)
    have hs1 := bl_same nL1 hbs
    have hs2 := bl_same nR1 hbs.symm
    refine lv_aload_n hx hb dX2_layOut_41 rfl (lv_at hl 0 rfl) ?_
    refine va_get (D := (dC, dI)) (ci := 2) (v := .ref (q 11)) (C := RX2) (T := TX2) (N := 4) hx hb hts (by decide +kernel) hown hK hP 0 rfl rfl 2 (by decide) (hts (.fieldLink RX2 22 "ExactFractions" "left" "LExactFractions$Whole;") (by decide +kernel)) (fun _ h9 => h9) rfl dX2_layOut_42 ?_
    refine lv_aload_n hx hb dX2_layOut_45 rfl (lv_at hl 0 rfl) ?_
    refine va_get (D := (dC, dI)) (ci := 2) (v := .ref (q 13)) (C := RX2) (T := TX2) (N := 4) hx hb hts (by decide +kernel) hown hK hP 0 rfl rfl 3 (by decide) (hts (.fieldLink RX2 26 "ExactFractions" "right" "LExactFractions$Whole;") (by decide +kernel)) (fun _ h9 => h9) rfl dX2_layOut_46 ?_
    refine ef_callV (As := [.ref (q 13)]) (rest := []) ⟨hx, hb, hml, hown, hts⟩ (c_order l dC dI ht (isW_c (X := A2 * 2 ^ k) (ws := cC cI q (A1) (U1) (b1) (e1) (A2) (U2) (b2) (e2) (A2 * 2 ^ k) (U2)) (k0 := 11) (k1 := 12) (by decide) rfl rfl) (by omega) (isW_c (X := U2) (ws := cC cI q (A1) (U1) (b1) (e1) (A2) (U2) (b2) (e2) (A2 * 2 ^ k) (U2)) (k0 := 13) (k1 := 14) (by decide) rfl rfl) (by omega)) (cwV 1 hts gX2_layOut_X1_order rfl rfl rfl (by decide +kernel) ⟨Nat.le_of_ble_eq_true rfl, Nat.le_of_ble_eq_true rfl⟩) hK hNX hP hD hS 11 rfl rfl rfl rfl hl.1 rfl (Nat.le_of_ble_eq_true rfl) dX2_layOut_49 ⟨Nat.zero_le _, Nat.zero_le _⟩ (fun o w1 H locs hq hP hD hS => ?_)
    obtain ⟨rfl, e9⟩ := hq
    rw [e9] at hP hD
    refine W.eq (g2 := F0 m 52 ls [.int (iv (zc ((A2 * 2 ^ k : Nat) : Int) ((U2 : Nat) : Int)))]) rfl ?_
    refine iw_if_lt (tgt := 60) hx hb dX2_layOut_52 (by decide) (ir_zc _ _) (fun c1 => ?_) (fun c1 => ?_)
    ·
      have c2 : (A2 * 2 ^ k) < (U2) := by
        rcases Nat.lt_or_ge (A2 * 2 ^ k) (U2) with q | q
        · exact q
        · exact absurd ((zc_ge _ _).2 (Int.ofNat_le.mpr q)) (by omega)
      refine lv_aload_n hx hb dX2_layOut_60 rfl (lv_at hl 0 rfl) ?_
      refine va_get (D := (dC, dI)) (ci := 2) (v := .ref (q 11)) (C := RX2) (T := TX2) (N := 4) hx hb hts (by decide +kernel) hown hK hP 0 rfl rfl 2 (by decide) (hts (.fieldLink RX2 22 "ExactFractions" "left" "LExactFractions$Whole;") (by decide +kernel)) (fun _ h9 => h9) rfl dX2_layOut_61 ?_
      refine lv_iconst (v := iv (1)) hx hb dX2_layOut_64 (by decide) ?_
      refine iw_topi (y := iv (((1 : Nat) : Int))) (congrArg iv (by omega : ((1) : Int) = (((1 : Nat) : Int)))) ?_
      refine ef_callV (As := [.int (iv (((1 : Nat) : Int)))]) (rest := []) ⟨hx, hb, hml, hown, hts⟩ (c_shiftUp l dC dI ht (isW_c (X := A2 * 2 ^ k) (ws := cC cI q (A1) (U1) (b1) (e1) (A2) (U2) (b2) (e2) (A2 * 2 ^ k) (U2)) (k0 := 11) (k1 := 12) (by decide) rfl rfl) (by omega) 1 (by omega)) (cwV 1 hts gX2_layOut_X1_shiftUp rfl rfl rfl (by decide +kernel) ⟨Nat.le_of_ble_eq_true rfl, Nat.le_of_ble_eq_true rfl⟩) hK hNX hP hD hS 11 rfl rfl rfl rfl hl.1 rfl (Nat.le_of_ble_eq_true rfl) dX2_layOut_65 ⟨Nat.zero_le _, Nat.zero_le _⟩ (fun o w1 H locs hq hP hD hS => ?_)
      obtain ⟨rfl, rfl⟩ := hq
      have hP : va_P (dC, dI) vwCl (cC cI q (A1) (U1) (b1) (e1) (A2) (U2) (b2) (e2) (A2 * 2 ^ k * 2 ^ 1) (U2)) H := hP
      have hD : va_D (ef_A (cC cI q (A1) (U1) (b1) (e1) (A2) (U2) (b2) (e2) (L) (R))) (cC cI q (A1) (U1) (b1) (e1) (A2) (U2) (b2) (e2) (A2 * 2 ^ k * 2 ^ 1) (U2)) := hD
      refine W.eq (g2 := F0 m 68 ls []) rfl ?_
      have wl2 : wl (A2 * 2 ^ k * 2 ^ 1) ≤ 301 := by rw [wl_of_bl, bl_shift nL1]; omega
      refine lv_aload_n hx hb dX2_layOut_68 rfl (lv_at hl 1 rfl) ?_
      refine ef_callV (As := []) (rest := []) ⟨hx, hb, hml, hown, hts⟩ (c_rank1 l dC dI ht q hA1 hU1 hA2 hU2 wl2 (by omega)) (cwV 0 hts gX2_layOut_X0_rank rfl rfl rfl (by decide +kernel) ⟨Nat.le_of_ble_eq_true rfl, Nat.le_of_ble_eq_true rfl⟩) hK hNX hP hD hS 2 rfl rfl rfl rfl hl.1 rfl (Nat.le_of_ble_eq_true rfl) dX2_layOut_69 ⟨Nat.zero_le _, Nat.zero_le _⟩ (fun o w1 H locs hq hP hD hS => ?_)
      obtain ⟨rfl, e9⟩ := hq
      rw [e9] at hP hD
      refine W.eq (g2 := F0 m 72 ls [.int (iv ((bl A2 : Int) - (bl U2 : Int) + e2))]) rfl ?_
      refine lv_iconst (v := iv (1)) hx hb dX2_layOut_72 (by decide) ?_
      refine iw_isub hx hb dX2_layOut_73 ?_
      refine iw_topi (y := iv (-(k : Int) + e2 - 1)) (congrArg iv (by omega : ((((bl A2 : Int) - (bl U2 : Int) + e2) - (1)) : Int) = (-(k : Int) + e2 - 1))) ?_
      exact ef_iret hx hb hr hlocks hP hD hS dX2_layOut_74 (⟨_, _, _, rfl, rfl, by omega, by omega, by
            have q := pw_add (z := -(k : Int) + e2 - 1) (by omega) 1
            rw [show -(k : Int) + e2 - 1 + ((1 : Nat) : Int) = -(k : Int) + e2 by omega] at q
            rw [hrel, q, Nat.mul_right_comm (A2 * 2 ^ k) (2 ^ 1), Nat.mul_comm (pw _) (2 ^ 1), ← Nat.mul_assoc], by omega, by omega, hbr1⟩)
    ·
      have c2 : (U2) ≤ (A2 * 2 ^ k) := by have := (zc_ge _ _).1 c1; omega
      refine lv_aload_n hx hb dX2_layOut_55 rfl (lv_at hl 1 rfl) ?_
      refine ef_callV (As := []) (rest := []) ⟨hx, hb, hml, hown, hts⟩ (c_rank1 l dC dI ht q hA1 hU1 hA2 hU2 (by omega) (by omega)) (cwV 0 hts gX2_layOut_X0_rank rfl rfl rfl (by decide +kernel) ⟨Nat.le_of_ble_eq_true rfl, Nat.le_of_ble_eq_true rfl⟩) hK hNX hP hD hS 2 rfl rfl rfl rfl hl.1 rfl (Nat.le_of_ble_eq_true rfl) dX2_layOut_56 ⟨Nat.zero_le _, Nat.zero_le _⟩ (fun o w1 H locs hq hP hD hS => ?_)
      obtain ⟨rfl, e9⟩ := hq
      rw [e9] at hP hD
      refine W.eq (g2 := F0 m 59 ls [.int (iv ((bl A2 : Int) - (bl U2 : Int) + e2))]) rfl ?_
      refine iw_topi (y := iv (-(k : Int) + e2)) (congrArg iv (by omega : (((bl A2 : Int) - (bl U2 : Int) + e2) : Int) = (-(k : Int) + e2))) ?_
      exact ef_iret hx hb hr hlocks hP hD hS dX2_layOut_59 (⟨_, _, _, rfl, rfl, c2, by omega, hrel, by omega, by omega, hbr1⟩)
  ·
    obtain ⟨k, hk⟩ : ∃ k : Nat, gp = (k : Int) := ⟨gp.toNat, by omega⟩
    subst hk
    refine ef_callV (As := [.int (iv ((k : Int)))]) (rest := []) ⟨hx, hb, hml, hown, hts⟩ (c_alignP l dC dI ht q hA1 hU1 hA2 hU2 (by omega) (by omega) k (by omega)) (cwV 1 hts gX2_layOut_X2_alignTops rfl rfl rfl (by decide +kernel) ⟨Nat.le_of_ble_eq_true rfl, Nat.le_of_ble_eq_true rfl⟩) hK hNX hP hD hS 0 rfl rfl rfl rfl hl.1 rfl (Nat.le_of_ble_eq_true rfl) dX2_layOut_38 ⟨Nat.zero_le _, Nat.zero_le _⟩ (fun o w1 H locs hq hP hD hS => ?_)
    obtain ⟨rfl, rfl⟩ := hq
    have hP : va_P (dC, dI) vwCl (cC cI q (A1) (U1) (b1) (e1) (A2) (U2) (b2) (e2) (A2) (U2 * 2 ^ k)) H := hP
    have hD : va_D (ef_A (cC cI q (A1) (U1) (b1) (e1) (A2) (U2) (b2) (e2) (L) (R))) (cC cI q (A1) (U1) (b1) (e1) (A2) (U2) (b2) (e2) (A2) (U2 * 2 ^ k)) := hD
    refine W.eq (g2 := F0 m 41 ls []) rfl ?_
    have hbs : bl (A2) = bl (U2 * 2 ^ k) := by rw [bl_shift nU]; omega
    have hrel : A2 * (U2 * 2 ^ k) * pw e2 = (A2) * U2 * pw ((k : Int) + e2) := by
      rw [show (k : Int) + e2 = e2 + (k : Int) by omega, pw_add (by omega), ← Nat.mul_assoc, Nat.mul_assoc (A2 * U2), Nat.mul_comm (2 ^ k), ← Nat.mul_assoc]
    have nL1 : A2 ≠ 0 := nA
    have nR1 : U2 * 2 ^ k ≠ 0 := Nat.mul_ne_zero nU (Nat.ne_of_gt (Nat.pow_pos (by decide)))
    have hbl1 : bl (A2) ≤ 4800 := by omega
    have hbr1 : bl (U2 * 2 ^ k) ≤ 4800 := by omega
    have wl1 := wl_of_bl (A2)
    have wr1 := wl_of_bl (U2 * 2 ^ k)
    have hs1 := bl_same nL1 hbs
    have hs2 := bl_same nR1 hbs.symm
    refine lv_aload_n hx hb dX2_layOut_41 rfl (lv_at hl 0 rfl) ?_
    refine va_get (D := (dC, dI)) (ci := 2) (v := .ref (q 11)) (C := RX2) (T := TX2) (N := 4) hx hb hts (by decide +kernel) hown hK hP 0 rfl rfl 2 (by decide) (hts (.fieldLink RX2 22 "ExactFractions" "left" "LExactFractions$Whole;") (by decide +kernel)) (fun _ h9 => h9) rfl dX2_layOut_42 ?_
    refine lv_aload_n hx hb dX2_layOut_45 rfl (lv_at hl 0 rfl) ?_
    refine va_get (D := (dC, dI)) (ci := 2) (v := .ref (q 13)) (C := RX2) (T := TX2) (N := 4) hx hb hts (by decide +kernel) hown hK hP 0 rfl rfl 3 (by decide) (hts (.fieldLink RX2 26 "ExactFractions" "right" "LExactFractions$Whole;") (by decide +kernel)) (fun _ h9 => h9) rfl dX2_layOut_46 ?_
    refine ef_callV (As := [.ref (q 13)]) (rest := []) ⟨hx, hb, hml, hown, hts⟩ (c_order l dC dI ht (isW_c (X := A2) (ws := cC cI q (A1) (U1) (b1) (e1) (A2) (U2) (b2) (e2) (A2) (U2 * 2 ^ k)) (k0 := 11) (k1 := 12) (by decide) rfl rfl) (by omega) (isW_c (X := U2 * 2 ^ k) (ws := cC cI q (A1) (U1) (b1) (e1) (A2) (U2) (b2) (e2) (A2) (U2 * 2 ^ k)) (k0 := 13) (k1 := 14) (by decide) rfl rfl) (by omega)) (cwV 1 hts gX2_layOut_X1_order rfl rfl rfl (by decide +kernel) ⟨Nat.le_of_ble_eq_true rfl, Nat.le_of_ble_eq_true rfl⟩) hK hNX hP hD hS 11 rfl rfl rfl rfl hl.1 rfl (Nat.le_of_ble_eq_true rfl) dX2_layOut_49 ⟨Nat.zero_le _, Nat.zero_le _⟩ (fun o w1 H locs hq hP hD hS => ?_)
    obtain ⟨rfl, e9⟩ := hq
    rw [e9] at hP hD
    refine W.eq (g2 := F0 m 52 ls [.int (iv (zc ((A2 : Nat) : Int) ((U2 * 2 ^ k : Nat) : Int)))]) rfl ?_
    refine iw_if_lt (tgt := 60) hx hb dX2_layOut_52 (by decide) (ir_zc _ _) (fun c1 => ?_) (fun c1 => ?_)
    ·
      have c2 : (A2) < (U2 * 2 ^ k) := by
        rcases Nat.lt_or_ge (A2) (U2 * 2 ^ k) with q | q
        · exact q
        · exact absurd ((zc_ge _ _).2 (Int.ofNat_le.mpr q)) (by omega)
      refine lv_aload_n hx hb dX2_layOut_60 rfl (lv_at hl 0 rfl) ?_
      refine va_get (D := (dC, dI)) (ci := 2) (v := .ref (q 11)) (C := RX2) (T := TX2) (N := 4) hx hb hts (by decide +kernel) hown hK hP 0 rfl rfl 2 (by decide) (hts (.fieldLink RX2 22 "ExactFractions" "left" "LExactFractions$Whole;") (by decide +kernel)) (fun _ h9 => h9) rfl dX2_layOut_61 ?_
      refine lv_iconst (v := iv (1)) hx hb dX2_layOut_64 (by decide) ?_
      refine iw_topi (y := iv (((1 : Nat) : Int))) (congrArg iv (by omega : ((1) : Int) = (((1 : Nat) : Int)))) ?_
      refine ef_callV (As := [.int (iv (((1 : Nat) : Int)))]) (rest := []) ⟨hx, hb, hml, hown, hts⟩ (c_shiftUp l dC dI ht (isW_c (X := A2) (ws := cC cI q (A1) (U1) (b1) (e1) (A2) (U2) (b2) (e2) (A2) (U2 * 2 ^ k)) (k0 := 11) (k1 := 12) (by decide) rfl rfl) (by omega) 1 (by omega)) (cwV 1 hts gX2_layOut_X1_shiftUp rfl rfl rfl (by decide +kernel) ⟨Nat.le_of_ble_eq_true rfl, Nat.le_of_ble_eq_true rfl⟩) hK hNX hP hD hS 11 rfl rfl rfl rfl hl.1 rfl (Nat.le_of_ble_eq_true rfl) dX2_layOut_65 ⟨Nat.zero_le _, Nat.zero_le _⟩ (fun o w1 H locs hq hP hD hS => ?_)
      obtain ⟨rfl, rfl⟩ := hq
      have hP : va_P (dC, dI) vwCl (cC cI q (A1) (U1) (b1) (e1) (A2) (U2) (b2) (e2) (A2 * 2 ^ 1) (U2 * 2 ^ k)) H := hP
      have hD : va_D (ef_A (cC cI q (A1) (U1) (b1) (e1) (A2) (U2) (b2) (e2) (L) (R))) (cC cI q (A1) (U1) (b1) (e1) (A2) (U2) (b2) (e2) (A2 * 2 ^ 1) (U2 * 2 ^ k)) := hD
      refine W.eq (g2 := F0 m 68 ls []) rfl ?_
      have wl2 : wl (A2 * 2 ^ 1) ≤ 301 := by rw [wl_of_bl, bl_shift nL1]; omega
      refine lv_aload_n hx hb dX2_layOut_68 rfl (lv_at hl 1 rfl) ?_
      refine ef_callV (As := []) (rest := []) ⟨hx, hb, hml, hown, hts⟩ (c_rank1 l dC dI ht q hA1 hU1 hA2 hU2 wl2 (by omega)) (cwV 0 hts gX2_layOut_X0_rank rfl rfl rfl (by decide +kernel) ⟨Nat.le_of_ble_eq_true rfl, Nat.le_of_ble_eq_true rfl⟩) hK hNX hP hD hS 2 rfl rfl rfl rfl hl.1 rfl (Nat.le_of_ble_eq_true rfl) dX2_layOut_69 ⟨Nat.zero_le _, Nat.zero_le _⟩ (fun o w1 H locs hq hP hD hS => ?_)
      obtain ⟨rfl, e9⟩ := hq
      rw [e9] at hP hD
      refine W.eq (g2 := F0 m 72 ls [.int (iv ((bl A2 : Int) - (bl U2 : Int) + e2))]) rfl ?_
      refine lv_iconst (v := iv (1)) hx hb dX2_layOut_72 (by decide) ?_
      refine iw_isub hx hb dX2_layOut_73 ?_
      refine iw_topi (y := iv ((k : Int) + e2 - 1)) (congrArg iv (by omega : ((((bl A2 : Int) - (bl U2 : Int) + e2) - (1)) : Int) = ((k : Int) + e2 - 1))) ?_
      exact ef_iret hx hb hr hlocks hP hD hS dX2_layOut_74 (⟨_, _, _, rfl, rfl, by omega, by omega, by
            have q := pw_add (z := (k : Int) + e2 - 1) (by omega) 1
            rw [show (k : Int) + e2 - 1 + ((1 : Nat) : Int) = (k : Int) + e2 by omega] at q
            rw [hrel, q, Nat.mul_right_comm (A2) (2 ^ 1), Nat.mul_comm (pw _) (2 ^ 1), ← Nat.mul_assoc], by omega, by omega, hbr1⟩)
    ·
      have c2 : (U2 * 2 ^ k) ≤ (A2) := by have := (zc_ge _ _).1 c1; omega
      refine lv_aload_n hx hb dX2_layOut_55 rfl (lv_at hl 1 rfl) ?_
      refine ef_callV (As := []) (rest := []) ⟨hx, hb, hml, hown, hts⟩ (c_rank1 l dC dI ht q hA1 hU1 hA2 hU2 (by omega) (by omega)) (cwV 0 hts gX2_layOut_X0_rank rfl rfl rfl (by decide +kernel) ⟨Nat.le_of_ble_eq_true rfl, Nat.le_of_ble_eq_true rfl⟩) hK hNX hP hD hS 2 rfl rfl rfl rfl hl.1 rfl (Nat.le_of_ble_eq_true rfl) dX2_layOut_56 ⟨Nat.zero_le _, Nat.zero_le _⟩ (fun o w1 H locs hq hP hD hS => ?_)
      obtain ⟨rfl, e9⟩ := hq
      rw [e9] at hP hD
      refine W.eq (g2 := F0 m 59 ls [.int (iv ((bl A2 : Int) - (bl U2 : Int) + e2))]) rfl ?_
      refine iw_topi (y := iv ((k : Int) + e2)) (congrArg iv (by omega : (((bl A2 : Int) - (bl U2 : Int) + e2) : Int) = ((k : Int) + e2))) ?_
      exact ef_iret hx hb hr hlocks hP hD hS dX2_layOut_59 (⟨_, _, _, rfl, rfl, c2, by omega, hrel, by omega, by omega, hbr1⟩)

set_option maxRecDepth 100000 in
set_option maxHeartbeats 4000000 in
/-- quotient -/
theorem c_quotient (l : Launch) (dC : Nat → ClassId) (dI : Nat → Nat → Nat) {cI : ClassId} {tys : List (ClassId × FieldType)} (ht : tys[0]? = some (cI, .int)) (q : Nat → Nat) {A1 U1 A2 U2 L R : Nat} {b1 e1 b2 e2 : Int} (hA1 : wl A1 ≤ 150) (hU1 : wl U1 ≤ 150) (hA2 : wl A2 ≤ 150) (hU2 : wl U2 ≤ 150) (hL : wl L ≤ 301) (hR : wl R ≤ 301) (d : Nat) (hd : d ≤ 53) (hLR : L < 2 * R) (bR : bl R ≤ 4800) : ef_C l yX2_quotient wsX2_quotient ({ frames := 3, cells := 0, slots := 0, locals := 72 } : Room) [.ref (q 0), .int (iv ((d : Int)))] (dC, dI) vwCl tys (cC cI q (A1) (U1) (b1) (e1) (A2) (U2) (b2) (e2) (L) (R)) (fun o w1 => ∃ (f X : Nat), o = some (.long (jv (f : Int))) ∧ w1 = cC cI q (A1) (U1) (b1) (e1) (A2) (U2) (b2) (e2) (X) (R) ∧ X + 2 * (f * R) = L * 2 ^ d ∧ X < 2 * R ∧ f < 2 ^ d) := by
  refine ef_C.of (cc := cX2_quotient) (maxL := 5) (ret := (some .long)) (by decide) rfl (Nat.le_of_ble_eq_true rfl) ?_
  intro p e s m below meth c ls hx hb hml hr hts hown hlocks hK hNX hP hD hS hl
  have hl : lv_has ls 5 [(0, .ref (q 0)), (1, .int (iv ((d : Int))))] := hl
  have hown : s.vm.findClass RX2 = some m.cls := hown
  generalize hH : s.heap = H at hP ⊢
  have hS : va_S (ef_A (cC cI q (A1) (U1) (b1) (e1) (A2) (U2) (b2) (e2) (L) (R))) s.heap H [] := by rw [← hH]; exact hS
  generalize ([] : List Loc) = locs at hS ⊢
  have wR9 := wl_of_bl R
  have hR2 : ∀ X, X < 2 * R → wl X ≤ 152 := fun X q => by
    have h1 := wl_mono (Nat.le_of_lt q)
    have h2 := wl_add (k := 151) (Y := R) (Z := R) (by omega) (by omega)
    rw [show R + R = 2 * R by omega] at h2
    omega
  refine lv_lconst (v := jv (0)) hx hb dX2_quotient_0 (by decide) ?_
  refine lv_lstore_n (lv' := [(2, .long (jv (0))), (0, .ref (q 0)), (1, .int (iv ((d : Int))))]) hx hb dX2_quotient_1 rfl hl (by decide) rfl (fun ls hl => ?_)
  refine lv_iconst (v := iv (0)) hx hb dX2_quotient_2 (by decide) ?_
  refine lv_istore (lv' := [(4, .int (iv (0))), (2, .long (jv (0))), (0, .ref (q 0)), (1, .int (iv ((d : Int))))]) hx hb dX2_quotient_3 hl (by decide) rfl (fun ls hl => ?_)
  have loop : ∀ (fuel : Nat) (i : Nat) (f : Nat) (X : Nat), (i ≤ d) → (X + 2 * (f * R) = L * 2 ^ i) → (X < 2 * R) → (f < 2 ^ i) → (d < i + fuel) → ∀ (H : Heap) (locs : List Loc) (ls : Array Slot), va_P (dC, dI) vwCl (cC cI q (A1) (U1) (b1) (e1) (A2) (U2) (b2) (e2) (X) (R)) H → va_D (ef_A (cC cI q (A1) (U1) (b1) (e1) (A2) (U2) (b2) (e2) (L) (R))) (cC cI q (A1) (U1) (b1) (e1) (A2) (U2) (b2) (e2) (X) (R)) → va_S (ef_A (cC cI q (A1) (U1) (b1) (e1) (A2) (U2) (b2) (e2) (L) (R))) s.heap H locs → lv_has ls 5 [(0, .ref (q 0)), (1, .int (iv ((d : Int)))), (2, .long (jv ((f : Int)))), (4, .int (iv ((i : Int))))] → W p l e ({ frames := 3, cells := 0, slots := 0, locals := 72 } : Room) s m ([.ref (q 0), .int (iv ((d : Int)))] : List Value).toArray below meth c H locs 0 0 (ef_R below (dC, dI) vwCl (cC cI q (A1) (U1) (b1) (e1) (A2) (U2) (b2) (e2) (L) (R)) (fun o w1 => ∃ (f X : Nat), o = some (.long (jv (f : Int))) ∧ w1 = cC cI q (A1) (U1) (b1) (e1) (A2) (U2) (b2) (e2) (X) (R) ∧ X + 2 * (f * R) = L * 2 ^ d ∧ X < 2 * R ∧ f < 2 ^ d) [.ref (q 0), .int (iv ((d : Int)))] s) (F0 m 5 ls []) := by
    intro fuel
    induction fuel with
    | zero => intro i f X h1 h2 h3 h4 h5; exfalso; omega
    | succ fuel ih =>
      intro i f X h1 h2 h3 h4 h5 H locs ls hP hD hS hl
      have hwX := hR2 X h3
      refine lv_iload hx hb dX2_quotient_5 (lv_at hl 3 rfl) ?_
      refine lv_iload_n hx hb dX2_quotient_7 rfl (lv_at hl 1 rfl) ?_
      refine iw_icmp_ge (tgt := 62) hx hb dX2_quotient_8 (by decide) ⟨by omega, by omega⟩ ⟨by omega, by omega⟩ (fun c1 => ?_) (fun c1 => ?_)
      ·
        have hi : i = d := by omega
        subst hi
        refine lv_lload_n hx hb dX2_quotient_62 rfl (lv_at hl 2 rfl) ?_
        exact ef_lret hx hb hr hlocks hP hD hS dX2_quotient_63 (⟨_, _, rfl, rfl, h2, h3, h4⟩)
      ·
        have h2i : 2 ^ i ≤ 2 ^ 52 := Nat.pow_le_pow_right (by decide) (by omega)
        have h53 : (2 : Nat) ^ 52 = 4503599627370496 := rfl
        refine lv_lload_n hx hb dX2_quotient_11 rfl (lv_at hl 2 rfl) ?_
        refine lv_iconst (v := iv (1)) hx hb dX2_quotient_12 (by decide) ?_
        refine iw_topi (y := iv (((1 : Nat) : Int))) (congrArg iv (by omega : ((1) : Int) = (((1 : Nat) : Int)))) ?_
        refine iw_lshlk (w := f) (k := 1) hx hb (by decide) dX2_quotient_13 ?_
        refine iw_topl (y := jv (((f * 2 : Nat) : Int))) (congrArg jv (by rfl : ((((f * 2 ^ 1 : Nat) : Int)) : Int) = (((f * 2 : Nat) : Int)))) ?_
        refine lv_lstore_n (lv' := [(2, .long (jv (((f * 2 : Nat) : Int)))), (0, .ref (q 0)), (1, .int (iv ((d : Int)))), (4, .int (iv ((i : Int))))]) hx hb dX2_quotient_14 rfl hl (by decide) rfl (fun ls hl => ?_)
        refine lv_aload_n hx hb dX2_quotient_15 rfl (lv_at hl 1 rfl) ?_
        refine va_get (D := (dC, dI)) (ci := 2) (v := .ref (q 11)) (C := RX2) (T := TX2) (N := 4) hx hb hts (by decide +kernel) hown hK hP 0 rfl rfl 2 (by decide) (hts (.fieldLink RX2 22 "ExactFractions" "left" "LExactFractions$Whole;") (by decide +kernel)) (fun _ h9 => h9) rfl dX2_quotient_16 ?_
        refine lv_aload_n hx hb dX2_quotient_19 rfl (lv_at hl 1 rfl) ?_
        refine va_get (D := (dC, dI)) (ci := 2) (v := .ref (q 13)) (C := RX2) (T := TX2) (N := 4) hx hb hts (by decide +kernel) hown hK hP 0 rfl rfl 3 (by decide) (hts (.fieldLink RX2 26 "ExactFractions" "right" "LExactFractions$Whole;") (by decide +kernel)) (fun _ h9 => h9) rfl dX2_quotient_20 ?_
        refine ef_callV (As := [.ref (q 13)]) (rest := []) ⟨hx, hb, hml, hown, hts⟩ (c_order l dC dI ht (isW_c (X := X) (ws := cC cI q (A1) (U1) (b1) (e1) (A2) (U2) (b2) (e2) (X) (R)) (k0 := 11) (k1 := 12) (by decide) rfl rfl) (by omega) (isW_c (X := R) (ws := cC cI q (A1) (U1) (b1) (e1) (A2) (U2) (b2) (e2) (X) (R)) (k0 := 13) (k1 := 14) (by decide) rfl rfl) (by omega)) (cwV 1 hts gX2_quotient_X1_order rfl rfl rfl (by decide +kernel) ⟨Nat.le_of_ble_eq_true rfl, Nat.le_of_ble_eq_true rfl⟩) hK hNX hP hD hS 11 rfl rfl rfl rfl hl.1 rfl (Nat.le_of_ble_eq_true rfl) dX2_quotient_23 ⟨Nat.zero_le _, Nat.zero_le _⟩ (fun o w1 H locs hq hP hD hS => ?_)
        obtain ⟨rfl, e9⟩ := hq
        rw [e9] at hP hD
        refine W.eq (g2 := F0 m 26 ls [.int (iv (zc (X : Int) (R : Int)))]) rfl ?_
        refine iw_if_lt (tgt := 48) hx hb dX2_quotient_26 (by decide) (ir_zc _ _) (fun c2 => ?_) (fun c2 => ?_)
        ·
          have c3 : X < R := by
            rcases Nat.lt_or_ge X R with q | q
            · exact q
            · exact absurd ((zc_ge _ _).2 (Int.ofNat_le.mpr q)) (by omega)
          have hwX2 : wl (X) ≤ 151 := Nat.le_trans (wl_mono (by omega : X ≤ R)) (by omega)
          refine lv_aload_n hx hb dX2_quotient_48 rfl (lv_at hl 1 rfl) ?_
          refine va_get (D := (dC, dI)) (ci := 2) (v := .ref (q 11)) (C := RX2) (T := TX2) (N := 4) hx hb hts (by decide +kernel) hown hK hP 0 rfl rfl 2 (by decide) (hts (.fieldLink RX2 22 "ExactFractions" "left" "LExactFractions$Whole;") (by decide +kernel)) (fun _ h9 => h9) rfl dX2_quotient_49 ?_
          refine lv_iconst (v := iv (1)) hx hb dX2_quotient_52 (by decide) ?_
          refine iw_topi (y := iv (((1 : Nat) : Int))) (congrArg iv (by omega : ((1) : Int) = (((1 : Nat) : Int)))) ?_
          refine ef_callV (As := [.int (iv (((1 : Nat) : Int)))]) (rest := []) ⟨hx, hb, hml, hown, hts⟩ (c_shiftUp l dC dI ht (isW_c (X := X) (ws := cC cI q (A1) (U1) (b1) (e1) (A2) (U2) (b2) (e2) (X) (R)) (k0 := 11) (k1 := 12) (by decide) rfl rfl) (by omega) 1 (by omega)) (cwV 1 hts gX2_quotient_X1_shiftUp rfl rfl rfl (by decide +kernel) ⟨Nat.le_of_ble_eq_true rfl, Nat.le_of_ble_eq_true rfl⟩) hK hNX hP hD hS 11 rfl rfl rfl rfl hl.1 rfl (Nat.le_of_ble_eq_true rfl) dX2_quotient_53 ⟨Nat.zero_le _, Nat.zero_le _⟩ (fun o w1 H locs hq hP hD hS => ?_)
          obtain ⟨rfl, rfl⟩ := hq
          have hP : va_P (dC, dI) vwCl (cC cI q (A1) (U1) (b1) (e1) (A2) (U2) (b2) (e2) ((X) * 2 ^ 1) (R)) H := hP
          have hD : va_D (ef_A (cC cI q (A1) (U1) (b1) (e1) (A2) (U2) (b2) (e2) (L) (R))) (cC cI q (A1) (U1) (b1) (e1) (A2) (U2) (b2) (e2) ((X) * 2 ^ 1) (R)) := hD
          refine W.eq (g2 := F0 m 56 ls []) rfl ?_
          refine lv_iinc (v := iv (((i + 1 : Nat) : Int))) (lv' := [(4, .int (iv (((i + 1 : Nat) : Int)))), (2, .long (jv (((f * 2 : Nat) : Int)))), (0, .ref (q 0)), (1, .int (iv ((d : Int))))]) hx hb dX2_quotient_56 hl (k := 3) rfl (iv_inc i) (by decide) rfl (fun ls hl => ?_)
          refine lv_goto (tgt := 5) hx hb dX2_quotient_59 (by decide) ?_
          exact ih (i + 1) (f * 2) ((X) * 2 ^ 1) (by omega) (by rw [show L * 2 ^ (i + 1) = L * 2 ^ i * 2 by rw [Nat.pow_succ, Nat.mul_assoc], ← h2, Nat.mul_right_comm f 2 R, Nat.pow_one]; omega) (by omega) (by rw [Nat.pow_succ]; omega) (by omega) H locs ls hP hD hS (lv_sub hl [2, 3, 1, 0] rfl)
        ·
          have c3 : R ≤ X := by have := (zc_ge _ _).1 c2; omega
          refine lv_aload_n hx hb dX2_quotient_29 rfl (lv_at hl 1 rfl) ?_
          refine va_get (D := (dC, dI)) (ci := 2) (v := .ref (q 11)) (C := RX2) (T := TX2) (N := 4) hx hb hts (by decide +kernel) hown hK hP 0 rfl rfl 2 (by decide) (hts (.fieldLink RX2 22 "ExactFractions" "left" "LExactFractions$Whole;") (by decide +kernel)) (fun _ h9 => h9) rfl dX2_quotient_30 ?_
          refine lv_aload_n hx hb dX2_quotient_33 rfl (lv_at hl 1 rfl) ?_
          refine va_get (D := (dC, dI)) (ci := 2) (v := .ref (q 11)) (C := RX2) (T := TX2) (N := 4) hx hb hts (by decide +kernel) hown hK hP 0 rfl rfl 2 (by decide) (hts (.fieldLink RX2 22 "ExactFractions" "left" "LExactFractions$Whole;") (by decide +kernel)) (fun _ h9 => h9) rfl dX2_quotient_34 ?_
          refine lv_aload_n hx hb dX2_quotient_37 rfl (lv_at hl 1 rfl) ?_
          refine va_get (D := (dC, dI)) (ci := 2) (v := .ref (q 13)) (C := RX2) (T := TX2) (N := 4) hx hb hts (by decide +kernel) hown hK hP 0 rfl rfl 3 (by decide) (hts (.fieldLink RX2 26 "ExactFractions" "right" "LExactFractions$Whole;") (by decide +kernel)) (fun _ h9 => h9) rfl dX2_quotient_38 ?_
          refine ef_callV (As := [.ref (q 11), .ref (q 13)]) (rest := []) ⟨hx, hb, hml, hown, hts⟩ (c_diffA l dC dI ht (isW_c (X := X) (ws := cC cI q (A1) (U1) (b1) (e1) (A2) (U2) (b2) (e2) (X) (R)) (k0 := 11) (k1 := 12) (by decide) rfl rfl) (by omega) (isW_c (X := R) (ws := cC cI q (A1) (U1) (b1) (e1) (A2) (U2) (b2) (e2) (X) (R)) (k0 := 13) (k1 := 14) (by decide) rfl rfl) (by omega) (apt_c (k0 := 11) (k1 := 12) (j0 := 13) (j1 := 14) rfl) c3) (cwV 2 hts gX2_quotient_X1_becomeDifference rfl rfl rfl (by decide +kernel) ⟨Nat.le_of_ble_eq_true rfl, Nat.le_of_ble_eq_true rfl⟩) hK hNX hP hD hS 11 rfl rfl rfl rfl hl.1 rfl (Nat.le_of_ble_eq_true rfl) dX2_quotient_41 ⟨Nat.zero_le _, Nat.zero_le _⟩ (fun o w1 H locs hq hP hD hS => ?_)
          obtain ⟨rfl, rfl⟩ := hq
          have hP : va_P (dC, dI) vwCl (cC cI q (A1) (U1) (b1) (e1) (A2) (U2) (b2) (e2) (X - R) (R)) H := hP
          have hD : va_D (ef_A (cC cI q (A1) (U1) (b1) (e1) (A2) (U2) (b2) (e2) (L) (R))) (cC cI q (A1) (U1) (b1) (e1) (A2) (U2) (b2) (e2) (X - R) (R)) := hD
          refine W.eq (g2 := F0 m 44 ls []) rfl ?_
          refine lv_lload_n hx hb dX2_quotient_44 rfl (lv_at hl 0 rfl) ?_
          refine lv_lconst (v := jv (1)) hx hb dX2_quotient_45 (by decide) ?_
          refine iw_lor1 hx hb (by omega) dX2_quotient_46 ?_
          have hwX2 : wl (X - R) ≤ 151 := Nat.le_trans (wl_mono (by omega : X - R ≤ R)) (by omega)
          refine lv_lstore_n (lv' := [(2, .long (jv (((f * 2 + 1 : Nat) : Int)))), (0, .ref (q 0)), (1, .int (iv ((d : Int)))), (4, .int (iv ((i : Int))))]) hx hb dX2_quotient_47 rfl hl (by decide) rfl (fun ls hl => ?_)
          refine lv_aload_n hx hb dX2_quotient_48 rfl (lv_at hl 1 rfl) ?_
          refine va_get (D := (dC, dI)) (ci := 2) (v := .ref (q 11)) (C := RX2) (T := TX2) (N := 4) hx hb hts (by decide +kernel) hown hK hP 0 rfl rfl 2 (by decide) (hts (.fieldLink RX2 22 "ExactFractions" "left" "LExactFractions$Whole;") (by decide +kernel)) (fun _ h9 => h9) rfl dX2_quotient_49 ?_
          refine lv_iconst (v := iv (1)) hx hb dX2_quotient_52 (by decide) ?_
          refine iw_topi (y := iv (((1 : Nat) : Int))) (congrArg iv (by omega : ((1) : Int) = (((1 : Nat) : Int)))) ?_
          refine ef_callV (As := [.int (iv (((1 : Nat) : Int)))]) (rest := []) ⟨hx, hb, hml, hown, hts⟩ (c_shiftUp l dC dI ht (isW_c (X := X - R) (ws := cC cI q (A1) (U1) (b1) (e1) (A2) (U2) (b2) (e2) (X - R) (R)) (k0 := 11) (k1 := 12) (by decide) rfl rfl) (by omega) 1 (by omega)) (cwV 1 hts gX2_quotient_X1_shiftUp rfl rfl rfl (by decide +kernel) ⟨Nat.le_of_ble_eq_true rfl, Nat.le_of_ble_eq_true rfl⟩) hK hNX hP hD hS 11 rfl rfl rfl rfl hl.1 rfl (Nat.le_of_ble_eq_true rfl) dX2_quotient_53 ⟨Nat.zero_le _, Nat.zero_le _⟩ (fun o w1 H locs hq hP hD hS => ?_)
          obtain ⟨rfl, rfl⟩ := hq
          have hP : va_P (dC, dI) vwCl (cC cI q (A1) (U1) (b1) (e1) (A2) (U2) (b2) (e2) ((X - R) * 2 ^ 1) (R)) H := hP
          have hD : va_D (ef_A (cC cI q (A1) (U1) (b1) (e1) (A2) (U2) (b2) (e2) (L) (R))) (cC cI q (A1) (U1) (b1) (e1) (A2) (U2) (b2) (e2) ((X - R) * 2 ^ 1) (R)) := hD
          refine W.eq (g2 := F0 m 56 ls []) rfl ?_
          refine lv_iinc (v := iv (((i + 1 : Nat) : Int))) (lv' := [(4, .int (iv (((i + 1 : Nat) : Int)))), (2, .long (jv (((f * 2 + 1 : Nat) : Int)))), (0, .ref (q 0)), (1, .int (iv ((d : Int))))]) hx hb dX2_quotient_56 hl (k := 3) rfl (iv_inc i) (by decide) rfl (fun ls hl => ?_)
          refine lv_goto (tgt := 5) hx hb dX2_quotient_59 (by decide) ?_
          exact ih (i + 1) (f * 2 + 1) ((X - R) * 2 ^ 1) (by omega) (by rw [show L * 2 ^ (i + 1) = L * 2 ^ i * 2 by rw [Nat.pow_succ, Nat.mul_assoc], ← h2, Nat.add_mul (f * 2) 1 R, Nat.mul_right_comm f 2 R, Nat.pow_one]; omega) (by omega) (by rw [Nat.pow_succ]; omega) (by omega) H locs ls hP hD hS (lv_sub hl [2, 3, 1, 0] rfl)
  exact loop (d + 1) (0) (0) (L) (Nat.zero_le _) (by rw [Nat.pow_zero, Nat.mul_one, Nat.zero_mul]; omega) (hLR) (by decide) (by omega) H locs ls hP hD hS (lv_sub hl [2, 3, 1, 0] rfl)

set_option maxRecDepth 100000 in
set_option maxHeartbeats 4000000 in
/-- quotient of no digits -/
theorem c_quotient0 (l : Launch) (dC : Nat → ClassId) (dI : Nat → Nat → Nat) {cI : ClassId} {tys : List (ClassId × FieldType)} (ht : tys[0]? = some (cI, .int)) (q : Nat → Nat) {A1 U1 A2 U2 L R : Nat} {b1 e1 b2 e2 : Int} (hA1 : wl A1 ≤ 150) (hU1 : wl U1 ≤ 150) (hA2 : wl A2 ≤ 150) (hU2 : wl U2 ≤ 150) (hL : wl L ≤ 301) (hR : wl R ≤ 301) (dz : Int) (hd : dz ≤ 0) (hd2 : -30000 ≤ dz) : ef_C l yX2_quotient wsX2_quotient ({ frames := 3, cells := 0, slots := 0, locals := 72 } : Room) [.ref (q 0), .int (iv (dz))] (dC, dI) vwCl tys (cC cI q (A1) (U1) (b1) (e1) (A2) (U2) (b2) (e2) (L) (R)) (fun o w1 => o = some (.long (jv 0)) ∧ w1 = cC cI q (A1) (U1) (b1) (e1) (A2) (U2) (b2) (e2) (L) (R)) := by
  refine ef_C.of (cc := cX2_quotient) (maxL := 5) (ret := (some .long)) (by decide) rfl (Nat.le_of_ble_eq_true rfl) ?_
  intro p e s m below meth c ls hx hb hml hr hts hown hlocks hK hNX hP hD hS hl
  have hl : lv_has ls 5 [(0, .ref (q 0)), (1, .int (iv (dz)))] := hl
  have hown : s.vm.findClass RX2 = some m.cls := hown
  generalize hH : s.heap = H at hP ⊢
  have hS : va_S (ef_A (cC cI q (A1) (U1) (b1) (e1) (A2) (U2) (b2) (e2) (L) (R))) s.heap H [] := by rw [← hH]; exact hS
  generalize ([] : List Loc) = locs at hS ⊢
  refine lv_lconst (v := jv (0)) hx hb dX2_quotient_0 (by decide) ?_
  refine lv_lstore_n (lv' := [(2, .long (jv (0))), (0, .ref (q 0)), (1, .int (iv (dz)))]) hx hb dX2_quotient_1 rfl hl (by decide) rfl (fun ls hl => ?_)
  refine lv_iconst (v := iv (0)) hx hb dX2_quotient_2 (by decide) ?_
  refine lv_istore (lv' := [(4, .int (iv (0))), (2, .long (jv (0))), (0, .ref (q 0)), (1, .int (iv (dz)))]) hx hb dX2_quotient_3 hl (by decide) rfl (fun ls hl => ?_)
  refine lv_iload hx hb dX2_quotient_5 (lv_at hl 0 rfl) ?_
  refine lv_iload_n hx hb dX2_quotient_7 rfl (lv_at hl 3 rfl) ?_
  refine iw_icmp_ge (tgt := 62) hx hb dX2_quotient_8 (by decide) ⟨by omega, by omega⟩ ⟨by omega, by omega⟩ (fun c1 => ?_) (fun c1 => ?_)
  ·
    refine lv_lload_n hx hb dX2_quotient_62 rfl (lv_at hl 1 rfl) ?_
    exact ef_lret hx hb hr hlocks hP hD hS dX2_quotient_63 (⟨rfl, rfl⟩)
  ·
    exact absurd c1 (by omega)
