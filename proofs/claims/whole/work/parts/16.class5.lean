/-- fv of a scaled float, against a size -/
theorem fv_scale {f w U : Nat} : f * 2 ^ w * U * pw (-1074) = f * U * pw (-1074 + (w : Int)) := by
  rw [pw_add (by omega), Nat.mul_right_comm f, Nat.mul_assoc (f * U), Nat.mul_comm (2 ^ w)]
theorem fl_of {A U L R : Nat} {e P : Int} {f X d1 w : Nat} (hU : U ≠ 0) (hR : R ≠ 0) (hrel : A * R * pw e = L * U * pw P) (hP : P = -1074 + (w : Int) + (d1 : Int)) (hX : X + 2 * (f * R) = L * 2 ^ (d1 + 1)) (hX2 : X < 2 * R) (m : Nat) (hm : m ≤ 9218868437227405311) (h1 : fv m = f * 2 ^ w) (h2 : m < 9218868437227405311 → fv (m + 1) = (f + 1) * 2 ^ w) : isFl m A U e ∧ (feq m A U e ↔ X = 0) := by
  have q : L * 2 ^ (d1 + 1) = 2 * (L * 2 ^ d1) := by rw [Nat.pow_succ, ← Nat.mul_assoc, Nat.mul_comm]
  rw [q] at hX
  have k1 := lay_le (t := -1074 + (w : Int)) (d := d1) hU hR hrel (by omega) hP f
  have k2 := lay_le (t := -1074 + (w : Int)) (d := d1) hU hR hrel (by omega) hP (f + 1)
  unfold isFl fle feq
  refine ⟨⟨hm, ?_, ?_⟩, ?_⟩
  · rw [h1, fv_scale]
    exact k1.1.2 (by omega)
  · intro hlt
    rw [h2 hlt, fv_scale]
    intro h
    have := k2.1.1 h
    rw [Nat.add_mul, Nat.one_mul] at this
    omega
  · rw [h1, fv_scale, k1.2]
    omega
theorem fl_sub {A U L R : Nat} {e P : Int} {f X d : Nat} (hU : U ≠ 0) (hR : R ≠ 0) (hrel : A * R * pw e = L * U * pw P) (h1 : -1074 ≤ P) (h2 : P ≤ -1022) (hd : (d : Int) = P + 1075) (hX : X + 2 * (f * R) = L * 2 ^ d) (hX2 : X < 2 * R) (hf : f < 2 ^ d) : isFl f A U e ∧ (feq f A U e ↔ X = 0) := by
  have hf2 : f < 9007199254740992 := Nat.lt_of_lt_of_le hf (show 2 ^ d ≤ 2 ^ 53 from Nat.pow_le_pow_right (by decide) (by omega))
  obtain ⟨d1, rfl⟩ : ∃ d1, d = d1 + 1 := ⟨d - 1, by omega⟩
  refine fl_of (w := 0) (d1 := d1) hU hR hrel (by omega) hX hX2 f (by omega) ?_ (fun _ => ?_)
  · rw [fv_small (by omega), Nat.pow_zero, Nat.mul_one]
  · rw [fv_small (by omega), Nat.pow_zero, Nat.mul_one]
theorem fl_nor {A U L R : Nat} {e P : Int} {f X w : Nat} (hU : U ≠ 0) (hR : R ≠ 0) (hrel : A * R * pw e = L * U * pw P) (hRL : R ≤ L) (h1 : -1022 ≤ P) (h2 : P ≤ 1023) (hw : (w : Int) = P + 1022) (hX : X + 2 * (f * R) = L * 2 ^ 53) (hX2 : X < 2 * R) (hf : f < 2 ^ 53) : isFl (f + w * 4503599627370496) A U e ∧ (feq (f + w * 4503599627370496) A U e ↔ X = 0) := by
  have hf2 : f < 9007199254740992 := hf
  have hf1 : 4503599627370496 ≤ f := by
    have q1 : R * 2 ^ 53 ≤ L * 2 ^ 53 := Nat.mul_le_mul_right _ hRL
    have q2 : 4503599627370496 * R < (f + 1) * R := by
      rw [Nat.add_mul, Nat.one_mul]
      have q3 : R * 2 ^ 53 = 2 * (4503599627370496 * R) := by rw [show (2 : Nat) ^ 53 = 2 * 4503599627370496 from rfl, Nat.mul_comm R, Nat.mul_assoc]
      omega
    have := Nat.lt_of_mul_lt_mul_right q2
    omega
  refine fl_of (w := w) (d1 := 52) hU hR hrel (by omega) hX hX2 _ (by omega) (fv_norm hf1 (by omega)) (fun _ => ?_)
  rw [show f + w * 4503599627370496 + 1 = (f + 1) + w * 4503599627370496 by omega]
  exact fv_norm (by omega) (by omega)
theorem fl_zero {A U L R : Nat} {e P : Int} (hU : U ≠ 0) (hR : R ≠ 0) (hA : A ≠ 0) (hrel : A * R * pw e = L * U * pw P) (hLR : L < 2 * R) (h1 : -17000 ≤ P) (h2 : P < -1074) : isFl 0 A U e ∧ ¬ feq 0 A U e := by
  have h0 : fv 0 = 0 := fv_small (by decide)
  have h3 : fv 1 = 1 := fv_small (by decide)
  refine ⟨⟨Nat.zero_le _, ?_, fun _ => ?_⟩, ?_⟩
  · unfold fle; rw [h0, Nat.zero_mul, Nat.zero_mul]; exact Nat.zero_le _
  · show ¬ fle (0 + 1) A U e
    unfold fle
    rw [Nat.zero_add, h3, Nat.one_mul]
    intro h
    obtain ⟨k, hk⟩ : ∃ k : Nat, -1074 = P + ((k + 1 : Nat) : Int) := ⟨(-1075 - P).toNat, by omega⟩
    rw [hk, pw_add (by omega)] at h
    have h4 : U * (pw P * 2 ^ (k + 1)) * R ≤ A * pw e * R := Nat.mul_le_mul_right _ h
    rw [Nat.mul_right_comm A, hrel] at h4
    have e1 : U * (pw P * 2 ^ (k + 1)) * R = (2 ^ (k + 1) * R) * (U * pw P) := by
      rw [← Nat.mul_assoc U, Nat.mul_comm (U * pw P), Nat.mul_right_comm]
    rw [e1, Nat.mul_assoc L] at h4
    have h5 := Nat.le_of_mul_le_mul_right h4 (Nat.mul_pos (by omega) (pw_pos P))
    have h6 : 2 * R ≤ 2 ^ (k + 1) * R := Nat.mul_le_mul_right _ (by rw [Nat.pow_succ]; have := Nat.pow_pos (n := k) (show 0 < 2 by decide); omega)
    omega
  · unfold feq
    rw [h0, Nat.zero_mul, Nat.zero_mul]
    intro h
    have := Nat.mul_pos (show 0 < A by omega) (pw_pos e)
    omega
theorem fl_inf {A U L R : Nat} {e P : Int} (hU : U ≠ 0) (hR : R ≠ 0) (hrel : A * R * pw e = L * U * pw P) (hRL : R ≤ L) (h1 : 1023 < P) : isFl 9218868437227405311 A U e ∧ ¬ feq 9218868437227405311 A U e := by
  have h3 : fv 9218868437227405311 = 9007199254740991 * 2 ^ 2045 := by
    have := fv_norm (f := 9007199254740991) (t := 2045) (by omega) (by omega)
    exact this
  obtain ⟨d, hd⟩ : ∃ d : Nat, P = -1074 + ((2045 : Nat) : Int) + (d : Int) := ⟨(P - 971).toNat, by omega⟩
  have k1 := lay_le (t := -1074 + ((2045 : Nat) : Int)) (d := d) hU hR hrel (by omega) hd 9007199254740991
  have h4 : 9007199254740991 * R < L * 2 ^ d := by
    have q1 : 9007199254740992 ≤ 2 ^ d := show 2 ^ 53 ≤ 2 ^ d from Nat.pow_le_pow_right (by decide) (by omega)
    have q2 : R * 9007199254740992 ≤ L * 2 ^ d := Nat.mul_le_mul hRL q1
    omega
  unfold isFl fle feq
  refine ⟨⟨Nat.le_refl _, ?_, fun h => absurd h (Nat.lt_irrefl _)⟩, ?_⟩
  · rw [h3, fv_scale]
    exact k1.1.2 (Nat.le_of_lt h4)
  · rw [h3, fv_scale, k1.2]
    omega
theorem rsz_of {A U : Nat} {e aw : Int} {m X : Nat} (h : isFl m A U e ∧ (feq m A U e ↔ X = 0)) : (aw = 0 ∨ X = 0 → rsz A U e aw m) ∧ (aw ≠ 0 → X ≠ 0 → rsz A U e aw (m + 1)) :=
  ⟨fun q => ⟨m, h.1, Or.inl ⟨q.elim Or.inl (fun q => Or.inr (h.2.2 q)), rfl⟩⟩, fun q1 q2 => ⟨m, h.1, Or.inr ⟨⟨q1, fun q => q2 (h.2.1 q)⟩, rfl⟩⟩⟩
theorem rsz_le {A U : Nat} {e aw : Int} {z : Nat} (h : rsz A U e aw z) : z ≤ 9218868437227405312 := by
  obtain ⟨s, h1, h2⟩ := h
  have := h1.1
  rcases h2 with ⟨-, rfl⟩ | ⟨-, rfl⟩ <;> omega

set_option maxRecDepth 100000 in
set_option maxHeartbeats 4000000 in
/-- roundedSize -/
theorem c_roundedSize0 (l : Launch) (dC : Nat → ClassId) (dI : Nat → Nat → Nat) {cI : ClassId} {tys : List (ClassId × FieldType)} (ht : tys[0]? = some (cI, .int)) (q : Nat → Nat) {A1 U1 A2 U2 L R : Nat} {b1 e1 b2 e2 : Int} (hA1 : wl A1 ≤ 150) (hU1 : wl U1 ≤ 150) (hA2 : wl A2 ≤ 150) (hU2 : wl U2 ≤ 150) (hL : wl L ≤ 301) (hR : wl R ≤ 301) (bA1 : bl A1 ≤ 4800) (bU1 : bl U1 ≤ 4800) (bA2 : bl A2 ≤ 4800) (bU2 : bl U2 ≤ 4800) (le1 : -12000 ≤ e1) (ge1 : e1 ≤ 12000) (le2 : -12000 ≤ e2) (ge2 : e2 ≤ 12000) (nA : A1 ≠ 0) (nU : U1 ≠ 0) (aw : Int) (haw : ir aw) : ef_C l yX2_roundedSize wsX2_roundedSize ({ frames := 5, cells := 0, slots := 0, locals := 114 } : Room) [.ref (q 0), .ref (q 1), .int (iv (aw))] (dC, dI) vwCl tys (cC cI q (A1) (U1) (b1) (e1) (A2) (U2) (b2) (e2) (L) (R)) (fun o w1 => ∃ (L2 R2 z : Nat), o = some (.long (jv (z : Int))) ∧ w1 = cC cI q (A1) (U1) (b1) (e1) (A2) (U2) (b2) (e2) (L2) (R2) ∧ wl L2 ≤ 301 ∧ wl R2 ≤ 301 ∧ rsz A1 U1 e1 aw z) := by
  refine ef_C.of (cc := cX2_roundedSize) (maxL := 6) (ret := (some .long)) (by decide) rfl (Nat.le_of_ble_eq_true rfl) ?_
  intro p e s m below meth c ls hx hb hml hr hts hown hlocks hK hNX hP hD hS hl
  have hl : lv_has ls 6 [(0, .ref (q 0)), (1, .ref (q 1)), (2, .int (iv (aw)))] := hl
  have hown : s.vm.findClass RX2 = some m.cls := hown
  generalize hH : s.heap = H at hP ⊢
  have hS : va_S (ef_A (cC cI q (A1) (U1) (b1) (e1) (A2) (U2) (b2) (e2) (L) (R))) s.heap H [] := by rw [← hH]; exact hS
  generalize ([] : List Loc) = locs at hS ⊢
  refine lv_aload_n hx hb dX2_roundedSize_0 rfl (lv_at hl 0 rfl) ?_
  refine lv_aload_n hx hb dX2_roundedSize_1 rfl (lv_at hl 1 rfl) ?_
  refine ef_callV (As := [.ref (q 1)]) (rest := []) ⟨hx, hb, hml, hown, hts⟩ (c_layOut0 l dC dI ht q hA1 hU1 hA2 hU2 hL hR bA1 bU1 bA2 bU2 le1 ge1 le2 ge2 nA nU) (cwV 1 hts gX2_roundedSize_X2_layOut rfl rfl rfl (by decide +kernel) ⟨Nat.le_of_ble_eq_true rfl, Nat.le_of_ble_eq_true rfl⟩) hK hNX hP hD hS 0 rfl rfl rfl rfl hl.1 rfl (Nat.le_of_ble_eq_true rfl) dX2_roundedSize_2 ⟨Nat.zero_le _, Nat.zero_le _⟩ (fun o w1 H locs hq hP hD hS => ?_)
  obtain ⟨L1, R1, P, rfl, rfl, hRL, hLR, hrel, hP1, hP2, hbR⟩ := hq
  have hP : va_P (dC, dI) vwCl (cC cI q (A1) (U1) (b1) (e1) (A2) (U2) (b2) (e2) (L1) (R1)) H := hP
  have hD : va_D (ef_A (cC cI q (A1) (U1) (b1) (e1) (A2) (U2) (b2) (e2) (L) (R))) (cC cI q (A1) (U1) (b1) (e1) (A2) (U2) (b2) (e2) (L1) (R1)) := hD
  refine W.eq (g2 := F0 m 5 ls [.int (iv (P))]) rfl ?_
  have nR1 : R1 ≠ 0 := by omega
  have wR1 : wl R1 ≤ 150 := wl_bl (by omega)
  have wX : ∀ X, X < 2 * R1 → wl X ≤ 301 := fun X q => by
    have h1 := wl_mono (Nat.le_of_lt q)
    have h2 := wl_add (k := 150) (Y := R1) (Z := R1) (by omega) (by omega)
    rw [show R1 + R1 = 2 * R1 by omega] at h2
    omega
  have wL1 := wX L1 hLR
  refine lv_istore_n (lv' := [(3, .int (iv (P))), (0, .ref (q 0)), (1, .ref (q 1)), (2, .int (iv (aw)))]) hx hb dX2_roundedSize_5 rfl hl (by decide) rfl (fun ls hl => ?_)
  refine lv_iload_n hx hb dX2_roundedSize_6 rfl (lv_at hl 0 rfl) ?_
  refine lv_sipush (v := iv (1023)) hx hb dX2_roundedSize_7 (by decide) ?_
  refine iw_icmp_le (tgt := 27) hx hb dX2_roundedSize_10 (by decide) ⟨by omega, by omega⟩ ⟨by omega, by omega⟩ (fun c1 => ?_) (fun c1 => ?_)
  ·
    refine lv_aload_n hx hb dX2_roundedSize_27 rfl (lv_at hl 1 rfl) ?_
    refine lv_bipush (v := iv (53)) hx hb dX2_roundedSize_28 (by decide) ?_
    refine lv_iload_n hx hb dX2_roundedSize_30 rfl (lv_at hl 0 rfl) ?_
    refine lv_sipush (v := iv (-1074)) hx hb dX2_roundedSize_31 (by decide) ?_
    refine iw_isub hx hb dX2_roundedSize_34 ?_
    refine lv_iconst (v := iv (1)) hx hb dX2_roundedSize_35 (by decide) ?_
    refine iw_iadd hx hb dX2_roundedSize_36 ?_
    refine iw_mmin hx hb (hml.trans hl.1.symm) hown (hts (.methodLink RX2 131 Lib.Math.min.name) (by decide +kernel)) (hts (.static Lib.Math.min.name) (by decide +kernel)) (hts (.initialized "java/lang/Math") (by decide +kernel)) (hts (.code Lib.Math.min.name Lib.Math.min.code 2 (some .int)) (by decide +kernel)) (Nat.le_of_ble_eq_true rfl) (Nat.le_of_ble_eq_true rfl) (Nat.zero_le _) (Nat.zero_le _) ⟨by omega, by omega⟩ ⟨by omega, by omega⟩ dX2_roundedSize_37 ?_
    rcases Int.lt_or_le P (-1074) with hp | hp
    ·
      refine iw_topi (y := iv (P + 1075)) (congrArg iv (by rw [if_pos (by omega)]; omega : ((if (((P) - (-1074)) + (1)) < (53) then (((P) - (-1074)) + (1)) else (53)) : Int) = (P + 1075))) ?_
      refine ef_callV (As := [.int (iv (P + 1075))]) (rest := []) ⟨hx, hb, hml, hown, hts⟩ (c_quotient0 l dC dI ht q hA1 hU1 hA2 hU2 (by assumption) (by omega) (P + 1075) (by omega) (by omega)) (cwV 1 hts gX2_roundedSize_X2_quotient rfl rfl rfl (by decide +kernel) ⟨Nat.le_of_ble_eq_true rfl, Nat.le_of_ble_eq_true rfl⟩) hK hNX hP hD hS 0 rfl rfl rfl rfl hl.1 rfl (Nat.le_of_ble_eq_true rfl) dX2_roundedSize_40 ⟨Nat.zero_le _, Nat.zero_le _⟩ (fun o w1 H locs hq hP hD hS => ?_)
      obtain ⟨rfl, e9⟩ := hq
      rw [e9] at hP hD
      refine W.eq (g2 := F0 m 43 ls [.long (jv (0))]) rfl ?_
      refine iw_topl (y := jv (((0 : Nat) : Int))) (congrArg jv (by rfl : ((0) : Int) = (((0 : Nat) : Int)))) ?_
      refine lv_lstore (lv' := [(4, .long (jv (((0 : Nat) : Int)))), (3, .int (iv (P))), (0, .ref (q 0)), (1, .ref (q 1)), (2, .int (iv (aw)))]) hx hb dX2_roundedSize_43 hl (by decide) rfl (fun ls hl => ?_)
      refine lv_iload_n hx hb dX2_roundedSize_45 rfl (lv_at hl 1 rfl) ?_
      refine lv_sipush (v := iv (-1022)) hx hb dX2_roundedSize_46 (by decide) ?_
      refine iw_icmp_le (tgt := 66) hx hb dX2_roundedSize_49 (by decide) ⟨by omega, by omega⟩ ⟨by omega, by omega⟩ (fun c2 => ?_) (fun c2 => ?_)
      ·
        have hz8 := fl_zero nU nR1 nA hrel hLR hP1 hp
        have hz7 : feq 0 A1 U1 e1 ↔ L1 = 0 := ⟨fun h => absurd h hz8.2, fun h => by omega⟩
        have hz9 := rsz_of (aw := aw) ⟨hz8.1, hz7⟩
        refine lv_iload_n hx hb dX2_roundedSize_66 rfl (lv_at hl 4 rfl) ?_
        refine iw_if_eq (tgt := 87) hx hb dX2_roundedSize_67 (by decide) (haw) (fun c7 => ?_) (fun c7 => ?_)
        ·
          refine lv_lload hx hb dX2_roundedSize_87 (lv_at hl 0 rfl) ?_
          exact ef_lret hx hb hr hlocks hP hD hS dX2_roundedSize_89 (⟨_, _, _, rfl, rfl, by assumption, by omega, hz9.1 (Or.inl c7)⟩)
        ·
          refine lv_aload_n hx hb dX2_roundedSize_70 rfl (lv_at hl 2 rfl) ?_
          refine va_get (D := (dC, dI)) (ci := 2) (v := .ref (q 11)) (C := RX2) (T := TX2) (N := 4) hx hb hts (by decide +kernel) hown hK hP 0 rfl rfl 2 (by decide) (hts (.fieldLink RX2 22 "ExactFractions" "left" "LExactFractions$Whole;") (by decide +kernel)) (fun _ h9 => h9) rfl dX2_roundedSize_71 ?_
          refine ef_callV (As := []) (rest := []) ⟨hx, hb, hml, hown, hts⟩ (c_isZero l dC dI ht (isW_c (X := L1) (ws := cC cI q (A1) (U1) (b1) (e1) (A2) (U2) (b2) (e2) (L1) (R1)) (k0 := 11) (k1 := 12) (by decide) rfl rfl) (by assumption)) (cwV 0 hts gX2_roundedSize_X1_isZero rfl rfl rfl (by decide +kernel) ⟨Nat.le_of_ble_eq_true rfl, Nat.le_of_ble_eq_true rfl⟩) hK hNX hP hD hS 11 rfl rfl rfl rfl hl.1 rfl (Nat.le_of_ble_eq_true rfl) dX2_roundedSize_74 ⟨Nat.zero_le _, Nat.zero_le _⟩ (fun o w1 H locs hq hP hD hS => ?_)
          obtain ⟨rfl, e9⟩ := hq
          rw [e9] at hP hD
          refine W.eq (g2 := F0 m 77 ls [.int (iv (if L1 = 0 then 1 else 0))]) rfl ?_
          have hc0 : ir (if L1 = 0 then 1 else 0) := by split <;> exact ⟨by omega, by omega⟩
          refine iw_if_ne (tgt := 87) hx hb dX2_roundedSize_77 (by decide) (hc0) (fun c8 => ?_) (fun c8 => ?_)
          ·
            have c9 : L1 = 0 := by
              by_cases q9 : L1 = 0
              · exact q9
              · rw [if_neg q9] at c8; exact absurd rfl c8
            refine lv_lload hx hb dX2_roundedSize_87 (lv_at hl 0 rfl) ?_
            exact ef_lret hx hb hr hlocks hP hD hS dX2_roundedSize_89 (⟨_, _, _, rfl, rfl, by assumption, by omega, hz9.1 (Or.inr c9)⟩)
          ·
            have c9 : L1 ≠ 0 := fun q9 => by rw [if_pos q9] at c8; exact absurd c8 (by decide)
            refine lv_lload hx hb dX2_roundedSize_80 (lv_at hl 0 rfl) ?_
            refine lv_lconst (v := jv (1)) hx hb dX2_roundedSize_82 (by decide) ?_
            refine iw_ladd hx hb dX2_roundedSize_83 ?_
            refine iw_topl (y := jv (((0 + 1 : Nat) : Int))) (congrArg jv (by omega : (((((0 : Nat) : Int)) + (1)) : Int) = (((0 + 1 : Nat) : Int)))) ?_
            refine lv_goto (tgt := 89) hx hb dX2_roundedSize_84 (by decide) ?_
            exact ef_lret hx hb hr hlocks hP hD hS dX2_roundedSize_89 (⟨_, _, _, rfl, rfl, by assumption, by omega, hz9.2 c7 c9⟩)
      ·
        exact absurd c2 (by omega)
    ·
      obtain ⟨d, hd⟩ : ∃ d : Nat, (d : Int) = if P < -1022 then P + 1075 else 53 := by
        split
        · exact ⟨(P + 1075).toNat, by omega⟩
        · exact ⟨53, rfl⟩
      have hd53 : d ≤ 53 := by split at hd <;> omega
      refine iw_topi (y := iv ((d : Int))) (congrArg iv (by rw [hd]; (repeat split) <;> omega : ((if (((P) - (-1074)) + (1)) < (53) then (((P) - (-1074)) + (1)) else (53)) : Int) = ((d : Int)))) ?_
      refine ef_callV (As := [.int (iv ((d : Int)))]) (rest := []) ⟨hx, hb, hml, hown, hts⟩ (c_quotient l dC dI ht q hA1 hU1 hA2 hU2 (by assumption) (by omega) d hd53 hLR hbR) (cwV 1 hts gX2_roundedSize_X2_quotient rfl rfl rfl (by decide +kernel) ⟨Nat.le_of_ble_eq_true rfl, Nat.le_of_ble_eq_true rfl⟩) hK hNX hP hD hS 0 rfl rfl rfl rfl hl.1 rfl (Nat.le_of_ble_eq_true rfl) dX2_roundedSize_40 ⟨Nat.zero_le _, Nat.zero_le _⟩ (fun o w1 H locs hq hP hD hS => ?_)
      obtain ⟨f, X, rfl, rfl, hX, hX2, hf⟩ := hq
      have hP : va_P (dC, dI) vwCl (cC cI q (A1) (U1) (b1) (e1) (A2) (U2) (b2) (e2) (X) (R1)) H := hP
      have hD : va_D (ef_A (cC cI q (A1) (U1) (b1) (e1) (A2) (U2) (b2) (e2) (L) (R))) (cC cI q (A1) (U1) (b1) (e1) (A2) (U2) (b2) (e2) (X) (R1)) := hD
      refine W.eq (g2 := F0 m 43 ls [.long (jv ((f : Int)))]) rfl ?_
      have wX2 := wX X hX2
      have hf53 : f < 9007199254740992 := Nat.lt_of_lt_of_le hf (show 2 ^ d ≤ 2 ^ 53 from Nat.pow_le_pow_right (by decide) hd53)
      refine lv_lstore (lv' := [(4, .long (jv ((f : Int)))), (3, .int (iv (P))), (0, .ref (q 0)), (1, .ref (q 1)), (2, .int (iv (aw)))]) hx hb dX2_roundedSize_43 hl (by decide) rfl (fun ls hl => ?_)
      refine lv_iload_n hx hb dX2_roundedSize_45 rfl (lv_at hl 1 rfl) ?_
      refine lv_sipush (v := iv (-1022)) hx hb dX2_roundedSize_46 (by decide) ?_
      refine iw_icmp_le (tgt := 66) hx hb dX2_roundedSize_49 (by decide) ⟨by omega, by omega⟩ ⟨by omega, by omega⟩ (fun c2 => ?_) (fun c2 => ?_)
      ·
        have hfl : isFl f A1 U1 e1 ∧ (feq f A1 U1 e1 ↔ X = 0) := fl_sub nU nR1 hrel hp c2 (by split at hd <;> omega) hX hX2 hf
        have hz9 := rsz_of (aw := aw) hfl
        refine lv_iload_n hx hb dX2_roundedSize_66 rfl (lv_at hl 4 rfl) ?_
        refine iw_if_eq (tgt := 87) hx hb dX2_roundedSize_67 (by decide) (haw) (fun c7 => ?_) (fun c7 => ?_)
        ·
          refine lv_lload hx hb dX2_roundedSize_87 (lv_at hl 0 rfl) ?_
          exact ef_lret hx hb hr hlocks hP hD hS dX2_roundedSize_89 (⟨_, _, _, rfl, rfl, by assumption, by omega, hz9.1 (Or.inl c7)⟩)
        ·
          refine lv_aload_n hx hb dX2_roundedSize_70 rfl (lv_at hl 2 rfl) ?_
          refine va_get (D := (dC, dI)) (ci := 2) (v := .ref (q 11)) (C := RX2) (T := TX2) (N := 4) hx hb hts (by decide +kernel) hown hK hP 0 rfl rfl 2 (by decide) (hts (.fieldLink RX2 22 "ExactFractions" "left" "LExactFractions$Whole;") (by decide +kernel)) (fun _ h9 => h9) rfl dX2_roundedSize_71 ?_
          refine ef_callV (As := []) (rest := []) ⟨hx, hb, hml, hown, hts⟩ (c_isZero l dC dI ht (isW_c (X := X) (ws := cC cI q (A1) (U1) (b1) (e1) (A2) (U2) (b2) (e2) (X) (R1)) (k0 := 11) (k1 := 12) (by decide) rfl rfl) (by assumption)) (cwV 0 hts gX2_roundedSize_X1_isZero rfl rfl rfl (by decide +kernel) ⟨Nat.le_of_ble_eq_true rfl, Nat.le_of_ble_eq_true rfl⟩) hK hNX hP hD hS 11 rfl rfl rfl rfl hl.1 rfl (Nat.le_of_ble_eq_true rfl) dX2_roundedSize_74 ⟨Nat.zero_le _, Nat.zero_le _⟩ (fun o w1 H locs hq hP hD hS => ?_)
          obtain ⟨rfl, e9⟩ := hq
          rw [e9] at hP hD
          refine W.eq (g2 := F0 m 77 ls [.int (iv (if X = 0 then 1 else 0))]) rfl ?_
          have hc0 : ir (if X = 0 then 1 else 0) := by split <;> exact ⟨by omega, by omega⟩
          refine iw_if_ne (tgt := 87) hx hb dX2_roundedSize_77 (by decide) (hc0) (fun c8 => ?_) (fun c8 => ?_)
          ·
            have c9 : X = 0 := by
              by_cases q9 : X = 0
              · exact q9
              · rw [if_neg q9] at c8; exact absurd rfl c8
            refine lv_lload hx hb dX2_roundedSize_87 (lv_at hl 0 rfl) ?_
            exact ef_lret hx hb hr hlocks hP hD hS dX2_roundedSize_89 (⟨_, _, _, rfl, rfl, by assumption, by omega, hz9.1 (Or.inr c9)⟩)
          ·
            have c9 : X ≠ 0 := fun q9 => by rw [if_pos q9] at c8; exact absurd c8 (by decide)
            refine lv_lload hx hb dX2_roundedSize_80 (lv_at hl 0 rfl) ?_
            refine lv_lconst (v := jv (1)) hx hb dX2_roundedSize_82 (by decide) ?_
            refine iw_ladd hx hb dX2_roundedSize_83 ?_
            refine iw_topl (y := jv (((f + 1 : Nat) : Int))) (congrArg jv (by omega : ((((f : Int)) + (1)) : Int) = (((f + 1 : Nat) : Int)))) ?_
            refine lv_goto (tgt := 89) hx hb dX2_roundedSize_84 (by decide) ?_
            exact ef_lret hx hb hr hlocks hP hD hS dX2_roundedSize_89 (⟨_, _, _, rfl, rfl, by assumption, by omega, hz9.2 c7 c9⟩)
      ·
        have hdd : d = 53 := by split at hd <;> omega
        subst hdd
        obtain ⟨v, hv⟩ : ∃ v : Nat, (v : Int) = P + 1022 := ⟨(P + 1022).toNat, by omega⟩
        have hfl := fl_nor (w := v) nU nR1 hrel hRL (by omega) c1 hv hX hX2 hf
        refine lv_lload hx hb dX2_roundedSize_52 (lv_at hl 0 rfl) ?_
        refine lv_iload_n hx hb dX2_roundedSize_54 rfl (lv_at hl 1 rfl) ?_
        refine lv_sipush (v := iv (-1022)) hx hb dX2_roundedSize_55 (by decide) ?_
        refine iw_isub hx hb dX2_roundedSize_58 ?_
        refine iw_topi (y := iv ((v : Int))) (congrArg iv (by omega : (((P) - (-1022)) : Int) = ((v : Int)))) ?_
        refine iw_i2l hx hb ⟨by omega, by omega⟩ dX2_roundedSize_59 ?_
        refine lv_bipush (v := iv (52)) hx hb dX2_roundedSize_60 (by decide) ?_
        refine iw_topi (y := iv (((52 : Nat) : Int))) (congrArg iv (by omega : ((52) : Int) = (((52 : Nat) : Int)))) ?_
        refine iw_lshlk (w := v) (k := 52) hx hb (by decide) dX2_roundedSize_62 ?_
        refine iw_topl (y := jv (((v * 4503599627370496 : Nat) : Int))) (congrArg jv (by rfl : ((((v * 2 ^ 52 : Nat) : Int)) : Int) = (((v * 4503599627370496 : Nat) : Int)))) ?_
        refine iw_ladd hx hb dX2_roundedSize_63 ?_
        obtain ⟨mo, hmo⟩ : ∃ mo, mo = f + v * 4503599627370496 := ⟨_, rfl⟩
        rw [← hmo] at hfl
        refine iw_topl (y := jv ((mo : Int))) (congrArg jv (by omega : ((((f : Int)) + (((v * 4503599627370496 : Nat) : Int))) : Int) = ((mo : Int)))) ?_
        have hz9 := rsz_of (aw := aw) hfl
        refine lv_lstore (lv' := [(4, .long (jv ((mo : Int)))), (3, .int (iv (P))), (0, .ref (q 0)), (1, .ref (q 1)), (2, .int (iv (aw)))]) hx hb dX2_roundedSize_64 hl (by decide) rfl (fun ls hl => ?_)
        refine lv_iload_n hx hb dX2_roundedSize_66 rfl (lv_at hl 4 rfl) ?_
        refine iw_if_eq (tgt := 87) hx hb dX2_roundedSize_67 (by decide) (haw) (fun c7 => ?_) (fun c7 => ?_)
        ·
          refine lv_lload hx hb dX2_roundedSize_87 (lv_at hl 0 rfl) ?_
          exact ef_lret hx hb hr hlocks hP hD hS dX2_roundedSize_89 (⟨_, _, _, rfl, rfl, by assumption, by omega, hz9.1 (Or.inl c7)⟩)
        ·
          refine lv_aload_n hx hb dX2_roundedSize_70 rfl (lv_at hl 2 rfl) ?_
          refine va_get (D := (dC, dI)) (ci := 2) (v := .ref (q 11)) (C := RX2) (T := TX2) (N := 4) hx hb hts (by decide +kernel) hown hK hP 0 rfl rfl 2 (by decide) (hts (.fieldLink RX2 22 "ExactFractions" "left" "LExactFractions$Whole;") (by decide +kernel)) (fun _ h9 => h9) rfl dX2_roundedSize_71 ?_
          refine ef_callV (As := []) (rest := []) ⟨hx, hb, hml, hown, hts⟩ (c_isZero l dC dI ht (isW_c (X := X) (ws := cC cI q (A1) (U1) (b1) (e1) (A2) (U2) (b2) (e2) (X) (R1)) (k0 := 11) (k1 := 12) (by decide) rfl rfl) (by assumption)) (cwV 0 hts gX2_roundedSize_X1_isZero rfl rfl rfl (by decide +kernel) ⟨Nat.le_of_ble_eq_true rfl, Nat.le_of_ble_eq_true rfl⟩) hK hNX hP hD hS 11 rfl rfl rfl rfl hl.1 rfl (Nat.le_of_ble_eq_true rfl) dX2_roundedSize_74 ⟨Nat.zero_le _, Nat.zero_le _⟩ (fun o w1 H locs hq hP hD hS => ?_)
          obtain ⟨rfl, e9⟩ := hq
          rw [e9] at hP hD
          refine W.eq (g2 := F0 m 77 ls [.int (iv (if X = 0 then 1 else 0))]) rfl ?_
          have hc0 : ir (if X = 0 then 1 else 0) := by split <;> exact ⟨by omega, by omega⟩
          refine iw_if_ne (tgt := 87) hx hb dX2_roundedSize_77 (by decide) (hc0) (fun c8 => ?_) (fun c8 => ?_)
          ·
            have c9 : X = 0 := by
              by_cases q9 : X = 0
              · exact q9
              · rw [if_neg q9] at c8; exact absurd rfl c8
            refine lv_lload hx hb dX2_roundedSize_87 (lv_at hl 0 rfl) ?_
            exact ef_lret hx hb hr hlocks hP hD hS dX2_roundedSize_89 (⟨_, _, _, rfl, rfl, by assumption, by omega, hz9.1 (Or.inr c9)⟩)
          ·
            have c9 : X ≠ 0 := fun q9 => by rw [if_pos q9] at c8; exact absurd c8 (by decide)
            refine lv_lload hx hb dX2_roundedSize_80 (lv_at hl 0 rfl) ?_
            refine lv_lconst (v := jv (1)) hx hb dX2_roundedSize_82 (by decide) ?_
            refine iw_ladd hx hb dX2_roundedSize_83 ?_
            refine iw_topl (y := jv (((mo + 1 : Nat) : Int))) (congrArg jv (by omega : ((((mo : Int)) + (1)) : Int) = (((mo + 1 : Nat) : Int)))) ?_
            refine lv_goto (tgt := 89) hx hb dX2_roundedSize_84 (by decide) ?_
            exact ef_lret hx hb hr hlocks hP hD hS dX2_roundedSize_89 (⟨_, _, _, rfl, rfl, by assumption, by omega, hz9.2 c7 c9⟩)
  ·
    have hz8 := fl_inf nU nR1 hrel hRL c1
    refine lv_iload_n hx hb dX2_roundedSize_13 rfl (lv_at hl 3 rfl) ?_
    refine iw_if_eq (tgt := 23) hx hb dX2_roundedSize_14 (by decide) (haw) (fun c7 => ?_) (fun c7 => ?_)
    ·
      refine lv_ldc2 (v := jv (9218868437227405311)) hx hb hown (hts (.constantLong RX2 129 (jv (9218868437227405311))) (by decide +kernel)) dX2_roundedSize_23 ?_
      exact ef_lret hx hb hr hlocks hP hD hS dX2_roundedSize_26 (⟨_, _, 9218868437227405311, rfl, rfl, by assumption, by omega, 9218868437227405311, hz8.1, Or.inl ⟨Or.inl c7, rfl⟩⟩)
    ·
      refine lv_ldc2 (v := jv (9218868437227405312)) hx hb hown (hts (.constantLong RX2 127 (jv (9218868437227405312))) (by decide +kernel)) dX2_roundedSize_17 ?_
      refine lv_goto (tgt := 26) hx hb dX2_roundedSize_20 (by decide) ?_
      exact ef_lret hx hb hr hlocks hP hD hS dX2_roundedSize_26 (⟨_, _, 9218868437227405312, rfl, rfl, by assumption, by omega, 9218868437227405311, hz8.1, Or.inr ⟨⟨c7, hz8.2⟩, rfl⟩⟩)

set_option maxRecDepth 100000 in
set_option maxHeartbeats 4000000 in
/-- roundedSize -/
theorem c_roundedSize1 (l : Launch) (dC : Nat → ClassId) (dI : Nat → Nat → Nat) {cI : ClassId} {tys : List (ClassId × FieldType)} (ht : tys[0]? = some (cI, .int)) (q : Nat → Nat) {A1 U1 A2 U2 L R : Nat} {b1 e1 b2 e2 : Int} (hA1 : wl A1 ≤ 150) (hU1 : wl U1 ≤ 150) (hA2 : wl A2 ≤ 150) (hU2 : wl U2 ≤ 150) (hL : wl L ≤ 301) (hR : wl R ≤ 301) (bA1 : bl A1 ≤ 4800) (bU1 : bl U1 ≤ 4800) (bA2 : bl A2 ≤ 4800) (bU2 : bl U2 ≤ 4800) (le1 : -12000 ≤ e1) (ge1 : e1 ≤ 12000) (le2 : -12000 ≤ e2) (ge2 : e2 ≤ 12000) (nA : A2 ≠ 0) (nU : U2 ≠ 0) (aw : Int) (haw : ir aw) : ef_C l yX2_roundedSize wsX2_roundedSize ({ frames := 5, cells := 0, slots := 0, locals := 114 } : Room) [.ref (q 0), .ref (q 2), .int (iv (aw))] (dC, dI) vwCl tys (cC cI q (A1) (U1) (b1) (e1) (A2) (U2) (b2) (e2) (L) (R)) (fun o w1 => ∃ (L2 R2 z : Nat), o = some (.long (jv (z : Int))) ∧ w1 = cC cI q (A1) (U1) (b1) (e1) (A2) (U2) (b2) (e2) (L2) (R2) ∧ wl L2 ≤ 301 ∧ wl R2 ≤ 301 ∧ rsz A2 U2 e2 aw z) := by
  refine ef_C.of (cc := cX2_roundedSize) (maxL := 6) (ret := (some .long)) (by decide) rfl (Nat.le_of_ble_eq_true rfl) ?_
  intro p e s m below meth c ls hx hb hml hr hts hown hlocks hK hNX hP hD hS hl
  have hl : lv_has ls 6 [(0, .ref (q 0)), (1, .ref (q 2)), (2, .int (iv (aw)))] := hl
  have hown : s.vm.findClass RX2 = some m.cls := hown
  generalize hH : s.heap = H at hP ⊢
  have hS : va_S (ef_A (cC cI q (A1) (U1) (b1) (e1) (A2) (U2) (b2) (e2) (L) (R))) s.heap H [] := by rw [← hH]; exact hS
  generalize ([] : List Loc) = locs at hS ⊢
  refine lv_aload_n hx hb dX2_roundedSize_0 rfl (lv_at hl 0 rfl) ?_
  refine lv_aload_n hx hb dX2_roundedSize_1 rfl (lv_at hl 1 rfl) ?_
  refine ef_callV (As := [.ref (q 2)]) (rest := []) ⟨hx, hb, hml, hown, hts⟩ (c_layOut1 l dC dI ht q hA1 hU1 hA2 hU2 hL hR bA1 bU1 bA2 bU2 le1 ge1 le2 ge2 nA nU) (cwV 1 hts gX2_roundedSize_X2_layOut rfl rfl rfl (by decide +kernel) ⟨Nat.le_of_ble_eq_true rfl, Nat.le_of_ble_eq_true rfl⟩) hK hNX hP hD hS 0 rfl rfl rfl rfl hl.1 rfl (Nat.le_of_ble_eq_true rfl) dX2_roundedSize_2 ⟨Nat.zero_le _, Nat.zero_le _⟩ (fun o w1 H locs hq hP hD hS => ?_)
  obtain ⟨L1, R1, P, rfl, rfl, hRL, hLR, hrel, hP1, hP2, hbR⟩ := hq
  have hP : va_P (dC, dI) vwCl (cC cI q (A1) (U1) (b1) (e1) (A2) (U2) (b2) (e2) (L1) (R1)) H := hP
  have hD : va_D (ef_A (cC cI q (A1) (U1) (b1) (e1) (A2) (U2) (b2) (e2) (L) (R))) (cC cI q (A1) (U1) (b1) (e1) (A2) (U2) (b2) (e2) (L1) (R1)) := hD
  refine W.eq (g2 := F0 m 5 ls [.int (iv (P))]) rfl ?_
  have nR1 : R1 ≠ 0 := by omega
  have wR1 : wl R1 ≤ 150 := wl_bl (by omega)
  have wX : ∀ X, X < 2 * R1 → wl X ≤ 301 := fun X q => by
    have h1 := wl_mono (Nat.le_of_lt q)
    have h2 := wl_add (k := 150) (Y := R1) (Z := R1) (by omega) (by omega)
    rw [show R1 + R1 = 2 * R1 by omega] at h2
    omega
  have wL1 := wX L1 hLR
  refine lv_istore_n (lv' := [(3, .int (iv (P))), (0, .ref (q 0)), (1, .ref (q 2)), (2, .int (iv (aw)))]) hx hb dX2_roundedSize_5 rfl hl (by decide) rfl (fun ls hl => ?_)
  refine lv_iload_n hx hb dX2_roundedSize_6 rfl (lv_at hl 0 rfl) ?_
  refine lv_sipush (v := iv (1023)) hx hb dX2_roundedSize_7 (by decide) ?_
  refine iw_icmp_le (tgt := 27) hx hb dX2_roundedSize_10 (by decide) ⟨by omega, by omega⟩ ⟨by omega, by omega⟩ (fun c1 => ?_) (fun c1 => ?_)
  ·
    refine lv_aload_n hx hb dX2_roundedSize_27 rfl (lv_at hl 1 rfl) ?_
    refine lv_bipush (v := iv (53)) hx hb dX2_roundedSize_28 (by decide) ?_
    refine lv_iload_n hx hb dX2_roundedSize_30 rfl (lv_at hl 0 rfl) ?_
    refine lv_sipush (v := iv (-1074)) hx hb dX2_roundedSize_31 (by decide) ?_
    refine iw_isub hx hb dX2_roundedSize_34 ?_
    refine lv_iconst (v := iv (1)) hx hb dX2_roundedSize_35 (by decide) ?_
    refine iw_iadd hx hb dX2_roundedSize_36 ?_
    refine iw_mmin hx hb (hml.trans hl.1.symm) hown (hts (.methodLink RX2 131 Lib.Math.min.name) (by decide +kernel)) (hts (.static Lib.Math.min.name) (by decide +kernel)) (hts (.initialized "java/lang/Math") (by decide +kernel)) (hts (.code Lib.Math.min.name Lib.Math.min.code 2 (some .int)) (by decide +kernel)) (Nat.le_of_ble_eq_true rfl) (Nat.le_of_ble_eq_true rfl) (Nat.zero_le _) (Nat.zero_le _) ⟨by omega, by omega⟩ ⟨by omega, by omega⟩ dX2_roundedSize_37 ?_
    rcases Int.lt_or_le P (-1074) with hp | hp
    ·
      refine iw_topi (y := iv (P + 1075)) (congrArg iv (by rw [if_pos (by omega)]; omega : ((if (((P) - (-1074)) + (1)) < (53) then (((P) - (-1074)) + (1)) else (53)) : Int) = (P + 1075))) ?_
      refine ef_callV (As := [.int (iv (P + 1075))]) (rest := []) ⟨hx, hb, hml, hown, hts⟩ (c_quotient0 l dC dI ht q hA1 hU1 hA2 hU2 (by assumption) (by omega) (P + 1075) (by omega) (by omega)) (cwV 1 hts gX2_roundedSize_X2_quotient rfl rfl rfl (by decide +kernel) ⟨Nat.le_of_ble_eq_true rfl, Nat.le_of_ble_eq_true rfl⟩) hK hNX hP hD hS 0 rfl rfl rfl rfl hl.1 rfl (Nat.le_of_ble_eq_true rfl) dX2_roundedSize_40 ⟨Nat.zero_le _, Nat.zero_le _⟩ (fun o w1 H locs hq hP hD hS => ?_)
      obtain ⟨rfl, e9⟩ := hq
      rw [e9] at hP hD
      refine W.eq (g2 := F0 m 43 ls [.long (jv (0))]) rfl ?_
      refine iw_topl (y := jv (((0 : Nat) : Int))) (congrArg jv (by rfl : ((0) : Int) = (((0 : Nat) : Int)))) ?_
      refine lv_lstore (lv' := [(4, .long (jv (((0 : Nat) : Int)))), (3, .int (iv (P))), (0, .ref (q 0)), (1, .ref (q 2)), (2, .int (iv (aw)))]) hx hb dX2_roundedSize_43 hl (by decide) rfl (fun ls hl => ?_)
      refine lv_iload_n hx hb dX2_roundedSize_45 rfl (lv_at hl 1 rfl) ?_
      refine lv_sipush (v := iv (-1022)) hx hb dX2_roundedSize_46 (by decide) ?_
      refine iw_icmp_le (tgt := 66) hx hb dX2_roundedSize_49 (by decide) ⟨by omega, by omega⟩ ⟨by omega, by omega⟩ (fun c2 => ?_) (fun c2 => ?_)
      ·
        have hz8 := fl_zero nU nR1 nA hrel hLR hP1 hp
        have hz7 : feq 0 A2 U2 e2 ↔ L1 = 0 := ⟨fun h => absurd h hz8.2, fun h => by omega⟩
        have hz9 := rsz_of (aw := aw) ⟨hz8.1, hz7⟩
        refine lv_iload_n hx hb dX2_roundedSize_66 rfl (lv_at hl 4 rfl) ?_
        refine iw_if_eq (tgt := 87) hx hb dX2_roundedSize_67 (by decide) (haw) (fun c7 => ?_) (fun c7 => ?_)
        ·
          refine lv_lload hx hb dX2_roundedSize_87 (lv_at hl 0 rfl) ?_
          exact ef_lret hx hb hr hlocks hP hD hS dX2_roundedSize_89 (⟨_, _, _, rfl, rfl, by assumption, by omega, hz9.1 (Or.inl c7)⟩)
        ·
          refine lv_aload_n hx hb dX2_roundedSize_70 rfl (lv_at hl 2 rfl) ?_
          refine va_get (D := (dC, dI)) (ci := 2) (v := .ref (q 11)) (C := RX2) (T := TX2) (N := 4) hx hb hts (by decide +kernel) hown hK hP 0 rfl rfl 2 (by decide) (hts (.fieldLink RX2 22 "ExactFractions" "left" "LExactFractions$Whole;") (by decide +kernel)) (fun _ h9 => h9) rfl dX2_roundedSize_71 ?_
          refine ef_callV (As := []) (rest := []) ⟨hx, hb, hml, hown, hts⟩ (c_isZero l dC dI ht (isW_c (X := L1) (ws := cC cI q (A1) (U1) (b1) (e1) (A2) (U2) (b2) (e2) (L1) (R1)) (k0 := 11) (k1 := 12) (by decide) rfl rfl) (by assumption)) (cwV 0 hts gX2_roundedSize_X1_isZero rfl rfl rfl (by decide +kernel) ⟨Nat.le_of_ble_eq_true rfl, Nat.le_of_ble_eq_true rfl⟩) hK hNX hP hD hS 11 rfl rfl rfl rfl hl.1 rfl (Nat.le_of_ble_eq_true rfl) dX2_roundedSize_74 ⟨Nat.zero_le _, Nat.zero_le _⟩ (fun o w1 H locs hq hP hD hS => ?_)
          obtain ⟨rfl, e9⟩ := hq
          rw [e9] at hP hD
          refine W.eq (g2 := F0 m 77 ls [.int (iv (if L1 = 0 then 1 else 0))]) rfl ?_
          have hc0 : ir (if L1 = 0 then 1 else 0) := by split <;> exact ⟨by omega, by omega⟩
          refine iw_if_ne (tgt := 87) hx hb dX2_roundedSize_77 (by decide) (hc0) (fun c8 => ?_) (fun c8 => ?_)
          ·
            have c9 : L1 = 0 := by
              by_cases q9 : L1 = 0
              · exact q9
              · rw [if_neg q9] at c8; exact absurd rfl c8
            refine lv_lload hx hb dX2_roundedSize_87 (lv_at hl 0 rfl) ?_
            exact ef_lret hx hb hr hlocks hP hD hS dX2_roundedSize_89 (⟨_, _, _, rfl, rfl, by assumption, by omega, hz9.1 (Or.inr c9)⟩)
          ·
            have c9 : L1 ≠ 0 := fun q9 => by rw [if_pos q9] at c8; exact absurd c8 (by decide)
            refine lv_lload hx hb dX2_roundedSize_80 (lv_at hl 0 rfl) ?_
            refine lv_lconst (v := jv (1)) hx hb dX2_roundedSize_82 (by decide) ?_
            refine iw_ladd hx hb dX2_roundedSize_83 ?_
            refine iw_topl (y := jv (((0 + 1 : Nat) : Int))) (congrArg jv (by omega : (((((0 : Nat) : Int)) + (1)) : Int) = (((0 + 1 : Nat) : Int)))) ?_
            refine lv_goto (tgt := 89) hx hb dX2_roundedSize_84 (by decide) ?_
            exact ef_lret hx hb hr hlocks hP hD hS dX2_roundedSize_89 (⟨_, _, _, rfl, rfl, by assumption, by omega, hz9.2 c7 c9⟩)
      ·
        exact absurd c2 (by omega)
    ·
      obtain ⟨d, hd⟩ : ∃ d : Nat, (d : Int) = if P < -1022 then P + 1075 else 53 := by
        split
        · exact ⟨(P + 1075).toNat, by omega⟩
        · exact ⟨53, rfl⟩
      have hd53 : d ≤ 53 := by split at hd <;> omega
      refine iw_topi (y := iv ((d : Int))) (congrArg iv (by rw [hd]; (repeat split) <;> omega : ((if (((P) - (-1074)) + (1)) < (53) then (((P) - (-1074)) + (1)) else (53)) : Int) = ((d : Int)))) ?_
      refine ef_callV (As := [.int (iv ((d : Int)))]) (rest := []) ⟨hx, hb, hml, hown, hts⟩ (c_quotient l dC dI ht q hA1 hU1 hA2 hU2 (by assumption) (by omega) d hd53 hLR hbR) (cwV 1 hts gX2_roundedSize_X2_quotient rfl rfl rfl (by decide +kernel) ⟨Nat.le_of_ble_eq_true rfl, Nat.le_of_ble_eq_true rfl⟩) hK hNX hP hD hS 0 rfl rfl rfl rfl hl.1 rfl (Nat.le_of_ble_eq_true rfl) dX2_roundedSize_40 ⟨Nat.zero_le _, Nat.zero_le _⟩ (fun o w1 H locs hq hP hD hS => ?_)
      obtain ⟨f, X, rfl, rfl, hX, hX2, hf⟩ := hq
      have hP : va_P (dC, dI) vwCl (cC cI q (A1) (U1) (b1) (e1) (A2) (U2) (b2) (e2) (X) (R1)) H := hP
      have hD : va_D (ef_A (cC cI q (A1) (U1) (b1) (e1) (A2) (U2) (b2) (e2) (L) (R))) (cC cI q (A1) (U1) (b1) (e1) (A2) (U2) (b2) (e2) (X) (R1)) := hD
      refine W.eq (g2 := F0 m 43 ls [.long (jv ((f : Int)))]) rfl ?_
      have wX2 := wX X hX2
      have hf53 : f < 9007199254740992 := Nat.lt_of_lt_of_le hf (show 2 ^ d ≤ 2 ^ 53 from Nat.pow_le_pow_right (by decide) hd53)
      refine lv_lstore (lv' := [(4, .long (jv ((f : Int)))), (3, .int (iv (P))), (0, .ref (q 0)), (1, .ref (q 2)), (2, .int (iv (aw)))]) hx hb dX2_roundedSize_43 hl (by decide) rfl (fun ls hl => ?_)
      refine lv_iload_n hx hb dX2_roundedSize_45 rfl (lv_at hl 1 rfl) ?_
      refine lv_sipush (v := iv (-1022)) hx hb dX2_roundedSize_46 (by decide) ?_
      refine iw_icmp_le (tgt := 66) hx hb dX2_roundedSize_49 (by decide) ⟨by omega, by omega⟩ ⟨by omega, by omega⟩ (fun c2 => ?_) (fun c2 => ?_)
      ·
        have hfl : isFl f A2 U2 e2 ∧ (feq f A2 U2 e2 ↔ X = 0) := fl_sub nU nR1 hrel hp c2 (by split at hd <;> omega) hX hX2 hf
        have hz9 := rsz_of (aw := aw) hfl
        refine lv_iload_n hx hb dX2_roundedSize_66 rfl (lv_at hl 4 rfl) ?_
        refine iw_if_eq (tgt := 87) hx hb dX2_roundedSize_67 (by decide) (haw) (fun c7 => ?_) (fun c7 => ?_)
        ·
          refine lv_lload hx hb dX2_roundedSize_87 (lv_at hl 0 rfl) ?_
          exact ef_lret hx hb hr hlocks hP hD hS dX2_roundedSize_89 (⟨_, _, _, rfl, rfl, by assumption, by omega, hz9.1 (Or.inl c7)⟩)
        ·
          refine lv_aload_n hx hb dX2_roundedSize_70 rfl (lv_at hl 2 rfl) ?_
          refine va_get (D := (dC, dI)) (ci := 2) (v := .ref (q 11)) (C := RX2) (T := TX2) (N := 4) hx hb hts (by decide +kernel) hown hK hP 0 rfl rfl 2 (by decide) (hts (.fieldLink RX2 22 "ExactFractions" "left" "LExactFractions$Whole;") (by decide +kernel)) (fun _ h9 => h9) rfl dX2_roundedSize_71 ?_
          refine ef_callV (As := []) (rest := []) ⟨hx, hb, hml, hown, hts⟩ (c_isZero l dC dI ht (isW_c (X := X) (ws := cC cI q (A1) (U1) (b1) (e1) (A2) (U2) (b2) (e2) (X) (R1)) (k0 := 11) (k1 := 12) (by decide) rfl rfl) (by assumption)) (cwV 0 hts gX2_roundedSize_X1_isZero rfl rfl rfl (by decide +kernel) ⟨Nat.le_of_ble_eq_true rfl, Nat.le_of_ble_eq_true rfl⟩) hK hNX hP hD hS 11 rfl rfl rfl rfl hl.1 rfl (Nat.le_of_ble_eq_true rfl) dX2_roundedSize_74 ⟨Nat.zero_le _, Nat.zero_le _⟩ (fun o w1 H locs hq hP hD hS => ?_)
          obtain ⟨rfl, e9⟩ := hq
          rw [e9] at hP hD
          refine W.eq (g2 := F0 m 77 ls [.int (iv (if X = 0 then 1 else 0))]) rfl ?_
          have hc0 : ir (if X = 0 then 1 else 0) := by split <;> exact ⟨by omega, by omega⟩
          refine iw_if_ne (tgt := 87) hx hb dX2_roundedSize_77 (by decide) (hc0) (fun c8 => ?_) (fun c8 => ?_)
          ·
            have c9 : X = 0 := by
              by_cases q9 : X = 0
              · exact q9
              · rw [if_neg q9] at c8; exact absurd rfl c8
            refine lv_lload hx hb dX2_roundedSize_87 (lv_at hl 0 rfl) ?_
            exact ef_lret hx hb hr hlocks hP hD hS dX2_roundedSize_89 (⟨_, _, _, rfl, rfl, by assumption, by omega, hz9.1 (Or.inr c9)⟩)
          ·
            have c9 : X ≠ 0 := fun q9 => by rw [if_pos q9] at c8; exact absurd c8 (by decide)
            refine lv_lload hx hb dX2_roundedSize_80 (lv_at hl 0 rfl) ?_
            refine lv_lconst (v := jv (1)) hx hb dX2_roundedSize_82 (by decide) ?_
            refine iw_ladd hx hb dX2_roundedSize_83 ?_
            refine iw_topl (y := jv (((f + 1 : Nat) : Int))) (congrArg jv (by omega : ((((f : Int)) + (1)) : Int) = (((f + 1 : Nat) : Int)))) ?_
            refine lv_goto (tgt := 89) hx hb dX2_roundedSize_84 (by decide) ?_
            exact ef_lret hx hb hr hlocks hP hD hS dX2_roundedSize_89 (⟨_, _, _, rfl, rfl, by assumption, by omega, hz9.2 c7 c9⟩)
      ·
        have hdd : d = 53 := by split at hd <;> omega
        subst hdd
        obtain ⟨v, hv⟩ : ∃ v : Nat, (v : Int) = P + 1022 := ⟨(P + 1022).toNat, by omega⟩
        have hfl := fl_nor (w := v) nU nR1 hrel hRL (by omega) c1 hv hX hX2 hf
        refine lv_lload hx hb dX2_roundedSize_52 (lv_at hl 0 rfl) ?_
        refine lv_iload_n hx hb dX2_roundedSize_54 rfl (lv_at hl 1 rfl) ?_
        refine lv_sipush (v := iv (-1022)) hx hb dX2_roundedSize_55 (by decide) ?_
        refine iw_isub hx hb dX2_roundedSize_58 ?_
        refine iw_topi (y := iv ((v : Int))) (congrArg iv (by omega : (((P) - (-1022)) : Int) = ((v : Int)))) ?_
        refine iw_i2l hx hb ⟨by omega, by omega⟩ dX2_roundedSize_59 ?_
        refine lv_bipush (v := iv (52)) hx hb dX2_roundedSize_60 (by decide) ?_
        refine iw_topi (y := iv (((52 : Nat) : Int))) (congrArg iv (by omega : ((52) : Int) = (((52 : Nat) : Int)))) ?_
        refine iw_lshlk (w := v) (k := 52) hx hb (by decide) dX2_roundedSize_62 ?_
        refine iw_topl (y := jv (((v * 4503599627370496 : Nat) : Int))) (congrArg jv (by rfl : ((((v * 2 ^ 52 : Nat) : Int)) : Int) = (((v * 4503599627370496 : Nat) : Int)))) ?_
        refine iw_ladd hx hb dX2_roundedSize_63 ?_
        obtain ⟨mo, hmo⟩ : ∃ mo, mo = f + v * 4503599627370496 := ⟨_, rfl⟩
        rw [← hmo] at hfl
        refine iw_topl (y := jv ((mo : Int))) (congrArg jv (by omega : ((((f : Int)) + (((v * 4503599627370496 : Nat) : Int))) : Int) = ((mo : Int)))) ?_
        have hz9 := rsz_of (aw := aw) hfl
        refine lv_lstore (lv' := [(4, .long (jv ((mo : Int)))), (3, .int (iv (P))), (0, .ref (q 0)), (1, .ref (q 2)), (2, .int (iv (aw)))]) hx hb dX2_roundedSize_64 hl (by decide) rfl (fun ls hl => ?_)
        refine lv_iload_n hx hb dX2_roundedSize_66 rfl (lv_at hl 4 rfl) ?_
        refine iw_if_eq (tgt := 87) hx hb dX2_roundedSize_67 (by decide) (haw) (fun c7 => ?_) (fun c7 => ?_)
        ·
          refine lv_lload hx hb dX2_roundedSize_87 (lv_at hl 0 rfl) ?_
          exact ef_lret hx hb hr hlocks hP hD hS dX2_roundedSize_89 (⟨_, _, _, rfl, rfl, by assumption, by omega, hz9.1 (Or.inl c7)⟩)
        ·
          refine lv_aload_n hx hb dX2_roundedSize_70 rfl (lv_at hl 2 rfl) ?_
          refine va_get (D := (dC, dI)) (ci := 2) (v := .ref (q 11)) (C := RX2) (T := TX2) (N := 4) hx hb hts (by decide +kernel) hown hK hP 0 rfl rfl 2 (by decide) (hts (.fieldLink RX2 22 "ExactFractions" "left" "LExactFractions$Whole;") (by decide +kernel)) (fun _ h9 => h9) rfl dX2_roundedSize_71 ?_
          refine ef_callV (As := []) (rest := []) ⟨hx, hb, hml, hown, hts⟩ (c_isZero l dC dI ht (isW_c (X := X) (ws := cC cI q (A1) (U1) (b1) (e1) (A2) (U2) (b2) (e2) (X) (R1)) (k0 := 11) (k1 := 12) (by decide) rfl rfl) (by assumption)) (cwV 0 hts gX2_roundedSize_X1_isZero rfl rfl rfl (by decide +kernel) ⟨Nat.le_of_ble_eq_true rfl, Nat.le_of_ble_eq_true rfl⟩) hK hNX hP hD hS 11 rfl rfl rfl rfl hl.1 rfl (Nat.le_of_ble_eq_true rfl) dX2_roundedSize_74 ⟨Nat.zero_le _, Nat.zero_le _⟩ (fun o w1 H locs hq hP hD hS => ?_)
          obtain ⟨rfl, e9⟩ := hq
          rw [e9] at hP hD
          refine W.eq (g2 := F0 m 77 ls [.int (iv (if X = 0 then 1 else 0))]) rfl ?_
          have hc0 : ir (if X = 0 then 1 else 0) := by split <;> exact ⟨by omega, by omega⟩
          refine iw_if_ne (tgt := 87) hx hb dX2_roundedSize_77 (by decide) (hc0) (fun c8 => ?_) (fun c8 => ?_)
          ·
            have c9 : X = 0 := by
              by_cases q9 : X = 0
              · exact q9
              · rw [if_neg q9] at c8; exact absurd rfl c8
            refine lv_lload hx hb dX2_roundedSize_87 (lv_at hl 0 rfl) ?_
            exact ef_lret hx hb hr hlocks hP hD hS dX2_roundedSize_89 (⟨_, _, _, rfl, rfl, by assumption, by omega, hz9.1 (Or.inr c9)⟩)
          ·
            have c9 : X ≠ 0 := fun q9 => by rw [if_pos q9] at c8; exact absurd c8 (by decide)
            refine lv_lload hx hb dX2_roundedSize_80 (lv_at hl 0 rfl) ?_
            refine lv_lconst (v := jv (1)) hx hb dX2_roundedSize_82 (by decide) ?_
            refine iw_ladd hx hb dX2_roundedSize_83 ?_
            refine iw_topl (y := jv (((mo + 1 : Nat) : Int))) (congrArg jv (by omega : ((((mo : Int)) + (1)) : Int) = (((mo + 1 : Nat) : Int)))) ?_
            refine lv_goto (tgt := 89) hx hb dX2_roundedSize_84 (by decide) ?_
            exact ef_lret hx hb hr hlocks hP hD hS dX2_roundedSize_89 (⟨_, _, _, rfl, rfl, by assumption, by omega, hz9.2 c7 c9⟩)
  ·
    have hz8 := fl_inf nU nR1 hrel hRL c1
    refine lv_iload_n hx hb dX2_roundedSize_13 rfl (lv_at hl 3 rfl) ?_
    refine iw_if_eq (tgt := 23) hx hb dX2_roundedSize_14 (by decide) (haw) (fun c7 => ?_) (fun c7 => ?_)
    ·
      refine lv_ldc2 (v := jv (9218868437227405311)) hx hb hown (hts (.constantLong RX2 129 (jv (9218868437227405311))) (by decide +kernel)) dX2_roundedSize_23 ?_
      exact ef_lret hx hb hr hlocks hP hD hS dX2_roundedSize_26 (⟨_, _, 9218868437227405311, rfl, rfl, by assumption, by omega, 9218868437227405311, hz8.1, Or.inl ⟨Or.inl c7, rfl⟩⟩)
    ·
      refine lv_ldc2 (v := jv (9218868437227405312)) hx hb hown (hts (.constantLong RX2 127 (jv (9218868437227405312))) (by decide +kernel)) dX2_roundedSize_17 ?_
      refine lv_goto (tgt := 26) hx hb dX2_roundedSize_20 (by decide) ?_
      exact ef_lret hx hb hr hlocks hP hD hS dX2_roundedSize_26 (⟨_, _, 9218868437227405312, rfl, rfl, by assumption, by omega, 9218868437227405311, hz8.1, Or.inr ⟨⟨c7, hz8.2⟩, rfl⟩⟩)

set_option maxRecDepth 100000 in
set_option maxHeartbeats 4000000 in
/-- round -/
theorem c_round0 (l : Launch) (dC : Nat → ClassId) (dI : Nat → Nat → Nat) {cI : ClassId} {tys : List (ClassId × FieldType)} (ht : tys[0]? = some (cI, .int)) (q : Nat → Nat) {A1 U1 A2 U2 L R : Nat} {b1 e1 b2 e2 : Int} (hA1 : wl A1 ≤ 150) (hU1 : wl U1 ≤ 150) (hA2 : wl A2 ≤ 150) (hU2 : wl U2 ≤ 150) (hL : wl L ≤ 301) (hR : wl R ≤ 301) (bA1 : bl A1 ≤ 4800) (bU1 : bl U1 ≤ 4800) (bA2 : bl A2 ≤ 4800) (bU2 : bl U2 ≤ 4800) (le1 : -12000 ≤ e1) (ge1 : e1 ≤ 12000) (le2 : -12000 ≤ e2) (ge2 : e2 ≤ 12000) (nA : A1 ≠ 0) (nU : U1 ≠ 0) (up : Int) (hup : up = 0 ∨ up = 1) (hbo : b1 = 0 ∨ b1 = 1) : ef_C l yX2_round wsX2_round ({ frames := 6, cells := 0, slots := 0, locals := 139 } : Room) [.ref (q 0), .int (iv (0)), .int (iv (up))] (dC, dI) vwCl tys (cC cI q (A1) (U1) (b1) (e1) (A2) (U2) (b2) (e2) (L) (R)) (fun o w1 => ∃ (L2 R2 z : Nat), o = some (.long (jv (if b1 = 0 ∨ z = 0 then (z : Int) else (z : Int) - 9223372036854775808))) ∧ w1 = cC cI q (A1) (U1) (b1) (e1) (A2) (U2) (b2) (e2) (L2) (R2) ∧ wl L2 ≤ 301 ∧ wl R2 ≤ 301 ∧ rsz A1 U1 e1 (if up = b1 then 0 else 1) z) := by
  refine ef_C.of (cc := cX2_round) (maxL := 6) (ret := (some .long)) (by decide) rfl (Nat.le_of_ble_eq_true rfl) ?_
  intro p e s m below meth c ls hx hb hml hr hts hown hlocks hK hNX hP hD hS hl
  have hl : lv_has ls 6 [(0, .ref (q 0)), (1, .int (iv (0))), (2, .int (iv (up)))] := hl
  have hown : s.vm.findClass RX2 = some m.cls := hown
  generalize hH : s.heap = H at hP ⊢
  have hS : va_S (ef_A (cC cI q (A1) (U1) (b1) (e1) (A2) (U2) (b2) (e2) (L) (R))) s.heap H [] := by rw [← hH]; exact hS
  generalize ([] : List Loc) = locs at hS ⊢
  have hur : ir up := by rcases hup with h | h <;> rw [h] <;> exact ⟨by decide, by decide⟩
  have hbr : ir b1 := by rcases hbo with h | h <;> rw [h] <;> exact ⟨by decide, by decide⟩
  refine lv_aload_n hx hb dX2_round_0 rfl (lv_at hl 0 rfl) ?_
  refine lv_iload_n hx hb dX2_round_1 rfl (lv_at hl 1 rfl) ?_
  refine ef_callV (As := [.int (iv (0))]) (rest := []) ⟨hx, hb, hml, hown, hts⟩ (c_numberOf0 l dC dI ht q) (cwV 1 hts gX2_round_X2_numberOf rfl rfl rfl (by decide +kernel) ⟨Nat.le_of_ble_eq_true rfl, Nat.le_of_ble_eq_true rfl⟩) hK hNX hP hD hS 0 rfl rfl rfl rfl hl.1 rfl (Nat.le_of_ble_eq_true rfl) dX2_round_2 ⟨Nat.zero_le _, Nat.zero_le _⟩ (fun o w1 H locs hq hP hD hS => ?_)
  obtain ⟨rfl, e9⟩ := hq
  rw [e9] at hP hD
  refine W.eq (g2 := F0 m 5 ls [.ref (q 1)]) rfl ?_
  refine lv_astore_n (lv' := [(3, .ref (q 1)), (0, .ref (q 0)), (1, .int (iv (0))), (2, .int (iv (up)))]) hx hb dX2_round_5 rfl hl (by decide) rfl (fun ls hl => ?_)
  refine lv_aload_n hx hb dX2_round_6 rfl (lv_at hl 0 rfl) ?_
  refine lv_ifnonnull (tgt := 14) hx hb dX2_round_7 (by decide) ?_
  refine lv_aload_n hx hb dX2_round_14 rfl (lv_at hl 0 rfl) ?_
  refine va_get (D := (dC, dI)) (ci := 0) (v := .ref (q 3)) (C := RX0) (T := TX0) (N := 4) hx hb hts (by decide +kernel) hown hK hP 1 rfl rfl 0 (by decide) (hts (.fieldLink RX2 65 "ExactFractions$Fraction" "above" "LExactFractions$Whole;") (by decide +kernel)) (fun _ h9 => h9) rfl dX2_round_15 ?_
  refine ef_callV (As := []) (rest := []) ⟨hx, hb, hml, hown, hts⟩ (c_isZero l dC dI ht (isW_c (X := A1) (ws := cC cI q (A1) (U1) (b1) (e1) (A2) (U2) (b2) (e2) (L) (R)) (k0 := 3) (k1 := 4) (by decide) rfl rfl) (by omega)) (cwV 0 hts gX2_round_X1_isZero rfl rfl rfl (by decide +kernel) ⟨Nat.le_of_ble_eq_true rfl, Nat.le_of_ble_eq_true rfl⟩) hK hNX hP hD hS 3 rfl rfl rfl rfl hl.1 rfl (Nat.le_of_ble_eq_true rfl) dX2_round_18 ⟨Nat.zero_le _, Nat.zero_le _⟩ (fun o w1 H locs hq hP hD hS => ?_)
  obtain ⟨rfl, e9⟩ := hq
  rw [e9] at hP hD
  refine W.eq (g2 := F0 m 21 ls [.int (iv (if A1 = 0 then 1 else 0))]) rfl ?_
  refine iw_topi (y := iv (0)) (congrArg iv (by rw [if_neg nA] : ((if A1 = 0 then 1 else 0) : Int) = (0))) ?_
  refine iw_if_eq (tgt := 26) hx hb dX2_round_21 (by decide) ⟨by omega, by omega⟩ (fun c1 => ?_) (fun c1 => ?_)
  ·
    refine lv_aload_n hx hb dX2_round_26 rfl (lv_at hl 1 rfl) ?_
    refine lv_aload_n hx hb dX2_round_27 rfl (lv_at hl 0 rfl) ?_
    refine lv_iload_n hx hb dX2_round_28 rfl (lv_at hl 3 rfl) ?_
    refine lv_aload_n hx hb dX2_round_29 rfl (lv_at hl 0 rfl) ?_
    refine va_get (D := (dC, dI)) (ci := 0) (v := .int (iv (b1))) (C := RX0) (T := TX0) (N := 4) hx hb hts (by decide +kernel) hown hK hP 1 rfl rfl 2 (by decide) (hts (.fieldLink RX2 57 "ExactFractions$Fraction" "below" "Z") (by decide +kernel)) (fun _ h9 => h9) rfl dX2_round_30 ?_
    refine iw_icmp_eq (tgt := 40) hx hb dX2_round_33 (by decide) (hur) (hbr) (fun c2 => ?_) (fun c2 => ?_)
    ·
      refine lv_iconst (v := iv (0)) hx hb dX2_round_40 (by decide) ?_
      refine ef_callV (As := [.ref (q 1), .int (iv (0))]) (rest := []) ⟨hx, hb, hml, hown, hts⟩ (c_roundedSize0 l dC dI ht q hA1 hU1 hA2 hU2 hL hR bA1 bU1 bA2 bU2 le1 ge1 le2 ge2 nA nU 0 ⟨by decide, by decide⟩) (cwV 2 hts gX2_round_X2_roundedSize rfl rfl rfl (by decide +kernel) ⟨Nat.le_of_ble_eq_true rfl, Nat.le_of_ble_eq_true rfl⟩) hK hNX hP hD hS 0 rfl rfl rfl rfl hl.1 rfl (Nat.le_of_ble_eq_true rfl) dX2_round_41 ⟨Nat.zero_le _, Nat.zero_le _⟩ (fun o w1 H locs hq hP hD hS => ?_)
      obtain ⟨L2, R2, z, rfl, rfl, hL2, hR2, hrz⟩ := hq
      have hP : va_P (dC, dI) vwCl (cC cI q (A1) (U1) (b1) (e1) (A2) (U2) (b2) (e2) (L2) (R2)) H := hP
      have hD : va_D (ef_A (cC cI q (A1) (U1) (b1) (e1) (A2) (U2) (b2) (e2) (L) (R))) (cC cI q (A1) (U1) (b1) (e1) (A2) (U2) (b2) (e2) (L2) (R2)) := hD
      refine W.eq (g2 := F0 m 44 ls [.long (jv ((z : Int)))]) rfl ?_
      have hzb : z ≤ 9218868437227405312 := rsz_le hrz
      rw [if_pos c2]
      refine lv_lstore (lv' := [(4, .long (jv ((z : Int)))), (3, .ref (q 1)), (0, .ref (q 0)), (1, .int (iv (0))), (2, .int (iv (up)))]) hx hb dX2_round_44 hl (by decide) rfl (fun ls hl => ?_)
      refine lv_aload_n hx hb dX2_round_46 rfl (lv_at hl 1 rfl) ?_
      refine va_get (D := (dC, dI)) (ci := 0) (v := .int (iv (b1))) (C := RX0) (T := TX0) (N := 4) hx hb hts (by decide +kernel) hown hK hP 1 rfl rfl 2 (by decide) (hts (.fieldLink RX2 57 "ExactFractions$Fraction" "below" "Z") (by decide +kernel)) (fun _ h9 => h9) rfl dX2_round_47 ?_
      refine iw_if_eq (tgt := 69) hx hb dX2_round_50 (by decide) (hbr) (fun c4 => ?_) (fun c4 => ?_)
      ·
        refine lv_lload hx hb dX2_round_69 (lv_at hl 0 rfl) ?_
        exact ef_lret hx hb hr hlocks hP hD hS dX2_round_71 (⟨_, _, z, by rw [if_pos (Or.inl c4)], rfl, hL2, hR2, hrz⟩)
      ·
        refine lv_lload hx hb dX2_round_53 (lv_at hl 0 rfl) ?_
        refine lv_lconst (v := jv (0)) hx hb dX2_round_55 (by decide) ?_
        refine iw_lcmp hx hb (⟨by omega, by omega⟩) (⟨by omega, by omega⟩) dX2_round_56 ?_
        refine iw_if_eq (tgt := 69) hx hb dX2_round_57 (by decide) (ir_zc _ _) (fun c5 => ?_) (fun c5 => ?_)
        ·
          have c6 : z = 0 := by have := (zc_0 _ _).1 c5; omega
          refine lv_lload hx hb dX2_round_69 (lv_at hl 0 rfl) ?_
          exact ef_lret hx hb hr hlocks hP hD hS dX2_round_71 (⟨_, _, z, by rw [if_pos (Or.inr c6)], rfl, hL2, hR2, hrz⟩)
        ·
          have c6 : z ≠ 0 := fun q9 => c5 ((zc_0 _ _).2 (by omega))
          refine lv_lload hx hb dX2_round_60 (lv_at hl 0 rfl) ?_
          refine lv_ldc2 (v := jv (-9223372036854775808)) hx hb hown (hts (.constantLong RX2 101 (jv (-9223372036854775808))) (by decide +kernel)) dX2_round_62 ?_
          refine iw_lorS hx hb (by omega) dX2_round_65 ?_
          refine lv_goto (tgt := 71) hx hb dX2_round_66 (by decide) ?_
          exact ef_lret hx hb hr hlocks hP hD hS dX2_round_71 (⟨_, _, z, by rw [if_neg (fun q9 => q9.elim c4 c6)], rfl, hL2, hR2, hrz⟩)
    ·
      refine lv_iconst (v := iv (1)) hx hb dX2_round_36 (by decide) ?_
      refine lv_goto (tgt := 41) hx hb dX2_round_37 (by decide) ?_
      refine ef_callV (As := [.ref (q 1), .int (iv (1))]) (rest := []) ⟨hx, hb, hml, hown, hts⟩ (c_roundedSize0 l dC dI ht q hA1 hU1 hA2 hU2 hL hR bA1 bU1 bA2 bU2 le1 ge1 le2 ge2 nA nU 1 ⟨by decide, by decide⟩) (cwV 2 hts gX2_round_X2_roundedSize rfl rfl rfl (by decide +kernel) ⟨Nat.le_of_ble_eq_true rfl, Nat.le_of_ble_eq_true rfl⟩) hK hNX hP hD hS 0 rfl rfl rfl rfl hl.1 rfl (Nat.le_of_ble_eq_true rfl) dX2_round_41 ⟨Nat.zero_le _, Nat.zero_le _⟩ (fun o w1 H locs hq hP hD hS => ?_)
      obtain ⟨L2, R2, z, rfl, rfl, hL2, hR2, hrz⟩ := hq
      have hP : va_P (dC, dI) vwCl (cC cI q (A1) (U1) (b1) (e1) (A2) (U2) (b2) (e2) (L2) (R2)) H := hP
      have hD : va_D (ef_A (cC cI q (A1) (U1) (b1) (e1) (A2) (U2) (b2) (e2) (L) (R))) (cC cI q (A1) (U1) (b1) (e1) (A2) (U2) (b2) (e2) (L2) (R2)) := hD
      refine W.eq (g2 := F0 m 44 ls [.long (jv ((z : Int)))]) rfl ?_
      have hzb : z ≤ 9218868437227405312 := rsz_le hrz
      rw [if_neg c2]
      refine lv_lstore (lv' := [(4, .long (jv ((z : Int)))), (3, .ref (q 1)), (0, .ref (q 0)), (1, .int (iv (0))), (2, .int (iv (up)))]) hx hb dX2_round_44 hl (by decide) rfl (fun ls hl => ?_)
      refine lv_aload_n hx hb dX2_round_46 rfl (lv_at hl 1 rfl) ?_
      refine va_get (D := (dC, dI)) (ci := 0) (v := .int (iv (b1))) (C := RX0) (T := TX0) (N := 4) hx hb hts (by decide +kernel) hown hK hP 1 rfl rfl 2 (by decide) (hts (.fieldLink RX2 57 "ExactFractions$Fraction" "below" "Z") (by decide +kernel)) (fun _ h9 => h9) rfl dX2_round_47 ?_
      refine iw_if_eq (tgt := 69) hx hb dX2_round_50 (by decide) (hbr) (fun c4 => ?_) (fun c4 => ?_)
      ·
        refine lv_lload hx hb dX2_round_69 (lv_at hl 0 rfl) ?_
        exact ef_lret hx hb hr hlocks hP hD hS dX2_round_71 (⟨_, _, z, by rw [if_pos (Or.inl c4)], rfl, hL2, hR2, hrz⟩)
      ·
        refine lv_lload hx hb dX2_round_53 (lv_at hl 0 rfl) ?_
        refine lv_lconst (v := jv (0)) hx hb dX2_round_55 (by decide) ?_
        refine iw_lcmp hx hb (⟨by omega, by omega⟩) (⟨by omega, by omega⟩) dX2_round_56 ?_
        refine iw_if_eq (tgt := 69) hx hb dX2_round_57 (by decide) (ir_zc _ _) (fun c5 => ?_) (fun c5 => ?_)
        ·
          have c6 : z = 0 := by have := (zc_0 _ _).1 c5; omega
          refine lv_lload hx hb dX2_round_69 (lv_at hl 0 rfl) ?_
          exact ef_lret hx hb hr hlocks hP hD hS dX2_round_71 (⟨_, _, z, by rw [if_pos (Or.inr c6)], rfl, hL2, hR2, hrz⟩)
        ·
          have c6 : z ≠ 0 := fun q9 => c5 ((zc_0 _ _).2 (by omega))
          refine lv_lload hx hb dX2_round_60 (lv_at hl 0 rfl) ?_
          refine lv_ldc2 (v := jv (-9223372036854775808)) hx hb hown (hts (.constantLong RX2 101 (jv (-9223372036854775808))) (by decide +kernel)) dX2_round_62 ?_
          refine iw_lorS hx hb (by omega) dX2_round_65 ?_
          refine lv_goto (tgt := 71) hx hb dX2_round_66 (by decide) ?_
          exact ef_lret hx hb hr hlocks hP hD hS dX2_round_71 (⟨_, _, z, by rw [if_neg (fun q9 => q9.elim c4 c6)], rfl, hL2, hR2, hrz⟩)
  ·
    exact absurd rfl c1

set_option maxRecDepth 100000 in
set_option maxHeartbeats 4000000 in
/-- round of 0 -/
theorem c_round0Z (l : Launch) (dC : Nat → ClassId) (dI : Nat → Nat → Nat) {cI : ClassId} {tys : List (ClassId × FieldType)} (ht : tys[0]? = some (cI, .int)) (q : Nat → Nat) {A1 U1 A2 U2 L R : Nat} {b1 e1 b2 e2 : Int} (hA1 : wl A1 ≤ 150) (hU1 : wl U1 ≤ 150) (hA2 : wl A2 ≤ 150) (hU2 : wl U2 ≤ 150) (hL : wl L ≤ 301) (hR : wl R ≤ 301) (nA : A1 = 0) (up : Int) : ef_C l yX2_round wsX2_round ({ frames := 6, cells := 0, slots := 0, locals := 139 } : Room) [.ref (q 0), .int (iv (0)), .int (iv (up))] (dC, dI) vwCl tys (cC cI q (A1) (U1) (b1) (e1) (A2) (U2) (b2) (e2) (L) (R)) (fun o w1 => ∃ L2 R2 : Nat, o = some (.long (jv 0)) ∧ w1 = cC cI q (A1) (U1) (b1) (e1) (A2) (U2) (b2) (e2) (L2) (R2) ∧ wl L2 ≤ 301 ∧ wl R2 ≤ 301) := by
  refine ef_C.of (cc := cX2_round) (maxL := 6) (ret := (some .long)) (by decide) rfl (Nat.le_of_ble_eq_true rfl) ?_
  intro p e s m below meth c ls hx hb hml hr hts hown hlocks hK hNX hP hD hS hl
  have hl : lv_has ls 6 [(0, .ref (q 0)), (1, .int (iv (0))), (2, .int (iv (up)))] := hl
  have hown : s.vm.findClass RX2 = some m.cls := hown
  generalize hH : s.heap = H at hP ⊢
  have hS : va_S (ef_A (cC cI q (A1) (U1) (b1) (e1) (A2) (U2) (b2) (e2) (L) (R))) s.heap H [] := by rw [← hH]; exact hS
  generalize ([] : List Loc) = locs at hS ⊢
  refine lv_aload_n hx hb dX2_round_0 rfl (lv_at hl 0 rfl) ?_
  refine lv_iload_n hx hb dX2_round_1 rfl (lv_at hl 1 rfl) ?_
  refine ef_callV (As := [.int (iv (0))]) (rest := []) ⟨hx, hb, hml, hown, hts⟩ (c_numberOf0 l dC dI ht q) (cwV 1 hts gX2_round_X2_numberOf rfl rfl rfl (by decide +kernel) ⟨Nat.le_of_ble_eq_true rfl, Nat.le_of_ble_eq_true rfl⟩) hK hNX hP hD hS 0 rfl rfl rfl rfl hl.1 rfl (Nat.le_of_ble_eq_true rfl) dX2_round_2 ⟨Nat.zero_le _, Nat.zero_le _⟩ (fun o w1 H locs hq hP hD hS => ?_)
  obtain ⟨rfl, e9⟩ := hq
  rw [e9] at hP hD
  refine W.eq (g2 := F0 m 5 ls [.ref (q 1)]) rfl ?_
  refine lv_astore_n (lv' := [(3, .ref (q 1)), (0, .ref (q 0)), (1, .int (iv (0))), (2, .int (iv (up)))]) hx hb dX2_round_5 rfl hl (by decide) rfl (fun ls hl => ?_)
  refine lv_aload_n hx hb dX2_round_6 rfl (lv_at hl 0 rfl) ?_
  refine lv_ifnonnull (tgt := 14) hx hb dX2_round_7 (by decide) ?_
  refine lv_aload_n hx hb dX2_round_14 rfl (lv_at hl 0 rfl) ?_
  refine va_get (D := (dC, dI)) (ci := 0) (v := .ref (q 3)) (C := RX0) (T := TX0) (N := 4) hx hb hts (by decide +kernel) hown hK hP 1 rfl rfl 0 (by decide) (hts (.fieldLink RX2 65 "ExactFractions$Fraction" "above" "LExactFractions$Whole;") (by decide +kernel)) (fun _ h9 => h9) rfl dX2_round_15 ?_
  refine ef_callV (As := []) (rest := []) ⟨hx, hb, hml, hown, hts⟩ (c_isZero l dC dI ht (isW_c (X := A1) (ws := cC cI q (A1) (U1) (b1) (e1) (A2) (U2) (b2) (e2) (L) (R)) (k0 := 3) (k1 := 4) (by decide) rfl rfl) (by omega)) (cwV 0 hts gX2_round_X1_isZero rfl rfl rfl (by decide +kernel) ⟨Nat.le_of_ble_eq_true rfl, Nat.le_of_ble_eq_true rfl⟩) hK hNX hP hD hS 3 rfl rfl rfl rfl hl.1 rfl (Nat.le_of_ble_eq_true rfl) dX2_round_18 ⟨Nat.zero_le _, Nat.zero_le _⟩ (fun o w1 H locs hq hP hD hS => ?_)
  obtain ⟨rfl, e9⟩ := hq
  rw [e9] at hP hD
  refine W.eq (g2 := F0 m 21 ls [.int (iv (if A1 = 0 then 1 else 0))]) rfl ?_
  refine iw_topi (y := iv (1)) (congrArg iv (by rw [if_pos nA] : ((if A1 = 0 then 1 else 0) : Int) = (1))) ?_
  refine iw_if_eq (tgt := 26) hx hb dX2_round_21 (by decide) ⟨by omega, by omega⟩ (fun c1 => ?_) (fun c1 => ?_)
  ·
    exact absurd c1 (by decide)
  ·
    refine lv_lconst (v := jv (0)) hx hb dX2_round_24 (by decide) ?_
    exact ef_lret hx hb hr hlocks hP hD hS dX2_round_25 (⟨_, _, rfl, rfl, hL, hR⟩)

set_option maxRecDepth 100000 in
set_option maxHeartbeats 4000000 in
/-- round -/
theorem c_round1 (l : Launch) (dC : Nat → ClassId) (dI : Nat → Nat → Nat) {cI : ClassId} {tys : List (ClassId × FieldType)} (ht : tys[0]? = some (cI, .int)) (q : Nat → Nat) {A1 U1 A2 U2 L R : Nat} {b1 e1 b2 e2 : Int} (hA1 : wl A1 ≤ 150) (hU1 : wl U1 ≤ 150) (hA2 : wl A2 ≤ 150) (hU2 : wl U2 ≤ 150) (hL : wl L ≤ 301) (hR : wl R ≤ 301) (bA1 : bl A1 ≤ 4800) (bU1 : bl U1 ≤ 4800) (bA2 : bl A2 ≤ 4800) (bU2 : bl U2 ≤ 4800) (le1 : -12000 ≤ e1) (ge1 : e1 ≤ 12000) (le2 : -12000 ≤ e2) (ge2 : e2 ≤ 12000) (nA : A2 ≠ 0) (nU : U2 ≠ 0) (up : Int) (hup : up = 0 ∨ up = 1) (hbo : b2 = 0 ∨ b2 = 1) : ef_C l yX2_round wsX2_round ({ frames := 6, cells := 0, slots := 0, locals := 139 } : Room) [.ref (q 0), .int (iv (1)), .int (iv (up))] (dC, dI) vwCl tys (cC cI q (A1) (U1) (b1) (e1) (A2) (U2) (b2) (e2) (L) (R)) (fun o w1 => ∃ (L2 R2 z : Nat), o = some (.long (jv (if b2 = 0 ∨ z = 0 then (z : Int) else (z : Int) - 9223372036854775808))) ∧ w1 = cC cI q (A1) (U1) (b1) (e1) (A2) (U2) (b2) (e2) (L2) (R2) ∧ wl L2 ≤ 301 ∧ wl R2 ≤ 301 ∧ rsz A2 U2 e2 (if up = b2 then 0 else 1) z) := by
  refine ef_C.of (cc := cX2_round) (maxL := 6) (ret := (some .long)) (by decide) rfl (Nat.le_of_ble_eq_true rfl) ?_
  intro p e s m below meth c ls hx hb hml hr hts hown hlocks hK hNX hP hD hS hl
  have hl : lv_has ls 6 [(0, .ref (q 0)), (1, .int (iv (1))), (2, .int (iv (up)))] := hl
  have hown : s.vm.findClass RX2 = some m.cls := hown
  generalize hH : s.heap = H at hP ⊢
  have hS : va_S (ef_A (cC cI q (A1) (U1) (b1) (e1) (A2) (U2) (b2) (e2) (L) (R))) s.heap H [] := by rw [← hH]; exact hS
  generalize ([] : List Loc) = locs at hS ⊢
  have hur : ir up := by rcases hup with h | h <;> rw [h] <;> exact ⟨by decide, by decide⟩
  have hbr : ir b2 := by rcases hbo with h | h <;> rw [h] <;> exact ⟨by decide, by decide⟩
  refine lv_aload_n hx hb dX2_round_0 rfl (lv_at hl 0 rfl) ?_
  refine lv_iload_n hx hb dX2_round_1 rfl (lv_at hl 1 rfl) ?_
  refine ef_callV (As := [.int (iv (1))]) (rest := []) ⟨hx, hb, hml, hown, hts⟩ (c_numberOf1 l dC dI ht q) (cwV 1 hts gX2_round_X2_numberOf rfl rfl rfl (by decide +kernel) ⟨Nat.le_of_ble_eq_true rfl, Nat.le_of_ble_eq_true rfl⟩) hK hNX hP hD hS 0 rfl rfl rfl rfl hl.1 rfl (Nat.le_of_ble_eq_true rfl) dX2_round_2 ⟨Nat.zero_le _, Nat.zero_le _⟩ (fun o w1 H locs hq hP hD hS => ?_)
  obtain ⟨rfl, e9⟩ := hq
  rw [e9] at hP hD
  refine W.eq (g2 := F0 m 5 ls [.ref (q 2)]) rfl ?_
  refine lv_astore_n (lv' := [(3, .ref (q 2)), (0, .ref (q 0)), (1, .int (iv (1))), (2, .int (iv (up)))]) hx hb dX2_round_5 rfl hl (by decide) rfl (fun ls hl => ?_)
  refine lv_aload_n hx hb dX2_round_6 rfl (lv_at hl 0 rfl) ?_
  refine lv_ifnonnull (tgt := 14) hx hb dX2_round_7 (by decide) ?_
  refine lv_aload_n hx hb dX2_round_14 rfl (lv_at hl 0 rfl) ?_
  refine va_get (D := (dC, dI)) (ci := 0) (v := .ref (q 7)) (C := RX0) (T := TX0) (N := 4) hx hb hts (by decide +kernel) hown hK hP 2 rfl rfl 0 (by decide) (hts (.fieldLink RX2 65 "ExactFractions$Fraction" "above" "LExactFractions$Whole;") (by decide +kernel)) (fun _ h9 => h9) rfl dX2_round_15 ?_
  refine ef_callV (As := []) (rest := []) ⟨hx, hb, hml, hown, hts⟩ (c_isZero l dC dI ht (isW_c (X := A2) (ws := cC cI q (A1) (U1) (b1) (e1) (A2) (U2) (b2) (e2) (L) (R)) (k0 := 7) (k1 := 8) (by decide) rfl rfl) (by omega)) (cwV 0 hts gX2_round_X1_isZero rfl rfl rfl (by decide +kernel) ⟨Nat.le_of_ble_eq_true rfl, Nat.le_of_ble_eq_true rfl⟩) hK hNX hP hD hS 7 rfl rfl rfl rfl hl.1 rfl (Nat.le_of_ble_eq_true rfl) dX2_round_18 ⟨Nat.zero_le _, Nat.zero_le _⟩ (fun o w1 H locs hq hP hD hS => ?_)
  obtain ⟨rfl, e9⟩ := hq
  rw [e9] at hP hD
  refine W.eq (g2 := F0 m 21 ls [.int (iv (if A2 = 0 then 1 else 0))]) rfl ?_
  refine iw_topi (y := iv (0)) (congrArg iv (by rw [if_neg nA] : ((if A2 = 0 then 1 else 0) : Int) = (0))) ?_
  refine iw_if_eq (tgt := 26) hx hb dX2_round_21 (by decide) ⟨by omega, by omega⟩ (fun c1 => ?_) (fun c1 => ?_)
  ·
    refine lv_aload_n hx hb dX2_round_26 rfl (lv_at hl 1 rfl) ?_
    refine lv_aload_n hx hb dX2_round_27 rfl (lv_at hl 0 rfl) ?_
    refine lv_iload_n hx hb dX2_round_28 rfl (lv_at hl 3 rfl) ?_
    refine lv_aload_n hx hb dX2_round_29 rfl (lv_at hl 0 rfl) ?_
    refine va_get (D := (dC, dI)) (ci := 0) (v := .int (iv (b2))) (C := RX0) (T := TX0) (N := 4) hx hb hts (by decide +kernel) hown hK hP 2 rfl rfl 2 (by decide) (hts (.fieldLink RX2 57 "ExactFractions$Fraction" "below" "Z") (by decide +kernel)) (fun _ h9 => h9) rfl dX2_round_30 ?_
    refine iw_icmp_eq (tgt := 40) hx hb dX2_round_33 (by decide) (hur) (hbr) (fun c2 => ?_) (fun c2 => ?_)
    ·
      refine lv_iconst (v := iv (0)) hx hb dX2_round_40 (by decide) ?_
      refine ef_callV (As := [.ref (q 2), .int (iv (0))]) (rest := []) ⟨hx, hb, hml, hown, hts⟩ (c_roundedSize1 l dC dI ht q hA1 hU1 hA2 hU2 hL hR bA1 bU1 bA2 bU2 le1 ge1 le2 ge2 nA nU 0 ⟨by decide, by decide⟩) (cwV 2 hts gX2_round_X2_roundedSize rfl rfl rfl (by decide +kernel) ⟨Nat.le_of_ble_eq_true rfl, Nat.le_of_ble_eq_true rfl⟩) hK hNX hP hD hS 0 rfl rfl rfl rfl hl.1 rfl (Nat.le_of_ble_eq_true rfl) dX2_round_41 ⟨Nat.zero_le _, Nat.zero_le _⟩ (fun o w1 H locs hq hP hD hS => ?_)
      obtain ⟨L2, R2, z, rfl, rfl, hL2, hR2, hrz⟩ := hq
      have hP : va_P (dC, dI) vwCl (cC cI q (A1) (U1) (b1) (e1) (A2) (U2) (b2) (e2) (L2) (R2)) H := hP
      have hD : va_D (ef_A (cC cI q (A1) (U1) (b1) (e1) (A2) (U2) (b2) (e2) (L) (R))) (cC cI q (A1) (U1) (b1) (e1) (A2) (U2) (b2) (e2) (L2) (R2)) := hD
      refine W.eq (g2 := F0 m 44 ls [.long (jv ((z : Int)))]) rfl ?_
      have hzb : z ≤ 9218868437227405312 := rsz_le hrz
      rw [if_pos c2]
      refine lv_lstore (lv' := [(4, .long (jv ((z : Int)))), (3, .ref (q 2)), (0, .ref (q 0)), (1, .int (iv (1))), (2, .int (iv (up)))]) hx hb dX2_round_44 hl (by decide) rfl (fun ls hl => ?_)
      refine lv_aload_n hx hb dX2_round_46 rfl (lv_at hl 1 rfl) ?_
      refine va_get (D := (dC, dI)) (ci := 0) (v := .int (iv (b2))) (C := RX0) (T := TX0) (N := 4) hx hb hts (by decide +kernel) hown hK hP 2 rfl rfl 2 (by decide) (hts (.fieldLink RX2 57 "ExactFractions$Fraction" "below" "Z") (by decide +kernel)) (fun _ h9 => h9) rfl dX2_round_47 ?_
      refine iw_if_eq (tgt := 69) hx hb dX2_round_50 (by decide) (hbr) (fun c4 => ?_) (fun c4 => ?_)
      ·
        refine lv_lload hx hb dX2_round_69 (lv_at hl 0 rfl) ?_
        exact ef_lret hx hb hr hlocks hP hD hS dX2_round_71 (⟨_, _, z, by rw [if_pos (Or.inl c4)], rfl, hL2, hR2, hrz⟩)
      ·
        refine lv_lload hx hb dX2_round_53 (lv_at hl 0 rfl) ?_
        refine lv_lconst (v := jv (0)) hx hb dX2_round_55 (by decide) ?_
        refine iw_lcmp hx hb (⟨by omega, by omega⟩) (⟨by omega, by omega⟩) dX2_round_56 ?_
        refine iw_if_eq (tgt := 69) hx hb dX2_round_57 (by decide) (ir_zc _ _) (fun c5 => ?_) (fun c5 => ?_)
        ·
          have c6 : z = 0 := by have := (zc_0 _ _).1 c5; omega
          refine lv_lload hx hb dX2_round_69 (lv_at hl 0 rfl) ?_
          exact ef_lret hx hb hr hlocks hP hD hS dX2_round_71 (⟨_, _, z, by rw [if_pos (Or.inr c6)], rfl, hL2, hR2, hrz⟩)
        ·
          have c6 : z ≠ 0 := fun q9 => c5 ((zc_0 _ _).2 (by omega))
          refine lv_lload hx hb dX2_round_60 (lv_at hl 0 rfl) ?_
          refine lv_ldc2 (v := jv (-9223372036854775808)) hx hb hown (hts (.constantLong RX2 101 (jv (-9223372036854775808))) (by decide +kernel)) dX2_round_62 ?_
          refine iw_lorS hx hb (by omega) dX2_round_65 ?_
          refine lv_goto (tgt := 71) hx hb dX2_round_66 (by decide) ?_
          exact ef_lret hx hb hr hlocks hP hD hS dX2_round_71 (⟨_, _, z, by rw [if_neg (fun q9 => q9.elim c4 c6)], rfl, hL2, hR2, hrz⟩)
    ·
      refine lv_iconst (v := iv (1)) hx hb dX2_round_36 (by decide) ?_
      refine lv_goto (tgt := 41) hx hb dX2_round_37 (by decide) ?_
      refine ef_callV (As := [.ref (q 2), .int (iv (1))]) (rest := []) ⟨hx, hb, hml, hown, hts⟩ (c_roundedSize1 l dC dI ht q hA1 hU1 hA2 hU2 hL hR bA1 bU1 bA2 bU2 le1 ge1 le2 ge2 nA nU 1 ⟨by decide, by decide⟩) (cwV 2 hts gX2_round_X2_roundedSize rfl rfl rfl (by decide +kernel) ⟨Nat.le_of_ble_eq_true rfl, Nat.le_of_ble_eq_true rfl⟩) hK hNX hP hD hS 0 rfl rfl rfl rfl hl.1 rfl (Nat.le_of_ble_eq_true rfl) dX2_round_41 ⟨Nat.zero_le _, Nat.zero_le _⟩ (fun o w1 H locs hq hP hD hS => ?_)
      obtain ⟨L2, R2, z, rfl, rfl, hL2, hR2, hrz⟩ := hq
      have hP : va_P (dC, dI) vwCl (cC cI q (A1) (U1) (b1) (e1) (A2) (U2) (b2) (e2) (L2) (R2)) H := hP
      have hD : va_D (ef_A (cC cI q (A1) (U1) (b1) (e1) (A2) (U2) (b2) (e2) (L) (R))) (cC cI q (A1) (U1) (b1) (e1) (A2) (U2) (b2) (e2) (L2) (R2)) := hD
      refine W.eq (g2 := F0 m 44 ls [.long (jv ((z : Int)))]) rfl ?_
      have hzb : z ≤ 9218868437227405312 := rsz_le hrz
      rw [if_neg c2]
      refine lv_lstore (lv' := [(4, .long (jv ((z : Int)))), (3, .ref (q 2)), (0, .ref (q 0)), (1, .int (iv (1))), (2, .int (iv (up)))]) hx hb dX2_round_44 hl (by decide) rfl (fun ls hl => ?_)
      refine lv_aload_n hx hb dX2_round_46 rfl (lv_at hl 1 rfl) ?_
      refine va_get (D := (dC, dI)) (ci := 0) (v := .int (iv (b2))) (C := RX0) (T := TX0) (N := 4) hx hb hts (by decide +kernel) hown hK hP 2 rfl rfl 2 (by decide) (hts (.fieldLink RX2 57 "ExactFractions$Fraction" "below" "Z") (by decide +kernel)) (fun _ h9 => h9) rfl dX2_round_47 ?_
      refine iw_if_eq (tgt := 69) hx hb dX2_round_50 (by decide) (hbr) (fun c4 => ?_) (fun c4 => ?_)
      ·
        refine lv_lload hx hb dX2_round_69 (lv_at hl 0 rfl) ?_
        exact ef_lret hx hb hr hlocks hP hD hS dX2_round_71 (⟨_, _, z, by rw [if_pos (Or.inl c4)], rfl, hL2, hR2, hrz⟩)
      ·
        refine lv_lload hx hb dX2_round_53 (lv_at hl 0 rfl) ?_
        refine lv_lconst (v := jv (0)) hx hb dX2_round_55 (by decide) ?_
        refine iw_lcmp hx hb (⟨by omega, by omega⟩) (⟨by omega, by omega⟩) dX2_round_56 ?_
        refine iw_if_eq (tgt := 69) hx hb dX2_round_57 (by decide) (ir_zc _ _) (fun c5 => ?_) (fun c5 => ?_)
        ·
          have c6 : z = 0 := by have := (zc_0 _ _).1 c5; omega
          refine lv_lload hx hb dX2_round_69 (lv_at hl 0 rfl) ?_
          exact ef_lret hx hb hr hlocks hP hD hS dX2_round_71 (⟨_, _, z, by rw [if_pos (Or.inr c6)], rfl, hL2, hR2, hrz⟩)
        ·
          have c6 : z ≠ 0 := fun q9 => c5 ((zc_0 _ _).2 (by omega))
          refine lv_lload hx hb dX2_round_60 (lv_at hl 0 rfl) ?_
          refine lv_ldc2 (v := jv (-9223372036854775808)) hx hb hown (hts (.constantLong RX2 101 (jv (-9223372036854775808))) (by decide +kernel)) dX2_round_62 ?_
          refine iw_lorS hx hb (by omega) dX2_round_65 ?_
          refine lv_goto (tgt := 71) hx hb dX2_round_66 (by decide) ?_
          exact ef_lret hx hb hr hlocks hP hD hS dX2_round_71 (⟨_, _, z, by rw [if_neg (fun q9 => q9.elim c4 c6)], rfl, hL2, hR2, hrz⟩)
  ·
    exact absurd rfl c1

set_option maxRecDepth 100000 in
set_option maxHeartbeats 4000000 in
/-- round of 0 -/
theorem c_round1Z (l : Launch) (dC : Nat → ClassId) (dI : Nat → Nat → Nat) {cI : ClassId} {tys : List (ClassId × FieldType)} (ht : tys[0]? = some (cI, .int)) (q : Nat → Nat) {A1 U1 A2 U2 L R : Nat} {b1 e1 b2 e2 : Int} (hA1 : wl A1 ≤ 150) (hU1 : wl U1 ≤ 150) (hA2 : wl A2 ≤ 150) (hU2 : wl U2 ≤ 150) (hL : wl L ≤ 301) (hR : wl R ≤ 301) (nA : A2 = 0) (up : Int) : ef_C l yX2_round wsX2_round ({ frames := 6, cells := 0, slots := 0, locals := 139 } : Room) [.ref (q 0), .int (iv (1)), .int (iv (up))] (dC, dI) vwCl tys (cC cI q (A1) (U1) (b1) (e1) (A2) (U2) (b2) (e2) (L) (R)) (fun o w1 => ∃ L2 R2 : Nat, o = some (.long (jv 0)) ∧ w1 = cC cI q (A1) (U1) (b1) (e1) (A2) (U2) (b2) (e2) (L2) (R2) ∧ wl L2 ≤ 301 ∧ wl R2 ≤ 301) := by
  refine ef_C.of (cc := cX2_round) (maxL := 6) (ret := (some .long)) (by decide) rfl (Nat.le_of_ble_eq_true rfl) ?_
  intro p e s m below meth c ls hx hb hml hr hts hown hlocks hK hNX hP hD hS hl
  have hl : lv_has ls 6 [(0, .ref (q 0)), (1, .int (iv (1))), (2, .int (iv (up)))] := hl
  have hown : s.vm.findClass RX2 = some m.cls := hown
  generalize hH : s.heap = H at hP ⊢
  have hS : va_S (ef_A (cC cI q (A1) (U1) (b1) (e1) (A2) (U2) (b2) (e2) (L) (R))) s.heap H [] := by rw [← hH]; exact hS
  generalize ([] : List Loc) = locs at hS ⊢
  refine lv_aload_n hx hb dX2_round_0 rfl (lv_at hl 0 rfl) ?_
  refine lv_iload_n hx hb dX2_round_1 rfl (lv_at hl 1 rfl) ?_
  refine ef_callV (As := [.int (iv (1))]) (rest := []) ⟨hx, hb, hml, hown, hts⟩ (c_numberOf1 l dC dI ht q) (cwV 1 hts gX2_round_X2_numberOf rfl rfl rfl (by decide +kernel) ⟨Nat.le_of_ble_eq_true rfl, Nat.le_of_ble_eq_true rfl⟩) hK hNX hP hD hS 0 rfl rfl rfl rfl hl.1 rfl (Nat.le_of_ble_eq_true rfl) dX2_round_2 ⟨Nat.zero_le _, Nat.zero_le _⟩ (fun o w1 H locs hq hP hD hS => ?_)
  obtain ⟨rfl, e9⟩ := hq
  rw [e9] at hP hD
  refine W.eq (g2 := F0 m 5 ls [.ref (q 2)]) rfl ?_
  refine lv_astore_n (lv' := [(3, .ref (q 2)), (0, .ref (q 0)), (1, .int (iv (1))), (2, .int (iv (up)))]) hx hb dX2_round_5 rfl hl (by decide) rfl (fun ls hl => ?_)
  refine lv_aload_n hx hb dX2_round_6 rfl (lv_at hl 0 rfl) ?_
  refine lv_ifnonnull (tgt := 14) hx hb dX2_round_7 (by decide) ?_
  refine lv_aload_n hx hb dX2_round_14 rfl (lv_at hl 0 rfl) ?_
  refine va_get (D := (dC, dI)) (ci := 0) (v := .ref (q 7)) (C := RX0) (T := TX0) (N := 4) hx hb hts (by decide +kernel) hown hK hP 2 rfl rfl 0 (by decide) (hts (.fieldLink RX2 65 "ExactFractions$Fraction" "above" "LExactFractions$Whole;") (by decide +kernel)) (fun _ h9 => h9) rfl dX2_round_15 ?_
  refine ef_callV (As := []) (rest := []) ⟨hx, hb, hml, hown, hts⟩ (c_isZero l dC dI ht (isW_c (X := A2) (ws := cC cI q (A1) (U1) (b1) (e1) (A2) (U2) (b2) (e2) (L) (R)) (k0 := 7) (k1 := 8) (by decide) rfl rfl) (by omega)) (cwV 0 hts gX2_round_X1_isZero rfl rfl rfl (by decide +kernel) ⟨Nat.le_of_ble_eq_true rfl, Nat.le_of_ble_eq_true rfl⟩) hK hNX hP hD hS 7 rfl rfl rfl rfl hl.1 rfl (Nat.le_of_ble_eq_true rfl) dX2_round_18 ⟨Nat.zero_le _, Nat.zero_le _⟩ (fun o w1 H locs hq hP hD hS => ?_)
  obtain ⟨rfl, e9⟩ := hq
  rw [e9] at hP hD
  refine W.eq (g2 := F0 m 21 ls [.int (iv (if A2 = 0 then 1 else 0))]) rfl ?_
  refine iw_topi (y := iv (1)) (congrArg iv (by rw [if_pos nA] : ((if A2 = 0 then 1 else 0) : Int) = (1))) ?_
  refine iw_if_eq (tgt := 26) hx hb dX2_round_21 (by decide) ⟨by omega, by omega⟩ (fun c1 => ?_) (fun c1 => ?_)
  ·
    exact absurd c1 (by decide)
  ·
    refine lv_lconst (v := jv (0)) hx hb dX2_round_24 (by decide) ?_
    exact ef_lret hx hb hr hlocks hP hD hS dX2_round_25 (⟨_, _, rfl, rfl, hL, hR⟩)

set_option maxRecDepth 100000 in
set_option maxHeartbeats 4000000 in
/-- round of no number -/
theorem c_roundx (l : Launch) (dC : Nat → ClassId) (dI : Nat → Nat → Nat) {cI : ClassId} {tys : List (ClassId × FieldType)} (ht : tys[0]? = some (cI, .int)) (q : Nat → Nat) {A1 U1 A2 U2 L R : Nat} {b1 e1 b2 e2 : Int} (hA1 : wl A1 ≤ 150) (hU1 : wl U1 ≤ 150) (hA2 : wl A2 ≤ 150) (hU2 : wl U2 ≤ 150) (hL : wl L ≤ 301) (hR : wl R ≤ 301) (z : Int) (hz : ir z) (hz0 : z ≠ 0) (hz1 : z ≠ 1) (up : Int) : ef_C l yX2_round wsX2_round ({ frames := 6, cells := 0, slots := 0, locals := 139 } : Room) [.ref (q 0), .int (iv (z)), .int (iv (up))] (dC, dI) vwCl tys (cC cI q (A1) (U1) (b1) (e1) (A2) (U2) (b2) (e2) (L) (R)) (fun o w1 => ∃ L2 R2 : Nat, o = some (.long (jv 9221120237041090560)) ∧ w1 = cC cI q (A1) (U1) (b1) (e1) (A2) (U2) (b2) (e2) (L2) (R2) ∧ wl L2 ≤ 301 ∧ wl R2 ≤ 301) := by
  refine ef_C.of (cc := cX2_round) (maxL := 6) (ret := (some .long)) (by decide) rfl (Nat.le_of_ble_eq_true rfl) ?_
  intro p e s m below meth c ls hx hb hml hr hts hown hlocks hK hNX hP hD hS hl
  have hl : lv_has ls 6 [(0, .ref (q 0)), (1, .int (iv (z))), (2, .int (iv (up)))] := hl
  have hown : s.vm.findClass RX2 = some m.cls := hown
  generalize hH : s.heap = H at hP ⊢
  have hS : va_S (ef_A (cC cI q (A1) (U1) (b1) (e1) (A2) (U2) (b2) (e2) (L) (R))) s.heap H [] := by rw [← hH]; exact hS
  generalize ([] : List Loc) = locs at hS ⊢
  refine lv_aload_n hx hb dX2_round_0 rfl (lv_at hl 0 rfl) ?_
  refine lv_iload_n hx hb dX2_round_1 rfl (lv_at hl 1 rfl) ?_
  refine ef_callV (As := [.int (iv (z))]) (rest := []) ⟨hx, hb, hml, hown, hts⟩ (c_numberOfx l dC dI ht q z hz hz0 hz1) (cwV 1 hts gX2_round_X2_numberOf rfl rfl rfl (by decide +kernel) ⟨Nat.le_of_ble_eq_true rfl, Nat.le_of_ble_eq_true rfl⟩) hK hNX hP hD hS 0 rfl rfl rfl rfl hl.1 rfl (Nat.le_of_ble_eq_true rfl) dX2_round_2 ⟨Nat.zero_le _, Nat.zero_le _⟩ (fun o w1 H locs hq hP hD hS => ?_)
  obtain ⟨rfl, e9⟩ := hq
  rw [e9] at hP hD
  refine W.eq (g2 := F0 m 5 ls [.null]) rfl ?_
  refine lv_astore_nN (lv' := [(3, .null), (0, .ref (q 0)), (1, .int (iv (z))), (2, .int (iv (up)))]) hx hb dX2_round_5 rfl hl (by decide) rfl (fun ls hl => ?_)
  refine lv_aload_nN hx hb dX2_round_6 rfl (lv_at hl 0 rfl) ?_
  refine lv_ifnonnullN hx hb dX2_round_7 ?_
  refine lv_ldc2 (v := jv (9221120237041090560)) hx hb hown (hts (.constantLong RX2 95 (jv (9221120237041090560))) (by decide +kernel)) dX2_round_10 ?_
  exact ef_lret hx hb hr hlocks hP hD hS dX2_round_13 (⟨_, _, rfl, rfl, hL, hR⟩)
