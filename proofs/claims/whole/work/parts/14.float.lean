/-! Floats of 64 bits by their order m (sign aside): fv m is the float's value times 2 ^ 1074 -/
def fv (m : Nat) : Nat := if m / 4503599627370496 = 0 then m else (4503599627370496 + m % 4503599627370496) * 2 ^ (m / 4503599627370496 - 1)
def fle (m A U : Nat) (e : Int) : Prop := fv m * U * pw (-1074) ≤ A * pw e
def feq (m A U : Nat) (e : Int) : Prop := fv m * U * pw (-1074) = A * pw e
def isFl (s A U : Nat) (e : Int) : Prop := s ≤ 9218868437227405311 ∧ fle s A U e ∧ (s < 9218868437227405311 → ¬ fle (s + 1) A U e)
def rsz (A U : Nat) (e aw : Int) (z : Nat) : Prop := ∃ s, isFl s A U e ∧ ((aw = 0 ∨ feq s A U e) ∧ z = s ∨ (aw ≠ 0 ∧ ¬ feq s A U e) ∧ z = s + 1)
/-- in the normal range: f from 2 ^ 52 to 2 ^ 53, scaled -/
theorem fv_norm {f t : Nat} (h1 : 4503599627370496 ≤ f) (h2 : f ≤ 9007199254740992) : fv (f + t * 4503599627370496) = f * 2 ^ t := by
  unfold fv
  rcases Nat.lt_or_ge f 9007199254740992 with h3 | h3
  · have e1 : (f + t * 4503599627370496) / 4503599627370496 = t + 1 := by omega
    have e2 : (f + t * 4503599627370496) % 4503599627370496 = f - 4503599627370496 := by omega
    rw [e1, e2, if_neg (by omega), show t + 1 - 1 = t by omega, show 4503599627370496 + (f - 4503599627370496) = f by omega]
  · have e0 : f = 9007199254740992 := by omega
    have e1 : (f + t * 4503599627370496) / 4503599627370496 = t + 2 := by omega
    have e2 : (f + t * 4503599627370496) % 4503599627370496 = 0 := by omega
    rw [e1, e2, if_neg (by omega), show t + 2 - 1 = t + 1 by omega, e0, Nat.pow_succ]
    omega
theorem fv_small {f : Nat} (h : f ≤ 9007199254740992) : fv f = f := by
  rcases Nat.lt_or_ge f 4503599627370496 with h1 | h1
  · unfold fv
    rw [if_pos (by omega)]
  · have := fv_norm (t := 0) h1 h
    rw [Nat.zero_mul, Nat.add_zero, Nat.pow_zero, Nat.mul_one] at this
    exact this
theorem fv_succ (m : Nat) : fv m < fv (m + 1) := by
  rcases Nat.lt_or_ge m 4503599627370496 with h | h
  · rw [fv_small (by omega), fv_small (by omega)]; omega
  · obtain ⟨f, t, hf1, hf2, e⟩ : ∃ f t, 4503599627370496 ≤ f ∧ f < 9007199254740992 ∧ m = f + t * 4503599627370496 := ⟨4503599627370496 + m % 4503599627370496, m / 4503599627370496 - 1, by omega, by omega, by omega⟩
    have e2 : m + 1 = (f + 1) + t * 4503599627370496 := by omega
    rw [e2, e, fv_norm hf1 (by omega), fv_norm (by omega) (by omega)]
    exact Nat.mul_lt_mul_of_pos_right (by omega) (Nat.pow_pos (by decide))
theorem fv_mono {m n : Nat} (h : m ≤ n) : fv m ≤ fv n := by
  induction n with
  | zero => rw [show m = 0 by omega]; exact Nat.le_refl _
  | succ n ih =>
    rcases Nat.lt_or_ge n m with h1 | h1
    · rw [show m = n + 1 by omega]; exact Nat.le_refl _
    · exact Nat.le_trans (ih h1) (Nat.le_of_lt (fv_succ n))
theorem fle_mono {m n A U : Nat} {e : Int} (h : m ≤ n) (hn : fle n A U e) : fle m A U e := Nat.le_trans (Nat.mul_le_mul_right _ (Nat.mul_le_mul_right _ (fv_mono h))) hn
theorem isFl_uniq {s t A U : Nat} {e : Int} (hs : isFl s A U e) (ht : isFl t A U e) : s = t := by
  rcases Nat.lt_trichotomy s t with h | h | h
  · exact absurd (fle_mono (show s + 1 ≤ t by omega) ht.2.1) (hs.2.2 (by have := ht.1; omega))
  · exact h
  · exact absurd (fle_mono (show t + 1 ≤ s by omega) hs.2.1) (ht.2.2 (by have := hs.1; omega))
theorem rsz_uniq {A U : Nat} {e aw : Int} {z y : Nat} (hz : rsz A U e aw z) (hy : rsz A U e aw y) : z = y := by
  obtain ⟨s, h1, h2⟩ := hz
  obtain ⟨t, h3, h4⟩ := hy
  have := isFl_uniq h1 h3
  subst this
  rcases h2 with ⟨ha, rfl⟩ | ⟨ha, rfl⟩ <;> rcases h4 with ⟨hb, rfl⟩ | ⟨hb, rfl⟩
  · rfl
  · rcases ha with h | h
    · exact absurd h hb.1
    · exact absurd h hb.2
  · rcases hb with h | h
    · exact absurd h ha.1
    · exact absurd h ha.2
  · rfl
/-- the size is laid out as L / R * 2 ^ P: then g * 2 ^ t is compared by g * R and L * 2 ^ (P - t) -/
theorem lay_le {A U L R : Nat} {e P t : Int} {d : Nat} (hU : U ≠ 0) (hR : R ≠ 0) (hrel : A * R * pw e = L * U * pw P) (ht : -20000 ≤ t) (hP : P = t + (d : Int)) (g : Nat) : (g * U * pw t ≤ A * pw e ↔ g * R ≤ L * 2 ^ d) ∧ (g * U * pw t = A * pw e ↔ g * R = L * 2 ^ d) := by
  have hpw : pw P = pw t * 2 ^ d := by rw [hP, pw_add ht]
  have hc : 0 < U * pw t := Nat.mul_pos (by omega) (pw_pos t)
  have e1 : g * U * pw t * R = (g * R) * (U * pw t) := by
    rw [Nat.mul_assoc g, Nat.mul_right_comm]
  have e2 : A * pw e * R = (L * 2 ^ d) * (U * pw t) := by
    rw [Nat.mul_right_comm, hrel, hpw, Nat.mul_assoc L U, ← Nat.mul_assoc U, Nat.mul_assoc L (2 ^ d), Nat.mul_comm (2 ^ d)]
  have hR0 : 0 < R := by omega
  constructor
  · rw [← Nat.mul_le_mul_right_iff hR0, e1, e2, Nat.mul_le_mul_right_iff hc]
  · rw [← Nat.mul_left_inj (a := R) (by omega), e1, e2, Nat.mul_left_inj (by omega)]
