/-! Whole numbers in words of 32 bits -/
def nv (F : Nat → Nat) : Nat → Nat
  | 0 => 0
  | k + 1 => nv F k + F k * 2 ^ (32 * k)
def wd (X j : Nat) : Nat := X / 2 ^ (32 * j) % 4294967296
def bl (X : Nat) : Nat := if X = 0 then 0 else X.log2 + 1
def wl (X : Nat) : Nat := if X = 0 then 0 else X.log2 / 32 + 1
theorem p32 (k : Nat) : 2 ^ (32 * (k + 1)) = 2 ^ (32 * k) * 4294967296 := by
  rw [show 32 * (k + 1) = 32 * k + 32 by omega, Nat.pow_add]
theorem p32_pos (k : Nat) : 0 < 2 ^ (32 * k) := Nat.pow_pos (by decide)
theorem nv_lt {F : Nat → Nat} : ∀ {k : Nat}, (∀ j, j < k → F j < 4294967296) → nv F k < 2 ^ (32 * k)
  | 0, _ => by show 0 < 2 ^ 0; decide
  | k + 1, h => by
    have h1 := nv_lt (F := F) (k := k) (fun j hj => h j (by omega))
    have h2 := h k (by omega)
    rw [p32]
    show nv F k + F k * 2 ^ (32 * k) < _
    have h3 : (F k + 1) * 2 ^ (32 * k) ≤ 4294967296 * 2 ^ (32 * k) := Nat.mul_le_mul_right _ (by omega)
    rw [Nat.add_mul, Nat.one_mul] at h3
    rw [Nat.mul_comm (2 ^ (32 * k)) 4294967296]
    omega
theorem nv_cong {F G : Nat → Nat} : ∀ {k : Nat}, (∀ j, j < k → F j = G j) → nv F k = nv G k
  | 0, _ => rfl
  | k + 1, h => by
    show nv F k + F k * 2 ^ (32 * k) = nv G k + G k * 2 ^ (32 * k)
    rw [nv_cong (fun j hj => h j (by omega)), h k (by omega)]
/-- words above k that are 0 add nothing -/
theorem nv_zero {F : Nat → Nat} {k : Nat} : ∀ {n : Nat}, (∀ j, k ≤ j → j < k + n → F j = 0) → nv F (k + n) = nv F k
  | 0, _ => rfl
  | n + 1, h => by
    show nv F (k + n) + F (k + n) * 2 ^ (32 * (k + n)) = nv F k
    rw [nv_zero (fun j h1 h2 => h j h1 (by omega)), h (k + n) (by omega) (by omega), Nat.zero_mul, Nat.add_zero]
theorem nv_wd (X : Nat) : ∀ k, nv (wd X) k = X % 2 ^ (32 * k)
  | 0 => by show 0 = X % 2 ^ 0; rw [Nat.pow_zero, Nat.mod_one]
  | k + 1 => by
    show nv (wd X) k + wd X k * 2 ^ (32 * k) = _
    rw [nv_wd X k, p32, Nat.mod_mul]
    unfold wd
    rw [Nat.mul_comm (2 ^ (32 * k))]
theorem wd_lt (X j : Nat) : wd X j < 4294967296 := Nat.mod_lt _ (by decide)
theorem wd_nv {F : Nat → Nat} {k : Nat} (h : ∀ j, j < k → F j < 4294967296) {j : Nat} (hj : j < k) : wd (nv F k) j = F j := by
  induction k with
  | zero => omega
  | succ k ih =>
    have hlt := nv_lt (F := F) (k := k) (fun j hj => h j (by omega))
    show (nv F k + F k * 2 ^ (32 * k)) / 2 ^ (32 * j) % 4294967296 = F j
    rcases Nat.lt_or_ge j k with h1 | h1
    · have e : F k * 2 ^ (32 * k) = (F k * 2 ^ (32 * (k - 1 - j))) * 4294967296 * 2 ^ (32 * j) := by
        rw [Nat.mul_assoc (F k), ← p32, Nat.mul_assoc, ← Nat.pow_add]
        congr 2
        omega
      rw [e, Nat.add_mul_div_right _ _ (p32_pos j), Nat.add_mul_mod_self_right]
      exact ih (fun j hj => h j (by omega)) h1
    · have : j = k := by omega
      subst this
      rw [Nat.add_mul_div_right _ _ (p32_pos j), Nat.div_eq_of_lt hlt, Nat.zero_add, Nat.mod_eq_of_lt (h j (by omega))]
theorem wd_big {X j : Nat} (h : X < 2 ^ (32 * j)) : wd X j = 0 := by unfold wd; rw [Nat.div_eq_of_lt h]
theorem wl_lt (X : Nat) : X < 2 ^ (32 * wl X) := by
  unfold wl
  by_cases h : X = 0
  · rw [if_pos h, h]; decide
  · rw [if_neg h]
    have h1 : X < 2 ^ (X.log2 + 1) := Nat.lt_log2_self
    exact Nat.lt_of_lt_of_le h1 (Nat.pow_le_pow_right (by decide) (by omega))
theorem wl_le {X k : Nat} (h : X < 2 ^ (32 * k)) : wl X ≤ k := by
  unfold wl
  by_cases h0 : X = 0
  · rw [if_pos h0]; omega
  · rw [if_neg h0]
    have := (Nat.log2_lt h0).2 h
    omega
theorem wl_0 {X : Nat} : wl X = 0 ↔ X = 0 := by
  unfold wl
  by_cases h0 : X = 0
  · rw [if_pos h0]; simp [h0]
  · rw [if_neg h0]; simp [h0]
theorem wl_ge {X : Nat} (h : X ≠ 0) : 2 ^ (32 * (wl X - 1)) ≤ X := by
  unfold wl
  rw [if_neg h]
  exact Nat.le_trans (Nat.pow_le_pow_right (by decide) (by omega)) (Nat.log2_self_le h)
theorem wl_eq {X n : Nat} (h1 : X < 2 ^ (32 * n)) (h2 : n = 0 ∨ 2 ^ (32 * (n - 1)) ≤ X) : wl X = n := by
  have h3 := wl_le h1
  rcases h2 with h2 | h2
  · omega
  · rcases Nat.lt_or_ge (wl X) n with h4 | h4
    · have h5 := wl_lt X
      have h6 : 2 ^ (32 * wl X) ≤ 2 ^ (32 * (n - 1)) := Nat.pow_le_pow_right (by decide) (by omega)
      omega
    · omega
theorem wd_above {X j : Nat} (h : wl X ≤ j) : wd X j = 0 := wd_big (Nat.lt_of_lt_of_le (wl_lt X) (Nat.pow_le_pow_right (by decide) (by omega)))
theorem wd_top {X : Nat} (h : X ≠ 0) : wd X (wl X - 1) ≠ 0 := by
  have h1 := wl_ge h
  have h2 := wl_lt X
  have h0 : wl X ≠ 0 := fun q => h (wl_0.1 q)
  have e := p32 (wl X - 1)
  rw [show wl X - 1 + 1 = wl X by omega] at e
  have hp := p32_pos (wl X - 1)
  have h3 : X / 2 ^ (32 * (wl X - 1)) < 4294967296 := Nat.div_lt_of_lt_mul (by rw [← e]; exact h2)
  have h4 : 0 < X / 2 ^ (32 * (wl X - 1)) := Nat.div_pos h1 hp
  unfold wd
  rw [Nat.mod_eq_of_lt h3]
  omega
theorem nv_self (X : Nat) : nv (wd X) (wl X) = X := by rw [nv_wd, Nat.mod_eq_of_lt (wl_lt X)]
theorem nv_self' {X k : Nat} (h : wl X ≤ k) : nv (wd X) k = X := by rw [nv_wd, Nat.mod_eq_of_lt (Nat.lt_of_lt_of_le (wl_lt X) (Nat.pow_le_pow_right (by decide) (by omega)))]
theorem bl_lt (X : Nat) : X < 2 ^ bl X := by
  unfold bl
  by_cases h : X = 0
  · rw [if_pos h, h]; decide
  · rw [if_neg h]; exact Nat.lt_log2_self
theorem bl_ge {X : Nat} (h : X ≠ 0) : 2 ^ (bl X - 1) ≤ X := by
  unfold bl
  rw [if_neg h]
  exact Nat.log2_self_le h
theorem bl_0 {X : Nat} : bl X = 0 ↔ X = 0 := by
  unfold bl
  by_cases h0 : X = 0
  · rw [if_pos h0]; simp [h0]
  · rw [if_neg h0]; simp [h0]
theorem bl_le {X k : Nat} (h : X < 2 ^ k) : bl X ≤ k := by
  unfold bl
  by_cases h0 : X = 0
  · rw [if_pos h0]; omega
  · rw [if_neg h0]
    have := (Nat.log2_lt h0).2 h
    omega
theorem bl_eq {X n : Nat} (h1 : X < 2 ^ n) (h2 : n = 0 ∨ 2 ^ (n - 1) ≤ X) : bl X = n := by
  have h3 := bl_le h1
  rcases h2 with h2 | h2
  · omega
  · rcases Nat.lt_or_ge (bl X) n with h4 | h4
    · have h5 := bl_lt X
      have h6 : 2 ^ bl X ≤ 2 ^ (n - 1) := Nat.pow_le_pow_right (by decide) (by omega)
      omega
    · omega
theorem bl_wl {X : Nat} (h : X ≠ 0) : bl X = 32 * (wl X - 1) + bl (wd X (wl X - 1)) := by
  have h1 := wl_ge h
  have h2 := wl_lt X
  have h0 : wl X ≠ 0 := fun q => h (wl_0.1 q)
  have e := p32 (wl X - 1)
  rw [show wl X - 1 + 1 = wl X by omega] at e
  have hp := p32_pos (wl X - 1)
  have h3 : X / 2 ^ (32 * (wl X - 1)) < 4294967296 := Nat.div_lt_of_lt_mul (by rw [← e]; exact h2)
  have ew : wd X (wl X - 1) = X / 2 ^ (32 * (wl X - 1)) := by unfold wd; rw [Nat.mod_eq_of_lt h3]
  have ht := wd_top h
  rw [ew] at ht ⊢
  apply bl_eq
  · rw [Nat.pow_add, Nat.mul_comm]
    exact (Nat.div_lt_iff_lt_mul hp).1 (bl_lt _)
  · right
    have hb : bl (X / 2 ^ (32 * (wl X - 1))) ≠ 0 := fun q => ht (bl_0.1 q)
    rw [show 32 * (wl X - 1) + bl (X / 2 ^ (32 * (wl X - 1))) - 1 = 32 * (wl X - 1) + (bl (X / 2 ^ (32 * (wl X - 1))) - 1) by omega, Nat.pow_add, Nat.mul_comm]
    exact (Nat.le_div_iff_mul_le hp).1 (bl_ge ht)
theorem bl_div (T k : Nat) : T / 2 ^ k ≠ 0 ↔ k < bl T := by
  have hp : 0 < 2 ^ k := Nat.pow_pos (by decide)
  constructor
  · intro h
    rcases Nat.lt_or_ge k (bl T) with h1 | h1
    · exact h1
    · exact absurd (Nat.div_eq_of_lt (Nat.lt_of_lt_of_le (bl_lt T) (Nat.pow_le_pow_right (by decide) h1))) h
  · intro h
    have h0 : T ≠ 0 := fun q => by rw [bl_0.2 q] at h; omega
    have h1 : 2 ^ k ≤ T := Nat.le_trans (Nat.pow_le_pow_right (by decide) (by omega)) (bl_ge h0)
    have := Nat.div_pos h1 hp
    omega
theorem wd_div (X r : Nat) : X / 2 ^ (32 * r) = X / 2 ^ (32 * (r + 1)) * 4294967296 + wd X r := by
  unfold wd
  rw [p32, ← Nat.div_div_eq_div_mul]
  omega
theorem zc_0 (a b : Int) : zc a b = 0 ↔ a = b := by unfold zc; (repeat split) <;> omega
theorem zc_ge (a b : Int) : 0 ≤ zc a b ↔ b ≤ a := by unfold zc; (repeat split) <;> omega
theorem ir_zc (a b : Int) : ir (zc a b) := by unfold zc; (repeat split) <;> exact ⟨by omega, by omega⟩
theorem zc_lt {a b : Int} (h : a < b) : zc a b = -1 := by unfold zc; rw [if_neg (by omega), if_neg (by omega)]
theorem zc_gt {a b : Int} (h : b < a) : zc a b = 1 := by unfold zc; rw [if_pos h]
theorem zc_eq (a : Int) : zc a a = 0 := by unfold zc; rw [if_neg (by omega), if_pos rfl]
theorem div_lt_of {X Y P : Nat} (h : X / P < Y / P) : X < Y := by
  rcases Nat.lt_or_ge X Y with h1 | h1
  · exact h1
  · exact absurd (Nat.div_le_div_right (c := P) h1) (by omega)
theorem amul_step {A w mu i pl f N : Nat} : (N + mu * A * 2 ^ (32 * pl)) + (w * mu + f) * 2 ^ (32 * (pl + i)) = (N + f * 2 ^ (32 * (pl + i))) + mu * (A + w * 2 ^ (32 * i)) * 2 ^ (32 * pl) := by
  have e : 2 ^ (32 * (pl + i)) = 2 ^ (32 * i) * 2 ^ (32 * pl) := by rw [← Nat.pow_add]; congr 1; omega
  rw [e, Nat.mul_add mu, Nat.add_mul (mu * A), Nat.add_mul (w * mu), ← Nat.mul_assoc mu w, Nat.mul_comm mu w, Nat.mul_assoc (w * mu)]
  omega
theorem pow_le32 {r : Nat} (h : r < 32) : 2 ^ (32 - r) * 2 ^ r = 4294967296 := by rw [← Nat.pow_add, show 32 - r + r = 32 by omega]
theorem wd_shift (X p r i : Nat) (hr : r < 32) : wd (X * 2 ^ (32 * p + r)) i = ((if p ≤ i then wd X (i - p) else 0) * 4294967296 + (if p + 1 ≤ i then wd X (i - p - 1) else 0)) / 2 ^ (32 - r) % 4294967296 := by
  have hq := pow_le32 hr
  have hp1 : 0 < 2 ^ (32 - r) := Nat.pow_pos (by decide)
  have hp2 : 0 < 2 ^ r := Nat.pow_pos (by decide)
  rcases Nat.lt_or_ge i p with h | h
  · rw [if_neg (by omega), if_neg (by omega), Nat.zero_mul, Nat.zero_add, Nat.zero_div]
    unfold wd
    have e : X * 2 ^ (32 * p + r) = (X * 2 ^ (32 * (p - i - 1) + r) * 4294967296) * 2 ^ (32 * i) := by
      rw [Nat.mul_assoc X, Nat.mul_assoc X]
      congr 1
      rw [show (4294967296 : Nat) = 2 ^ 32 from rfl, ← Nat.pow_add, ← Nat.pow_add]
      congr 1
      omega
    rw [e, Nat.mul_div_cancel _ (p32_pos i), Nat.mul_mod_left]
  · obtain ⟨d, rfl⟩ : ∃ d, i = p + d := ⟨i - p, by omega⟩
    rw [if_pos h, show p + d - p = d by omega]
    have e0 : X * 2 ^ (32 * p + r) / 2 ^ (32 * (p + d)) = X * 2 ^ r / 2 ^ (32 * d) := by
      rw [Nat.pow_add, show 32 * (p + d) = 32 * p + 32 * d by omega, Nat.pow_add, Nat.mul_left_comm, Nat.mul_div_mul_left _ _ (p32_pos p)]
    rcases Nat.eq_zero_or_pos d with hd | hd
    · subst hd
      rw [if_neg (by omega)]
      have e6 : ∀ Y, Y * 4294967296 / 2 ^ (32 - r) = Y * 2 ^ r := fun Y => by rw [← hq, Nat.mul_comm (2 ^ (32 - r)), ← Nat.mul_assoc, Nat.mul_div_cancel _ hp1]
      show X * 2 ^ (32 * p + r) / 2 ^ (32 * (p + 0)) % 4294967296 = (X / 2 ^ (32 * 0) % 4294967296 * 4294967296 + 0) / 2 ^ (32 - r) % 4294967296
      rw [e0, Nat.add_zero, Nat.mul_zero, Nat.pow_zero, Nat.div_one, Nat.div_one, e6, Nat.mul_mod (X % 4294967296), Nat.mod_mod, ← Nat.mul_mod]
    · obtain ⟨f, rfl⟩ : ∃ f, d = f + 1 := ⟨d - 1, by omega⟩
      rw [if_pos (by omega), show f + 1 - 1 = f by omega]
      have e1 : X * 2 ^ r / 2 ^ (32 * (f + 1)) = X / 2 ^ (32 * f) / 2 ^ (32 - r) := by
        rw [p32, ← hq, ← Nat.mul_assoc, Nat.mul_div_mul_right _ _ hp2, Nat.div_div_eq_div_mul]
      have e2 := wd_div X f
      have e3 : wd X (f + 1) = X / 2 ^ (32 * (f + 1)) % 4294967296 := rfl
      have e4 : X / 2 ^ (32 * f) % 18446744073709551616 = wd X (f + 1) * 4294967296 + wd X f := by
        have := wd_lt X f
        rw [e2, e3]
        omega
      show X * 2 ^ (32 * p + r) / 2 ^ (32 * (p + (f + 1))) % 4294967296 = _
      rw [e0, e1, ← e4]
      generalize X / 2 ^ (32 * f) = Q
      have e5 : (18446744073709551616 : Nat) = 2 ^ (32 - r) * (2 ^ r * 4294967296) := by rw [← Nat.mul_assoc, hq]
      rw [e5, Nat.mod_mul_right_div_self, Nat.mul_comm (2 ^ r), Nat.mod_mul_right_mod]
