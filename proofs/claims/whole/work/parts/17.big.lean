/-! Whole numbers in words of 16 bits -/
def nd (F : Nat → Nat) : Nat → Nat
  | 0 => 0
  | k + 1 => nd F k + F k * 2 ^ (16 * k)
def dg (X j : Nat) : Nat := X / 2 ^ (16 * j) % 65536
def dn (X : Nat) : Nat := if X = 0 then 0 else X.log2 / 16 + 1
theorem p16 (k : Nat) : 2 ^ (16 * (k + 1)) = 2 ^ (16 * k) * 65536 := by
  rw [show 16 * (k + 1) = 16 * k + 16 by omega, Nat.pow_add]
theorem p16_pos (k : Nat) : 0 < 2 ^ (16 * k) := Nat.pow_pos (by decide)
theorem nd_lt {F : Nat → Nat} : ∀ {k : Nat}, (∀ j, j < k → F j < 65536) → nd F k < 2 ^ (16 * k)
  | 0, _ => by show 0 < 2 ^ 0; decide
  | k + 1, h => by
    have h1 := nd_lt (F := F) (k := k) (fun j hj => h j (by omega))
    have h2 := h k (by omega)
    rw [p16]
    show nd F k + F k * 2 ^ (16 * k) < _
    have h3 : (F k + 1) * 2 ^ (16 * k) ≤ 65536 * 2 ^ (16 * k) := Nat.mul_le_mul_right _ (by omega)
    rw [Nat.add_mul, Nat.one_mul] at h3
    rw [Nat.mul_comm (2 ^ (16 * k)) 65536]
    omega
theorem nd_cong {F G : Nat → Nat} : ∀ {k : Nat}, (∀ j, j < k → F j = G j) → nd F k = nd G k
  | 0, _ => rfl
  | k + 1, h => by
    show nd F k + F k * 2 ^ (16 * k) = nd G k + G k * 2 ^ (16 * k)
    rw [nd_cong (fun j hj => h j (by omega)), h k (by omega)]
/-- words above k that are 0 add nothing -/
theorem nd_zero {F : Nat → Nat} {k : Nat} : ∀ {n : Nat}, (∀ j, k ≤ j → j < k + n → F j = 0) → nd F (k + n) = nd F k
  | 0, _ => rfl
  | n + 1, h => by
    show nd F (k + n) + F (k + n) * 2 ^ (16 * (k + n)) = nd F k
    rw [nd_zero (fun j h1 h2 => h j h1 (by omega)), h (k + n) (by omega) (by omega), Nat.zero_mul, Nat.add_zero]
theorem nd_dg (X : Nat) : ∀ k, nd (dg X) k = X % 2 ^ (16 * k)
  | 0 => by show 0 = X % 2 ^ 0; rw [Nat.pow_zero, Nat.mod_one]
  | k + 1 => by
    show nd (dg X) k + dg X k * 2 ^ (16 * k) = _
    rw [nd_dg X k, p16, Nat.mod_mul]
    unfold dg
    rw [Nat.mul_comm (2 ^ (16 * k))]
theorem dg_lt (X j : Nat) : dg X j < 65536 := Nat.mod_lt _ (by decide)
theorem dg_nd {F : Nat → Nat} {k : Nat} (h : ∀ j, j < k → F j < 65536) {j : Nat} (hj : j < k) : dg (nd F k) j = F j := by
  induction k with
  | zero => omega
  | succ k ih =>
    have hlt := nd_lt (F := F) (k := k) (fun j hj => h j (by omega))
    show (nd F k + F k * 2 ^ (16 * k)) / 2 ^ (16 * j) % 65536 = F j
    rcases Nat.lt_or_ge j k with h1 | h1
    · have e : F k * 2 ^ (16 * k) = (F k * 2 ^ (16 * (k - 1 - j))) * 65536 * 2 ^ (16 * j) := by
        rw [Nat.mul_assoc (F k), ← p16, Nat.mul_assoc, ← Nat.pow_add]
        congr 2
        omega
      rw [e, Nat.add_mul_div_right _ _ (p16_pos j), Nat.add_mul_mod_self_right]
      exact ih (fun j hj => h j (by omega)) h1
    · have : j = k := by omega
      subst this
      rw [Nat.add_mul_div_right _ _ (p16_pos j), Nat.div_eq_of_lt hlt, Nat.zero_add, Nat.mod_eq_of_lt (h j (by omega))]
theorem dg_big {X j : Nat} (h : X < 2 ^ (16 * j)) : dg X j = 0 := by unfold dg; rw [Nat.div_eq_of_lt h]
theorem dn_lt (X : Nat) : X < 2 ^ (16 * dn X) := by
  unfold dn
  by_cases h : X = 0
  · rw [if_pos h, h]; decide
  · rw [if_neg h]
    have h1 : X < 2 ^ (X.log2 + 1) := Nat.lt_log2_self
    exact Nat.lt_of_lt_of_le h1 (Nat.pow_le_pow_right (by decide) (by omega))
theorem dn_le {X k : Nat} (h : X < 2 ^ (16 * k)) : dn X ≤ k := by
  unfold dn
  by_cases h0 : X = 0
  · rw [if_pos h0]; omega
  · rw [if_neg h0]
    have := (Nat.log2_lt h0).2 h
    omega
theorem dn_0 {X : Nat} : dn X = 0 ↔ X = 0 := by
  unfold dn
  by_cases h0 : X = 0
  · rw [if_pos h0]; simp [h0]
  · rw [if_neg h0]; simp [h0]
theorem dn_ge {X : Nat} (h : X ≠ 0) : 2 ^ (16 * (dn X - 1)) ≤ X := by
  unfold dn
  rw [if_neg h]
  exact Nat.le_trans (Nat.pow_le_pow_right (by decide) (by omega)) (Nat.log2_self_le h)
theorem dn_eq {X n : Nat} (h1 : X < 2 ^ (16 * n)) (h2 : n = 0 ∨ 2 ^ (16 * (n - 1)) ≤ X) : dn X = n := by
  have h3 := dn_le h1
  rcases h2 with h2 | h2
  · omega
  · rcases Nat.lt_or_ge (dn X) n with h4 | h4
    · have h5 := dn_lt X
      have h6 : 2 ^ (16 * dn X) ≤ 2 ^ (16 * (n - 1)) := Nat.pow_le_pow_right (by decide) (by omega)
      omega
    · omega
theorem dg_above {X j : Nat} (h : dn X ≤ j) : dg X j = 0 := dg_big (Nat.lt_of_lt_of_le (dn_lt X) (Nat.pow_le_pow_right (by decide) (by omega)))
theorem dg_top {X : Nat} (h : X ≠ 0) : dg X (dn X - 1) ≠ 0 := by
  have h1 := dn_ge h
  have h2 := dn_lt X
  have h0 : dn X ≠ 0 := fun q => h (dn_0.1 q)
  have e := p16 (dn X - 1)
  rw [show dn X - 1 + 1 = dn X by omega] at e
  have hp := p16_pos (dn X - 1)
  have h3 : X / 2 ^ (16 * (dn X - 1)) < 65536 := Nat.div_lt_of_lt_mul (by rw [← e]; exact h2)
  have h4 : 0 < X / 2 ^ (16 * (dn X - 1)) := Nat.div_pos h1 hp
  unfold dg
  rw [Nat.mod_eq_of_lt h3]
  omega
theorem nd_self (X : Nat) : nd (dg X) (dn X) = X := by rw [nd_dg, Nat.mod_eq_of_lt (dn_lt X)]
theorem nd_self' {X k : Nat} (h : dn X ≤ k) : nd (dg X) k = X := by rw [nd_dg, Nat.mod_eq_of_lt (Nat.lt_of_lt_of_le (dn_lt X) (Nat.pow_le_pow_right (by decide) (by omega)))]
theorem bl_dn {X : Nat} (h : X ≠ 0) : bl X = 16 * (dn X - 1) + bl (dg X (dn X - 1)) := by
  have h1 := dn_ge h
  have h2 := dn_lt X
  have h0 : dn X ≠ 0 := fun q => h (dn_0.1 q)
  have e := p16 (dn X - 1)
  rw [show dn X - 1 + 1 = dn X by omega] at e
  have hp := p16_pos (dn X - 1)
  have h3 : X / 2 ^ (16 * (dn X - 1)) < 65536 := Nat.div_lt_of_lt_mul (by rw [← e]; exact h2)
  have ew : dg X (dn X - 1) = X / 2 ^ (16 * (dn X - 1)) := by unfold dg; rw [Nat.mod_eq_of_lt h3]
  have ht := dg_top h
  rw [ew] at ht ⊢
  apply bl_eq
  · rw [Nat.pow_add, Nat.mul_comm]
    exact (Nat.div_lt_iff_lt_mul hp).1 (bl_lt _)
  · right
    have hb : bl (X / 2 ^ (16 * (dn X - 1))) ≠ 0 := fun q => ht (bl_0.1 q)
    rw [show 16 * (dn X - 1) + bl (X / 2 ^ (16 * (dn X - 1))) - 1 = 16 * (dn X - 1) + (bl (X / 2 ^ (16 * (dn X - 1))) - 1) by omega, Nat.pow_add, Nat.mul_comm]
    exact (Nat.le_div_iff_mul_le hp).1 (bl_ge ht)
theorem dg_div (X r : Nat) : X / 2 ^ (16 * r) = X / 2 ^ (16 * (r + 1)) * 65536 + dg X r := by
  unfold dg
  rw [p16, ← Nat.div_div_eq_div_mul]
  omega
/-! The cells of a Big: the object (its array, its n), and the array of 640 digits -/
abbrev bo (h a : Nat) (u : Int) : Nat × va_E := (h, .inr (3, [.ref a, .int (iv u)]))
abbrev ba (cI : ClassId) (a : Nat) (F : Nat → Nat) : Nat × va_E := (a, .inl (cI, 640, .inl (wA F)))
def isB (ws : va_W) (k0 k1 h a : Nat) (cI : ClassId) (u : Int) (F : Nat → Nat) : Prop := k0 ≠ k1 ∧ ws[k0]? = some (bo h a u) ∧ ws[k1]? = some (ba cI a F)
abbrev bW (ws : va_W) (k0 k1 h a : Nat) (cI : ClassId) (u : Int) (F : Nat → Nat) : va_W := ef_w ws k0 k1 (bo h a u) (ba cI a F)
theorem isB.w {ws : va_W} {k0 k1 h a : Nat} {cI : ClassId} {u : Int} {F : Nat → Nat} (q : isB ws k0 k1 h a cI u F) (u' : Int) (F' : Nat → Nat) : isB (bW ws k0 k1 h a cI u' F') k0 k1 h a cI u' F' := ⟨q.1, ef_w0 q.2.1 q.1, ef_w1 q.2.2⟩
theorem isB.o {ws : va_W} {k0 k1 j0 j1 g b : Nat} {cI : ClassId} {v : Int} {G : Nat → Nat} (q : isB ws j0 j1 g b cI v G) (hap : apt k0 k1 j0 j1) (x0 x1 : Nat × va_E) : isB (ef_w ws k0 k1 x0 x1) j0 j1 g b cI v G := ⟨q.1, (ef_wo hap.1 hap.2.1).trans q.2.1, (ef_wo hap.2.2.1 hap.2.2.2).trans q.2.2⟩
theorem isB.id {ws : va_W} {k0 k1 h a : Nat} {cI : ClassId} {u : Int} {F : Nat → Nat} (q : isB ws k0 k1 h a cI u F) : bW ws k0 k1 h a cI u F = ws := ef_wid q.2.1 q.2.2
theorem isB.s1 {ws : va_W} {k0 k1 h a : Nat} {cI : ClassId} {u : Int} {F : Nat → Nat} (q : isB ws k0 k1 h a cI u F) (F' : Nat → Nat) : ws.set k1 (ba cI a F') = bW ws k0 k1 h a cI u F' := by
  have e := ef_ws1 (ws := ws) (k0 := k0) (k1 := k1) (x0 := bo h a u) (x1 := ba cI a F) (y := ba cI a F')
  rw [ef_wid q.2.1 q.2.2] at e
  exact e
theorem isB.s0 {ws : va_W} {k0 k1 h a : Nat} {cI : ClassId} {u : Int} {F : Nat → Nat} (q : isB ws k0 k1 h a cI u F) (u' : Int) : ws.set k0 (bo h a u') = bW ws k0 k1 h a cI u' F := by
  have e := ef_ws0 (ws := ws) (k0 := k0) (k1 := k1) (x0 := bo h a u) (x1 := ba cI a F) (y := bo h a u') q.1
  rw [ef_wid q.2.1 q.2.2] at e
  exact e
theorem isB.D {A : Nat → Prop} {ws : va_W} {k0 k1 h a : Nat} {cI : ClassId} {u : Int} {F : Nat → Nat} (q : isB ws k0 k1 h a cI u F) (hD : va_D A ws) (u' : Int) (F' : Nat → Nat) : va_D A (bW ws k0 k1 h a cI u' F') := by
  have h1 := hD.set (e := (bo h a u').2) q.2.1
  exact h1.set (e0 := (ba cI a F).2) (by rw [List.getElem?_set_ne q.1]; exact q.2.2)
/-- what the array holds from 640 on is nothing -/
theorem isB.P {D : va_G} {cl : List vw_C} {H : Heap} {ws : va_W} {k0 k1 h a : Nat} {cI : ClassId} {u : Int} {F : Nat → Nat} (q : isB ws k0 k1 h a cI u F) (u' : Int) {G G' : Nat → Nat} (hP : va_P D cl (bW ws k0 k1 h a cI u' G) H) (hG : ∀ j, j < 640 → G j = G' j) : va_P D cl (bW ws k0 k1 h a cI u' G') H := by
  intro k x hk
  have q1 := q.w u' G
  by_cases h1 : k = k1
  · subst h1
    have e2 : (bW ws k0 k h a cI u' G')[k]? = some (ba cI a G') := ef_w1 q.2.2
    rw [e2] at hk
    cases hk
    have h3 := hP k _ q1.2.2
    show H[a]? = some (vp_cell cI (640, .inl (wA G')))
    rw [show H[a]? = some (vp_cell cI (640, .inl (wA G))) from h3]
    exact congrArg some (vp_cell_cong (fun j hj => by show iv ((G j : Nat) : Int) = iv ((G' j : Nat) : Int); rw [hG j hj]))
  · refine hP k x ?_
    rw [← hk]
    show ((ws.set k0 _).set k1 _)[k]? = ((ws.set k0 _).set k1 _)[k]?
    rw [List.getElem?_set_ne (Ne.symm h1), List.getElem?_set_ne (Ne.symm h1)]
theorem egP0 {D : va_G} {cl : List vw_C} {H : Heap} {ws : va_W} {k0 k1 h a : Nat} {cI : ClassId} {u : Int} {F : Nat → Nat} (q : isB ws k0 k1 h a cI u F) (hP : va_P D cl ws H) : va_P D cl (bW ws k0 k1 h a cI u F) H := by rw [isB.id q]; exact hP
theorem egD0 {A : Nat → Prop} {ws : va_W} {k0 k1 h a : Nat} {cI : ClassId} {u : Int} {F : Nat → Nat} (q : isB ws k0 k1 h a cI u F) (hD : va_D A ws) : va_D A (bW ws k0 k1 h a cI u F) := by rw [isB.id q]; exact hD
theorem egP2 {D : va_G} {cl : List vw_C} {H : Heap} {ws : va_W} {k0 k1 h a : Nat} {cI : ClassId} {u u' : Int} {F F' : Nat → Nat} (q : k0 ≠ k1) (hP : va_P D cl (bW (bW ws k0 k1 h a cI u F) k0 k1 h a cI u' F') H) : va_P D cl (bW ws k0 k1 h a cI u' F') H := Eq.mp (congrArg (fun w => va_P D cl w H) (ef_ww q)) hP
theorem egD2 {A : Nat → Prop} {ws : va_W} {k0 k1 h a : Nat} {cI : ClassId} {u u' : Int} {F F' : Nat → Nat} (q : k0 ≠ k1) (hD : va_D A (bW (bW ws k0 k1 h a cI u F) k0 k1 h a cI u' F')) : va_D A (bW ws k0 k1 h a cI u' F') := Eq.mp (congrArg (fun w => va_D A w) (ef_ww q)) hD
theorem egPu {D : va_G} {cl : List vw_C} {H : Heap} {ws : va_W} {k0 k1 h a : Nat} {cI : ClassId} {u u' : Int} {F : Nat → Nat} (q : k0 ≠ k1) (hP : va_P D cl ((bW ws k0 k1 h a cI u F).set k0 (bo h a u')) H) : va_P D cl (bW ws k0 k1 h a cI u' F) H := Eq.mp (congrArg (fun w => va_P D cl w H) (ef_ws0 q)) hP
theorem egDu {A : Nat → Prop} {ws : va_W} {k0 k1 h a : Nat} {cI : ClassId} {u u' : Int} {F : Nat → Nat} (q : k0 ≠ k1) (hD : va_D A ((bW ws k0 k1 h a cI u F).set k0 (bo h a u'))) : va_D A (bW ws k0 k1 h a cI u' F) := Eq.mp (congrArg (fun w => va_D A w) (ef_ws0 q)) hD
theorem egPa {D : va_G} {cl : List vw_C} {H : Heap} {ws : va_W} {k0 k1 h a : Nat} {cI : ClassId} {u : Int} {F F' : Nat → Nat} (hP : va_P D cl ((bW ws k0 k1 h a cI u F).set k1 (ba cI a F')) H) : va_P D cl (bW ws k0 k1 h a cI u F') H := Eq.mp (congrArg (fun w => va_P D cl w H) ef_ws1) hP
theorem egDa {A : Nat → Prop} {ws : va_W} {k0 k1 h a : Nat} {cI : ClassId} {u : Int} {F F' : Nat → Nat} (hD : va_D A ((bW ws k0 k1 h a cI u F).set k1 (ba cI a F'))) : va_D A (bW ws k0 k1 h a cI u F') := Eq.mp (congrArg (fun w => va_D A w) ef_ws1) hD
/-- F holds X's digits -/
def dgo (X : Nat) (F : Nat → Nat) : Prop := ∀ j, j < dn X → F j = dg X j
theorem dgo_nd {X : Nat} {F : Nat → Nat} (h : dgo X F) : nd F (dn X) = X := by rw [nd_cong h, nd_self]
/-- n digits that end with one that is not 0 are the digits of their number -/
theorem dgo_of {F : Nat → Nat} {n : Nat} (hF : ∀ j, j < n → F j < 65536) (ht : n = 0 ∨ F (n - 1) ≠ 0) : dn (nd F n) = n ∧ dgo (nd F n) F := by
  have h1 := nd_lt (F := F) (k := n) hF
  have h2 : n = 0 ∨ 2 ^ (16 * (n - 1)) ≤ nd F n := by
    rcases ht with h | h
    · exact Or.inl h
    · rcases Nat.eq_zero_or_pos n with h3 | h3
      · exact Or.inl h3
      · right
        obtain ⟨r, rfl⟩ : ∃ r, n = r + 1 := ⟨n - 1, by omega⟩
        show 2 ^ (16 * (r + 1 - 1)) ≤ nd F r + F r * 2 ^ (16 * r)
        rw [show r + 1 - 1 = r by omega] at h ⊢
        have h5 : 1 * 2 ^ (16 * r) ≤ F r * 2 ^ (16 * r) := Nat.mul_le_mul_right _ (by omega)
        omega
  have h3 := dn_eq h1 h2
  refine ⟨h3, fun j hj => ?_⟩
  rw [h3] at hj
  rw [dg_nd hF hj]
theorem ef_upB_at {F : Nat → Nat} {k v : Nat} : va_up F k v k = v := if_pos rfl
/-- a step of a sum with carry -/
theorem nd_step {G : Nat → Nat} {i c z y S : Nat} (hinv : nd G i + c * 2 ^ (16 * i) = S) (hz : z = c + y) : nd (va_up G i (z % 65536)) (i + 1) + z / 65536 * 2 ^ (16 * (i + 1)) = S + y * 2 ^ (16 * i) := by
  show nd (va_up G i (z % 65536)) i + va_up G i (z % 65536) i * 2 ^ (16 * i) + _ = _
  rw [nd_cong (G := G) (fun j hj => ef_up_ne (by omega)), ef_up_at, p16, Nat.mul_comm (2 ^ (16 * i)) 65536, ← Nat.mul_assoc]
  have e : z % 65536 * 2 ^ (16 * i) + z / 65536 * 65536 * 2 ^ (16 * i) = z * 2 ^ (16 * i) := by
    rw [← Nat.add_mul]
    congr 1
    omega
  have e2 : z * 2 ^ (16 * i) = c * 2 ^ (16 * i) + y * 2 ^ (16 * i) := by rw [hz, Nat.add_mul]
  omega
theorem dn_of_bl (X : Nat) : dn X = (bl X + 15) / 16 := by
  unfold dn bl
  by_cases h : X = 0
  · rw [if_pos h, if_pos h]
  · rw [if_neg h, if_neg h]; omega
theorem nd_dstep {G Y X : Nat → Nat} {i bo bo2 v : Nat} (h : nd G i + nd Y i = nd X i + bo * 2 ^ (16 * i)) (hz : v + Y i + bo = X i + bo2 * 65536) : nd (va_up G i v) (i + 1) + nd Y (i + 1) = nd X (i + 1) + bo2 * 2 ^ (16 * (i + 1)) := by
  show nd (va_up G i v) i + va_up G i v i * 2 ^ (16 * i) + (nd Y i + Y i * 2 ^ (16 * i)) = nd X i + X i * 2 ^ (16 * i) + _
  rw [nd_cong (G := G) (fun j hj => ef_up_ne (by omega)), ef_up_at, p16, Nat.mul_comm (2 ^ (16 * i)) 65536, ← Nat.mul_assoc]
  have e : (v + Y i + bo) * 2 ^ (16 * i) = (X i + bo2 * 65536) * 2 ^ (16 * i) := by rw [hz]
  rw [Nat.add_mul, Nat.add_mul, Nat.add_mul] at e
  omega
theorem nd_ext {K G : Nat → Nat} {i : Nat} : ∀ {r : Nat}, (∀ j, i ≤ j → j < i + r → K j = G j) → nd K (i + r) + nd G i = nd G (i + r) + nd K i
  | 0, _ => by show nd K i + nd G i = nd G i + nd K i; omega
  | r + 1, h => by
    have e := nd_ext (r := r) (fun j h1 h2 => h j h1 (by omega))
    show nd K (i + r) + K (i + r) * 2 ^ (16 * (i + r)) + nd G i = nd G (i + r) + G (i + r) * 2 ^ (16 * (i + r)) + nd K i
    rw [h (i + r) (by omega) (by omega)]
    omega
theorem add_end {X Y i : Nat} {K : Nat → Nat} (h2 : ∀ j, j < i → K j < 65536) (h3 : nd K i = nd (dg X) i + nd (dg Y) i) (h4 : ∀ j, i ≤ j → j < dn X → K j = dg X j) (hy : dn Y ≤ i) (h6 : i ≤ dn X ∨ i ≤ dn Y ∨ 2 ^ (16 * (i - 1)) ≤ X + Y) : dn (X + Y) = max (dn X) i ∧ dgo (X + Y) K := by
  have hK : ∀ j, j < max (dn X) i → K j < 65536 := fun j hj => by
    rcases Nat.lt_or_ge j i with q | q
    · exact h2 j q
    · rw [h4 j q (by omega)]; exact dg_lt X j
  have e1 := nd_ext (K := K) (G := dg X) (i := i) (r := max (dn X) i - i) (fun j q1 q2 => h4 j q1 (by omega))
  rw [show i + (max (dn X) i - i) = max (dn X) i by omega, nd_self' (by omega : dn X ≤ max (dn X) i), h3, nd_self' hy] at e1
  have e2 : nd K (max (dn X) i) = X + Y := by omega
  have h7 := nd_lt hK
  rw [e2] at h7
  have h8 : max (dn X) i = 0 ∨ 2 ^ (16 * (max (dn X) i - 1)) ≤ X + Y := by
    rcases Nat.lt_or_ge (dn X) i with q | q
    · rw [Nat.max_eq_right (by omega)]
      right
      rcases h6 with h6 | h6 | h6
      · omega
      · have q2 : i = dn Y := by omega
        have q3 : Y ≠ 0 := fun q4 => by rw [dn_0.2 q4] at q2; omega
        rw [q2]
        have := dn_ge q3
        omega
      · exact h6
    · rw [Nat.max_eq_left q]
      rcases Nat.eq_zero_or_pos X with q2 | q2
      · left; exact dn_0.2 q2
      · right
        have := dn_ge (show X ≠ 0 by omega)
        omega
  have h9 := dn_eq h7 h8
  refine ⟨h9, fun j hj => ?_⟩
  rw [h9] at hj
  have := dg_nd hK hj
  rw [e2] at this
  exact this.symm
theorem amul_step16 {A w mu i pl f N : Nat} : (N + mu * A * 2 ^ (16 * pl)) + (w * mu + f) * 2 ^ (16 * (pl + i)) = (N + f * 2 ^ (16 * (pl + i))) + mu * (A + w * 2 ^ (16 * i)) * 2 ^ (16 * pl) := by
  have e : 2 ^ (16 * (pl + i)) = 2 ^ (16 * i) * 2 ^ (16 * pl) := by rw [← Nat.pow_add]; congr 1; omega
  rw [e, Nat.mul_add mu, Nat.add_mul (mu * A), Nat.add_mul (w * mu), ← Nat.mul_assoc mu w, Nat.mul_comm mu w, Nat.mul_assoc (w * mu)]
  omega
theorem nd_shift {V : Nat → Nat} {p X : Nat} (h0 : ∀ j, j < p → V j = 0) (h1 : ∀ j, j < dn X → V (p + j) = dg X j) : nd V (p + dn X) = X * 2 ^ (16 * p) := by
  have e : ∀ n, n ≤ dn X → nd V (p + n) = nd (dg X) n * 2 ^ (16 * p) := by
    intro n
    induction n with
    | zero =>
      intro _
      have := nd_zero (F := V) (k := 0) (n := p) (fun j _ q => h0 j (by omega))
      rw [Nat.zero_add] at this
      show nd V p = 0 * _
      rw [this, Nat.zero_mul]
      rfl
    | succ n ih =>
      intro hn
      show nd V (p + n) + V (p + n) * 2 ^ (16 * (p + n)) = (nd (dg X) n + dg X n * 2 ^ (16 * n)) * 2 ^ (16 * p)
      rw [ih (by omega), h1 n (by omega), Nat.add_mul, Nat.mul_assoc (dg X n), ← Nat.pow_add]
      congr 3
      omega
  rw [e _ (Nat.le_refl _), nd_self]

theorem jv_neg (a : Int) : -jv a = jv (-a) := (Int64.ofInt_neg a).symm
theorem jv_and16 (z : Int) : jv z &&& 65535 = jv (z % 65536) := by
  apply Int64.toBitVec_inj.mp
  apply BitVec.eq_of_toNat_eq
  show (BitVec.ofInt 64 z &&& 65535#64).toNat = (BitVec.ofInt 64 (z % 65536)).toNat
  rw [BitVec.toNat_and, BitVec.toNat_ofInt, BitVec.toNat_ofInt]
  show (z % 18446744073709551616).toNat &&& (2 ^ 16 - 1) = (z % 65536 % 18446744073709551616).toNat
  rw [Nat.and_two_pow_sub_one_eq_mod]
  show (z % 18446744073709551616).toNat % 65536 = _
  omega
theorem iv_and16 (z : Int) : iv z &&& iv 65535 = iv (z % 65536) := by
  apply Int32.toBitVec_inj.mp
  apply BitVec.eq_of_toNat_eq
  show (BitVec.ofInt 32 z &&& 65535#32).toNat = (BitVec.ofInt 32 (z % 65536)).toNat
  rw [BitVec.toNat_and, BitVec.toNat_ofInt, BitVec.toNat_ofInt]
  show (z % 4294967296).toNat &&& (2 ^ 16 - 1) = (z % 65536 % 4294967296).toNat
  rw [Nat.and_two_pow_sub_one_eq_mod]
  show (z % 4294967296).toNat % 65536 = _
  omega
theorem jv_shr16 {z : Int} (h : jr z) : jv z >>> ((iv 16).toInt64 &&& 63) = jv (z / 65536) := by
  apply Int64.toInt_inj.mp
  have e : (jv z >>> ((iv 16).toInt64 &&& 63)).toInt = (jv z).toInt >>> 16 := by
    have hD : ((((iv 16).toInt64 &&& 63)).toBitVec.smod 64).toNat = 16 := by decide
    have := BitVec.toInt_sshiftRight (x := (jv z).toBitVec) (n := ((((iv 16).toInt64 &&& 63)).toBitVec.smod 64).toNat)
    rw [hD] at this
    exact this
  have h1 := h.1
  have h2 := h.2
  rw [e, Int.shiftRight_eq_div_pow, jv_toInt h, jv_toInt ⟨by omega, by omega⟩]
  rfl
theorem iv_sk : ∀ n, n < 32 → ((nI n &&& 31).toBitVec.smod 32).toNat = n := by decide +kernel
theorem iv_shrk {a k : Nat} (ha : a < 2147483648) (hk : k < 32) : iv (a : Int) >>> (iv (k : Int) &&& 31) = iv ((a / 2 ^ k : Nat) : Int) := by
  rw [iv_nI, iv_nI, iv_nI]
  exact pk_shrN (by omega) (nI k &&& 31) k (iv_sk k hk)
theorem iv_shlk {a k : Nat} (hk : k < 32) (h : a * 2 ^ k < 4294967296) : iv (a : Int) <<< (iv (k : Int) &&& 31) = iv ((a * 2 ^ k : Nat) : Int) := by
  rw [iv_nI, iv_nI, iv_nI]
  exact pk_shlN (nI k &&& 31) k (iv_sk k hk) (by omega)
theorem iv_div16 {a : Nat} (ha : a < 2147483648) : iv (a : Int) / iv 16 = iv ((a / 16 : Nat) : Int) := by
  have e : iv 16 = nI 16 := rfl
  rw [e, iv_nI, iv_nI]
  exact pk_div (by omega) (by decide) (by decide)
theorem iv_rem16 {a : Nat} (ha : a < 2147483648) : iv (a : Int) - iv (a : Int) / iv 16 * iv 16 = iv ((a % 16 : Nat) : Int) := by
  have e : iv 16 = nI 16 := rfl
  rw [e, iv_nI, iv_nI]
  exact pk_rem (by omega) (by decide) (by decide)
theorem zc_le (a b : Int) : zc a b ≤ 0 ↔ a ≤ b := by unfold zc; (repeat split) <;> omega
theorem zc_lt0 (a b : Int) : zc a b < 0 ↔ a < b := by unfold zc; (repeat split) <;> omega
theorem lcmp0 {v : Nat} (hv : v < 18446744073709551616) : lg_cmp (jv (v : Int)) (jv 0) = 0 ↔ v = 0 := by
  constructor
  · intro h
    rcases Nat.eq_zero_or_pos v with h1 | h1
    · exact h1
    · exact absurd h (lcmp_ne (jv_ne0 hv (by omega)))
  · intro h
    rw [h]
    rfl
section BROWS
variable {p : Program} {l : Launch} {e : Env} {R : Room} {s : State} {m : MethodId} {args : Array Value} {below : List Frame} {meth : Method} {c : Code} {H : Heap} {locs : List Loc} {cells slots : Nat} {Q : State → Prop} {cc : ByteArray} {pc : Nat} {ls : Array Slot} {rest : List Value}
theorem iw_land16 (hx : p.tables.exec = Jvm.exec) (hb : c.code = cc) {a : Int} (hdg : decode cc pc = .ok (.land, 1)) (k : W p l e R s m args below meth c H locs cells slots Q (F0 m (pc + 1) ls (.long (jv (a % 65536)) :: rest))) : W p l e R s m args below meth c H locs cells slots Q (F0 m pc ls (.long 65535 :: .long (jv a) :: rest)) := lv_land hx hb hdg (by rw [jv_and16]; exact k)
theorem iw_iand16 (hx : p.tables.exec = Jvm.exec) (hb : c.code = cc) {a : Int} (hdg : decode cc pc = .ok (.iand, 1)) (k : W p l e R s m args below meth c H locs cells slots Q (F0 m (pc + 1) ls (.int (iv (a % 65536)) :: rest))) : W p l e R s m args below meth c H locs cells slots Q (F0 m pc ls (.int (iv 65535) :: .int (iv a) :: rest)) := lv_iand hx hb hdg (by rw [iv_and16]; exact k)
theorem iw_lshr16 (hx : p.tables.exec = Jvm.exec) (hb : c.code = cc) {a : Int} (ha : jr a) (hdg : decode cc pc = .ok (.lshr, 1)) (k : W p l e R s m args below meth c H locs cells slots Q (F0 m (pc + 1) ls (.long (jv (a / 65536)) :: rest))) : W p l e R s m args below meth c H locs cells slots Q (F0 m pc ls (.int (iv 16) :: .long (jv a) :: rest)) := lv_lshr hx hb hdg (jv_shr16 ha) k
theorem iw_lneg (hx : p.tables.exec = Jvm.exec) (hb : c.code = cc) {a : Int} (hdg : decode cc pc = .ok (.lneg, 1)) (k : W p l e R s m args below meth c H locs cells slots Q (F0 m (pc + 1) ls (.long (jv (-a)) :: rest))) : W p l e R s m args below meth c H locs cells slots Q (F0 m pc ls (.long (jv a) :: rest)) := lv_lneg hx hb hdg (by rw [jv_neg]; exact k)
theorem iw_ishrk (hx : p.tables.exec = Jvm.exec) (hb : c.code = cc) {a k : Nat} (ha : a < 2147483648) (hk : k < 32) (hdg : decode cc pc = .ok (.ishr, 1)) (kk : W p l e R s m args below meth c H locs cells slots Q (F0 m (pc + 1) ls (.int (iv ((a / 2 ^ k : Nat) : Int)) :: rest))) : W p l e R s m args below meth c H locs cells slots Q (F0 m pc ls (.int (iv (k : Int)) :: .int (iv (a : Int)) :: rest)) := lv_ishr hx hb hdg (by rw [iv_shrk ha hk]; exact kk)
theorem iw_ishlk (hx : p.tables.exec = Jvm.exec) (hb : c.code = cc) {a k : Nat} (hk : k < 32) (h : a * 2 ^ k < 4294967296) (hdg : decode cc pc = .ok (.ishl, 1)) (kk : W p l e R s m args below meth c H locs cells slots Q (F0 m (pc + 1) ls (.int (iv ((a * 2 ^ k : Nat) : Int)) :: rest))) : W p l e R s m args below meth c H locs cells slots Q (F0 m pc ls (.int (iv (k : Int)) :: .int (iv (a : Int)) :: rest)) := lv_ishl hx hb hdg (by rw [iv_shlk hk h]; exact kk)
theorem iw_idiv16 (hx : p.tables.exec = Jvm.exec) (hb : c.code = cc) {a : Nat} (ha : a < 2147483648) (hdg : decode cc pc = .ok (.idiv, 1)) (kk : W p l e R s m args below meth c H locs cells slots Q (F0 m (pc + 1) ls (.int (iv ((a / 16 : Nat) : Int)) :: rest))) : W p l e R s m args below meth c H locs cells slots Q (F0 m pc ls (.int (iv 16) :: .int (iv (a : Int)) :: rest)) := lv_idiv hx hb hdg (by decide) (by rw [iv_div16 ha]; exact kk)
theorem iw_irem16 (hx : p.tables.exec = Jvm.exec) (hb : c.code = cc) {a : Nat} (ha : a < 2147483648) (hdg : decode cc pc = .ok (.irem, 1)) (kk : W p l e R s m args below meth c H locs cells slots Q (F0 m (pc + 1) ls (.int (iv ((a % 16 : Nat) : Int)) :: rest))) : W p l e R s m args below meth c H locs cells slots Q (F0 m pc ls (.int (iv 16) :: .int (iv (a : Int)) :: rest)) := lv_irem hx hb hdg (by decide) (by rw [iv_rem16 ha]; exact kk)
end BROWS
