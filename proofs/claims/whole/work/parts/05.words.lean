abbrev vwCl : List vw_C := [(RX0, TX0, 4), (RX1, TX1, 2), (RX2, TX2, 4), (rR3, rT3, 2), (rR4, rT4, 4), (rR5, rT5, 7)]
/-! The cells of a Whole: the object (its array, its used), and the array of 301 words -/
abbrev wo (h a : Nat) (u : Int) : Nat × va_E := (h, .inr (1, [.ref a, .int (iv u)]))
abbrev wa (cI : ClassId) (a : Nat) (F : Nat → Nat) : Nat × va_E := (a, .inl (cI, 301, .inl (wA F)))
def isW (ws : va_W) (k0 k1 h a : Nat) (cI : ClassId) (u : Int) (F : Nat → Nat) : Prop := k0 ≠ k1 ∧ ws[k0]? = some (wo h a u) ∧ ws[k1]? = some (wa cI a F)
abbrev wW (ws : va_W) (k0 k1 h a : Nat) (cI : ClassId) (u : Int) (F : Nat → Nat) : va_W := ef_w ws k0 k1 (wo h a u) (wa cI a F)
def apt (k0 k1 j0 j1 : Nat) : Prop := j0 ≠ k0 ∧ j0 ≠ k1 ∧ j1 ≠ k0 ∧ j1 ≠ k1
theorem isW.w {ws : va_W} {k0 k1 h a : Nat} {cI : ClassId} {u : Int} {F : Nat → Nat} (q : isW ws k0 k1 h a cI u F) (u' : Int) (F' : Nat → Nat) : isW (wW ws k0 k1 h a cI u' F') k0 k1 h a cI u' F' := ⟨q.1, ef_w0 q.2.1 q.1, ef_w1 q.2.2⟩
theorem isW.o {ws : va_W} {k0 k1 j0 j1 g b : Nat} {cI : ClassId} {v : Int} {G : Nat → Nat} (q : isW ws j0 j1 g b cI v G) (hap : apt k0 k1 j0 j1) (x0 x1 : Nat × va_E) : isW (ef_w ws k0 k1 x0 x1) j0 j1 g b cI v G := ⟨q.1, (ef_wo hap.1 hap.2.1).trans q.2.1, (ef_wo hap.2.2.1 hap.2.2.2).trans q.2.2⟩
theorem isW.id {ws : va_W} {k0 k1 h a : Nat} {cI : ClassId} {u : Int} {F : Nat → Nat} (q : isW ws k0 k1 h a cI u F) : wW ws k0 k1 h a cI u F = ws := ef_wid q.2.1 q.2.2
theorem isW.s1 {ws : va_W} {k0 k1 h a : Nat} {cI : ClassId} {u : Int} {F : Nat → Nat} (q : isW ws k0 k1 h a cI u F) (F' : Nat → Nat) : ws.set k1 (wa cI a F') = wW ws k0 k1 h a cI u F' := by
  have e := ef_ws1 (ws := ws) (k0 := k0) (k1 := k1) (x0 := wo h a u) (x1 := wa cI a F) (y := wa cI a F')
  rw [ef_wid q.2.1 q.2.2] at e
  exact e
theorem isW.s0 {ws : va_W} {k0 k1 h a : Nat} {cI : ClassId} {u : Int} {F : Nat → Nat} (q : isW ws k0 k1 h a cI u F) (u' : Int) : ws.set k0 (wo h a u') = wW ws k0 k1 h a cI u' F := by
  have e := ef_ws0 (ws := ws) (k0 := k0) (k1 := k1) (x0 := wo h a u) (x1 := wa cI a F) (y := wo h a u') q.1
  rw [ef_wid q.2.1 q.2.2] at e
  exact e
theorem isW.D {A : Nat → Prop} {ws : va_W} {k0 k1 h a : Nat} {cI : ClassId} {u : Int} {F : Nat → Nat} (q : isW ws k0 k1 h a cI u F) (hD : va_D A ws) (u' : Int) (F' : Nat → Nat) : va_D A (wW ws k0 k1 h a cI u' F') := by
  have h1 := hD.set (e := (wo h a u').2) q.2.1
  exact h1.set (e0 := (wa cI a F).2) (by rw [List.getElem?_set_ne q.1]; exact q.2.2)
/-- what the array holds from 301 on is nothing -/
theorem isW.P {D : va_G} {cl : List vw_C} {H : Heap} {ws : va_W} {k0 k1 h a : Nat} {cI : ClassId} {u : Int} {F : Nat → Nat} (q : isW ws k0 k1 h a cI u F) (u' : Int) {G G' : Nat → Nat} (hP : va_P D cl (wW ws k0 k1 h a cI u' G) H) (hG : ∀ j, j < 301 → G j = G' j) : va_P D cl (wW ws k0 k1 h a cI u' G') H := by
  intro k x hk
  have q1 := q.w u' G
  by_cases h1 : k = k1
  · subst h1
    have e2 : (wW ws k0 k h a cI u' G')[k]? = some (wa cI a G') := ef_w1 q.2.2
    rw [e2] at hk
    cases hk
    have h3 := hP k _ q1.2.2
    show H[a]? = some (vp_cell cI (301, .inl (wA G')))
    rw [show H[a]? = some (vp_cell cI (301, .inl (wA G))) from h3]
    exact congrArg some (vp_cell_cong (fun j hj => by show iv ((G j : Nat) : Int) = iv ((G' j : Nat) : Int); rw [hG j hj]))
  · refine hP k x ?_
    rw [← hk]
    show ((ws.set k0 _).set k1 _)[k]? = ((ws.set k0 _).set k1 _)[k]?
    rw [List.getElem?_set_ne (Ne.symm h1), List.getElem?_set_ne (Ne.symm h1)]
/-- the word at a place, and what 'put' leaves -/
def wz (F : Nat → Nat) (z : Int) : Nat := if 0 ≤ z ∧ z < 301 then F z.toNat else 0
def wp (F : Nat → Nat) (z v : Int) : Nat → Nat := if 0 ≤ z ∧ z < 301 then va_up F z.toNat (v % 4294967296).toNat else F
theorem wz_in {F : Nat → Nat} {n : Nat} (h : n < 301) : wz F (n : Int) = F n := by unfold wz; rw [if_pos ⟨by omega, by omega⟩]; rfl
theorem wz_out {F : Nat → Nat} {z : Int} (h : z < 0 ∨ 301 ≤ z) : wz F z = 0 := by unfold wz; rw [if_neg (by omega)]
theorem wz_lt {F : Nat → Nat} (h : ∀ j, F j < 4294967296) (z : Int) : wz F z < 4294967296 := by
  unfold wz
  split
  · exact h _
  · decide
theorem wp_in {F : Nat → Nat} {n : Nat} (v : Int) (h : n < 301) : wp F (n : Int) v = va_up F n (v % 4294967296).toNat := by unfold wp; rw [if_pos ⟨by omega, by omega⟩]; rfl
theorem wp_out {F : Nat → Nat} {z v : Int} (h : z < 0 ∨ 301 ≤ z) : wp F z v = F := by unfold wp; rw [if_neg (by omega)]
theorem ef_up_at {F : Nat → Nat} {k v : Nat} : va_up F k v k = v := if_pos rfl
theorem ef_up_ne {F : Nat → Nat} {k v j : Nat} (h : j ≠ k) : va_up F k v j = F j := if_neg h
theorem wp_lt {F : Nat → Nat} (h : ∀ j, F j < 4294967296) (z v : Int) : ∀ j, wp F z v j < 4294967296 := by
  intro j
  unfold wp
  split
  · show (if j = z.toNat then (v % 4294967296).toNat else F j) < _
    split
    · omega
    · exact h j
  · exact h j
theorem wp_at {F : Nat → Nat} {n v : Nat} (h : n < 301) : wp F (n : Int) (v : Int) n = v % 4294967296 := by
  rw [wp_in _ h, ef_up_at]
  omega
theorem wp_ne {F : Nat → Nat} {z v : Int} {j : Nat} (h : (j : Int) ≠ z) : wp F z v j = F j := by
  unfold wp
  split
  · exact ef_up_ne (by omega)
  · rfl
/-- a step of a sum with carry -/
theorem nv_step {G : Nat → Nat} {i c z y S : Nat} (hi : i < 301) (hinv : nv G i + c * 2 ^ (32 * i) = S) (hz : z = c + y) : nv (wp G (i : Int) (z : Int)) (i + 1) + z / 4294967296 * 2 ^ (32 * (i + 1)) = S + y * 2 ^ (32 * i) := by
  show nv (wp G (i : Int) (z : Int)) i + wp G (i : Int) (z : Int) i * 2 ^ (32 * i) + _ = _
  rw [nv_cong (G := G) (fun j hj => wp_ne (by omega)), wp_at hi, p32, Nat.mul_comm (2 ^ (32 * i)) 4294967296, ← Nat.mul_assoc]
  have e : z % 4294967296 * 2 ^ (32 * i) + z / 4294967296 * 4294967296 * 2 ^ (32 * i) = z * 2 ^ (32 * i) := by
    rw [← Nat.add_mul]
    congr 1
    omega
  have e2 : z * 2 ^ (32 * i) = c * 2 ^ (32 * i) + y * 2 ^ (32 * i) := by rw [hz, Nat.add_mul]
  omega
/-- the words from t to n put to 0 -/
def zf (F : Nat → Nat) (t i : Nat) : Nat → Nat := fun j => if t ≤ j ∧ j < i then 0 else F j
theorem zf_0 (F : Nat → Nat) (t : Nat) : zf F t t = F := by funext j; unfold zf; rw [if_neg (by omega)]
theorem zf_s {F : Nat → Nat} {t i : Nat} (h : t ≤ i) (h2 : i < 301) : wp (zf F t i) (i : Int) 0 = zf F t (i + 1) := by
  rw [wp_in _ h2]
  funext j
  by_cases hj : j = i
  · subst hj
    rw [ef_up_at]
    unfold zf
    rw [if_pos ⟨h, by omega⟩]
    rfl
  · rw [ef_up_ne hj]
    unfold zf
    by_cases h3 : t ≤ j ∧ j < i
    · rw [if_pos h3, if_pos ⟨h3.1, by omega⟩]
    · rw [if_neg h3, if_neg (by omega)]
theorem zf_lt {F : Nat → Nat} (h : ∀ j, F j < 4294967296) (t i : Nat) : ∀ j, zf F t i j < 4294967296 := by
  intro j
  unfold zf
  split
  · decide
  · exact h j
/-- what 'settle' ends with -/
theorem settled {G : Nat → Nat} {q T : Nat} (hG : ∀ j, G j < 4294967296) (hq : q ≤ T) (hT : T ≤ 301) (hz : ∀ j, q ≤ j → j < 301 → G j = 0) (ht : q = 0 ∨ G (q - 1) ≠ 0) : wl (nv G T) = q ∧ ∀ j, j < 301 → G j = wd (nv G T) j := by
  have e : nv G T = nv G q := by
    have := nv_zero (F := G) (k := q) (n := T - q) (fun j h1 h2 => hz j h1 (by omega))
    rw [show q + (T - q) = T by omega] at this
    exact this
  rw [e]
  have h1 := nv_lt (F := G) (k := q) (fun j _ => hG j)
  have h2 : q = 0 ∨ 2 ^ (32 * (q - 1)) ≤ nv G q := by
    rcases ht with h | h
    · exact Or.inl h
    · rcases Nat.eq_zero_or_pos q with h3 | h3
      · exact Or.inl h3
      · right
        obtain ⟨r, rfl⟩ : ∃ r, q = r + 1 := ⟨q - 1, by omega⟩
        show 2 ^ (32 * (r + 1 - 1)) ≤ nv G r + G r * 2 ^ (32 * r)
        rw [show r + 1 - 1 = r by omega] at h ⊢
        have h5 : 1 * 2 ^ (32 * r) ≤ G r * 2 ^ (32 * r) := Nat.mul_le_mul_right _ (by omega)
        omega
  have h3 := wl_eq h1 h2
  refine ⟨h3, fun j hj => ?_⟩
  rcases Nat.lt_or_ge j q with h4 | h4
  · rw [wd_nv (fun j _ => hG j) h4]
  · rw [hz j h4 hj, wd_above (by omega)]
theorem efP0 {D : va_G} {cl : List vw_C} {H : Heap} {ws : va_W} {k0 k1 h a : Nat} {cI : ClassId} {u : Int} {F : Nat → Nat} (q : isW ws k0 k1 h a cI u F) (hP : va_P D cl ws H) : va_P D cl (wW ws k0 k1 h a cI u F) H := by rw [isW.id q]; exact hP
theorem efD0 {A : Nat → Prop} {ws : va_W} {k0 k1 h a : Nat} {cI : ClassId} {u : Int} {F : Nat → Nat} (q : isW ws k0 k1 h a cI u F) (hD : va_D A ws) : va_D A (wW ws k0 k1 h a cI u F) := by rw [isW.id q]; exact hD
theorem efP2 {D : va_G} {cl : List vw_C} {H : Heap} {ws : va_W} {k0 k1 h a : Nat} {cI : ClassId} {u u' : Int} {F F' : Nat → Nat} (q : k0 ≠ k1) (hP : va_P D cl (wW (wW ws k0 k1 h a cI u F) k0 k1 h a cI u' F') H) : va_P D cl (wW ws k0 k1 h a cI u' F') H := Eq.mp (congrArg (fun w => va_P D cl w H) (ef_ww q)) hP
theorem efD2 {A : Nat → Prop} {ws : va_W} {k0 k1 h a : Nat} {cI : ClassId} {u u' : Int} {F F' : Nat → Nat} (q : k0 ≠ k1) (hD : va_D A (wW (wW ws k0 k1 h a cI u F) k0 k1 h a cI u' F')) : va_D A (wW ws k0 k1 h a cI u' F') := Eq.mp (congrArg (fun w => va_D A w) (ef_ww q)) hD
theorem efPu {D : va_G} {cl : List vw_C} {H : Heap} {ws : va_W} {k0 k1 h a : Nat} {cI : ClassId} {u u' : Int} {F : Nat → Nat} (q : k0 ≠ k1) (hP : va_P D cl ((wW ws k0 k1 h a cI u F).set k0 (wo h a u')) H) : va_P D cl (wW ws k0 k1 h a cI u' F) H := Eq.mp (congrArg (fun w => va_P D cl w H) (ef_ws0 q)) hP
theorem efDu {A : Nat → Prop} {ws : va_W} {k0 k1 h a : Nat} {cI : ClassId} {u u' : Int} {F : Nat → Nat} (q : k0 ≠ k1) (hD : va_D A ((wW ws k0 k1 h a cI u F).set k0 (wo h a u'))) : va_D A (wW ws k0 k1 h a cI u' F) := Eq.mp (congrArg (fun w => va_D A w) (ef_ws0 q)) hD
theorem efPa {D : va_G} {cl : List vw_C} {H : Heap} {ws : va_W} {k0 k1 h a : Nat} {cI : ClassId} {u : Int} {F F' : Nat → Nat} (hP : va_P D cl ((wW ws k0 k1 h a cI u F).set k1 (wa cI a F')) H) : va_P D cl (wW ws k0 k1 h a cI u F') H := Eq.mp (congrArg (fun w => va_P D cl w H) ef_ws1) hP
theorem efDa {A : Nat → Prop} {ws : va_W} {k0 k1 h a : Nat} {cI : ClassId} {u : Int} {F F' : Nat → Nat} (hD : va_D A ((wW ws k0 k1 h a cI u F).set k1 (wa cI a F'))) : va_D A (wW ws k0 k1 h a cI u F') := Eq.mp (congrArg (fun w => va_D A w) ef_ws1) hD
theorem become_val (F : Nat → Nat) (v : Nat) (hv : v < 18446744073709551616) : nv (wp (wp F 0 (v : Int)) 1 ((v : Int) / 4294967296)) (min 2 301) = v := by
  show 0 + wp (wp F 0 (v : Int)) 1 ((v : Int) / 4294967296) 0 * 2 ^ (32 * 0) + wp (wp F 0 (v : Int)) 1 ((v : Int) / 4294967296) 1 * 2 ^ (32 * 1) = v
  rw [wp_ne (by omega), show ((0 : Int)) = ((0 : Nat) : Int) from rfl, wp_at (by decide), show ((1 : Int)) = ((1 : Nat) : Int) from rfl, show (v : Int) / 4294967296 = ((v / 4294967296 : Nat) : Int) by omega, wp_at (by decide)]
  show 0 + v % 4294967296 * 1 + v / 4294967296 % 4294967296 * 4294967296 = v
  omega
/-- a step of a difference with borrow -/
theorem nv_dstep {G Y Z : Nat → Nat} {i bo bo2 : Nat} {z : Int} (hi : i < 301) (h : nv G i + nv Z i = nv Y i + bo * 2 ^ (32 * i)) (hz : (z % 4294967296).toNat + Z i + bo = Y i + bo2 * 4294967296) : nv (wp G (i : Int) z) (i + 1) + nv Z (i + 1) = nv Y (i + 1) + bo2 * 2 ^ (32 * (i + 1)) := by
  show nv (wp G (i : Int) z) i + wp G (i : Int) z i * 2 ^ (32 * i) + (nv Z i + Z i * 2 ^ (32 * i)) = nv Y i + Y i * 2 ^ (32 * i) + _
  rw [nv_cong (G := G) (fun j hj => wp_ne (by omega)), wp_in _ hi, ef_up_at, p32, Nat.mul_comm (2 ^ (32 * i)) 4294967296, ← Nat.mul_assoc]
  have e : ((z % 4294967296).toNat + Z i + bo) * 2 ^ (32 * i) = (Y i + bo2 * 4294967296) * 2 ^ (32 * i) := by rw [hz]
  rw [Nat.add_mul, Nat.add_mul, Nat.add_mul] at e
  omega
