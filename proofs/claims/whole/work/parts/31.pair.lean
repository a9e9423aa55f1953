/-! Class and reference side by side: one call of each, one answer, one state behind -/
theorem ef_C.mono {l : Launch} {y : MethodName} {w : List Cond} {rm : Room} {av : List Value} {D : va_G} {cl : List vw_C} {tys : List (ClassId × FieldType)} {ws : va_W} {post post2 : Option Value → va_W → Prop} (h : ef_C l y w rm av D cl tys ws post) (hp : ∀ o w1, post o w1 → post2 o w1) : ef_C l y w rm av D cl tys ws post2 := by
  unfold ef_C Met at h ⊢
  refine MetFree.mono h (fun _ _ h => h) (fun _ _ _ _ _ h => h) ?_
  rintro a U o t _ ⟨⟨⟨o1, w1, e1, hq, hP, hD⟩, hF⟩, hL⟩
  exact ⟨⟨⟨o1, w1, e1, hp o1 w1 hq, hP, hD⟩, hF⟩, hL⟩
theorem ef_C.fr {l : Launch} {y : MethodName} {w : List Cond} {rm : Room} {av : List Value} {D : va_G} {cl : List vw_C} {tys : List (ClassId × FieldType)} {ws : va_W} {post : Option Value → va_W → Prop} (h : ef_C l y w rm av D cl tys ws post) (wr : va_W) : ef_C l y w rm av D cl tys (ws ++ wr) (fun o w1 => ∃ w2, post o w2 ∧ w1 = w2 ++ wr) := h.frame [] wr
theorem ef_C.fl {l : Launch} {y : MethodName} {w : List Cond} {rm : Room} {av : List Value} {D : va_G} {cl : List vw_C} {tys : List (ClassId × FieldType)} {ws : va_W} {post : Option Value → va_W → Prop} (h : ef_C l y w rm av D cl tys ws post) (wl : va_W) : ef_C l y w rm av D cl tys (wl ++ ws) (fun o w1 => ∃ w2, post o w2 ∧ w1 = wl ++ w2) := by
  have h1 := h.frame wl []
  rw [List.append_nil] at h1
  refine h1.mono (fun o w1 h => ?_)
  obtain ⟨w2, h2, h3⟩ := h
  exact ⟨w2, h2, by rw [h3, List.append_nil]⟩
/-- what holds of a number between two calls -/
def wf (A U : Nat) (b e : Int) : Prop := bl A ≤ 4800 ∧ bl U ≤ 4800 ∧ U ≠ 0 ∧ (b = 0 ∨ b = 1) ∧ -12000 ≤ e ∧ e ≤ 12000
theorem wf_new : wf 0 1 0 0 := ⟨by decide, by decide, by decide, Or.inl rfl, by decide, by decide⟩
theorem wl150 {X : Nat} (h : bl X ≤ 4800) : wl X ≤ 150 := wl_bl (k := 150) h
theorem dn300 {X : Nat} (h : bl X ≤ 4800) : dn X ≤ 300 := dn_bl (k := 300) h
theorem bl_v {v : Nat} (h : v < 18446744073709551616) : bl v ≤ 4800 := Nat.le_trans (bl_le (k := 64) h) (by decide)
def lwC (l : Launch) (dC : Nat → ClassId) (dI : Nat → Nat → Nat) (cI : ClassId) (y : MethodName) (w : List Cond) (rm : Room) (as : List Value) (q : Nat → Nat) (A1 U1 : Nat) (b1 e1 : Int) (A2 U2 : Nat) (b2 e2 : Int) (v : Value) (A1' U1' : Nat) (b1' e1' : Int) (A2' U2' : Nat) (b2' e2' : Int) : Prop :=
  ∀ L R : Nat, wl L ≤ 301 → wl R ≤ 301 → ef_C l y w rm (.ref (q 0) :: as) (dC, dI) vwCl [(cI, .int)] (cC cI q A1 U1 b1 e1 A2 U2 b2 e2 L R) (fun o w1 => ∃ (q2 : Nat → Nat) (L2 R2 : Nat), o = some v ∧ q2 0 = q 0 ∧ w1 = cC cI q2 A1' U1' b1' e1' A2' U2' b2' e2' L2 R2 ∧ wl L2 ≤ 301 ∧ wl R2 ≤ 301)
def lwR (l : Launch) (dC : Nat → ClassId) (dI : Nat → Nat → Nat) (cI : ClassId) (y : MethodName) (w : List Cond) (rm : Room) (as : List Value) (r : Nat → Nat) (A1 U1 : Nat) (b1 e1 : Int) (A2 U2 : Nat) (b2 e2 : Int) (v : Value) (A1' U1' : Nat) (b1' e1' : Int) (A2' U2' : Nat) (b2' e2' : Int) : Prop :=
  ∀ (V : Nat → Nat) (J : Nat → Nat → Nat) (pb pe ob oe : Int), rJ V J → bk A1 (J 7) → bk U1 (J 8) → bk A2 (J 9) → bk U2 (J 10) → ef_C l y w rm (.ref (r 0) :: as) (dC, dI) vwCl [(cI, .int)] (rC cI r (V 0) (V 1) (V 2) (V 3) (V 4) (V 5) (V 6) A1 U1 A2 U2 (J 0) (J 1) (J 2) (J 3) (J 4) (J 5) (J 6) (J 7) (J 8) (J 9) (J 10) pb pe ob oe b1 e1 b2 e2) (fun o w1 => ∃ (V2 : Nat → Nat) (J2 : Nat → Nat → Nat) (pb2 pe2 ob2 oe2 : Int), o = some v ∧ w1 = rC cI r (V2 0) (V2 1) (V2 2) (V2 3) (V2 4) (V2 5) (V2 6) A1' U1' A2' U2' (J2 0) (J2 1) (J2 2) (J2 3) (J2 4) (J2 5) (J2 6) (J2 7) (J2 8) (J2 9) (J2 10) pb2 pe2 ob2 oe2 b1' e1' b2' e2' ∧ rJ V2 J2 ∧ bk A1' (J2 7) ∧ bk U1' (J2 8) ∧ bk A2' (J2 9) ∧ bk U2' (J2 10))
def isI (v : Value) : Prop := ∃ a : Int32, v = .int a
def isJ (v : Value) : Prop := ∃ a : Int64, v = .long a
def lwP (l : Launch) (dC : Nat → ClassId) (dI : Nat → Nat → Nat) (cI : ClassId) (y : MethodName) (w : List Cond) (rm : Room) (y2 : MethodName) (w2 : List Cond) (rm2 : Room) (as : List Value) (kd : Value → Prop) (q r : Nat → Nat) (A1 U1 : Nat) (b1 e1 : Int) (A2 U2 : Nat) (b2 e2 : Int) : Prop :=
  ∃ (v : Value) (A1' U1' : Nat) (b1' e1' : Int) (A2' U2' : Nat) (b2' e2' : Int), kd v ∧ wf A1' U1' b1' e1' ∧ wf A2' U2' b2' e2' ∧ lwC l dC dI cI y w rm as q A1 U1 b1 e1 A2 U2 b2 e2 v A1' U1' b1' e1' A2' U2' b2' e2' ∧ lwR l dC dI cI y2 w2 rm2 as r A1 U1 b1 e1 A2 U2 b2 e2 v A1' U1' b1' e1' A2' U2' b2' e2'
theorem lwC.of {l : Launch} {dC : Nat → ClassId} {dI : Nat → Nat → Nat} {cI : ClassId} {y : MethodName} {w : List Cond} {rm : Room} {as : List Value} {q q2 : Nat → Nat} {A1 U1 : Nat} {b1 e1 : Int} {A2 U2 : Nat} {b2 e2 : Int} {v : Value} {A1' U1' : Nat} {b1' e1' : Int} {A2' U2' : Nat} {b2' e2' : Int} (hq : q2 0 = q 0)
    (h : ∀ L R : Nat, wl L ≤ 301 → wl R ≤ 301 → ef_C l y w rm (.ref (q 0) :: as) (dC, dI) vwCl [(cI, .int)] (cC cI q A1 U1 b1 e1 A2 U2 b2 e2 L R) (fun o w1 => ∃ L2 R2 : Nat, o = some v ∧ w1 = cC cI q2 A1' U1' b1' e1' A2' U2' b2' e2' L2 R2 ∧ wl L2 ≤ 301 ∧ wl R2 ≤ 301)) : lwC l dC dI cI y w rm as q A1 U1 b1 e1 A2 U2 b2 e2 v A1' U1' b1' e1' A2' U2' b2' e2' := by
  intro L R hL hR
  refine (h L R hL hR).mono (fun o w1 h => ?_)
  obtain ⟨L2, R2, g1, g2, g3, g4⟩ := h
  exact ⟨q2, L2, R2, g1, hq, g2, g3, g4⟩
theorem num3 (z : Int) : z = 0 ∨ z = 1 ∨ (z ≠ 0 ∧ z ≠ 1) := by omega
theorem flag2 (z : Int) : (if z = 0 then (0 : Int) else 1) = 0 ∨ (if z = 0 then (0 : Int) else 1) = 1 := by split <;> simp
theorem jv_un (w : Int64) : ∃ v : Nat, v < 18446744073709551616 ∧ w = jv (v : Int) := by
  refine ⟨(w.toInt % 18446744073709551616).toNat, by omega, ?_⟩
  rw [Int.toNat_of_nonneg (by omega)]
  rw [← jv_cong (a := w.toInt) (by omega)]
  exact (jv_of w).symm

set_option maxRecDepth 100000 in
set_option maxHeartbeats 4000000 in
/-- begin, class and reference -/
theorem lp_begin (l : Launch) (dC : Nat → ClassId) (dI : Nat → Nat → Nat) (cI : ClassId) (q r : Nat → Nat) {A1 U1 A2 U2 : Nat} {b1 e1 b2 e2 : Int} (W1 : wf A1 U1 b1 e1) (W2 : wf A2 U2 b2 e2) (z : Int) (hz : ir z) : lwP l dC dI cI yX2_begin wsX2_begin ({ frames := 4, cells := 0, slots := 0, locals := 87 } : Room) ry_M_begin rw_M_begin ({ frames := 2, cells := 0, slots := 0, locals := 46 } : Room) [.int (iv (z))] isI q r A1 U1 b1 e1 A2 U2 b2 e2 := by
  obtain ⟨bA1, bU1, nU1, hb1, le1, ge1⟩ := id W1
  obtain ⟨bA2, bU2, nU2, hb2, le2, ge2⟩ := id W2
  have hA1 := wl150 bA1
  have hU1 := wl150 bU1
  have hA2 := wl150 bA2
  have hU2 := wl150 bU2
  have mA1 := dn300 bA1
  have mU1 := dn300 bU1
  have mA2 := dn300 bA2
  have mU2 := dn300 bU2
  rcases num3 z with rfl | rfl | ⟨h0, h1⟩
  · exact ⟨.int (iv 0), 0, 1, 0, 0, A2, U2, b2, e2, ⟨_, rfl⟩, wf_new, W2, lwC.of (q2 := q) rfl (fun L R hL hR => c_begin0 l dC dI rfl q hA1 hU1 hA2 hU2 hL hR ), fun V J pb pe ob oe hJ k7 k8 k9 k10 => r_begin0 l dC dI rfl r hJ k7 k8 k9 k10 mA1 mU1 mA2 mU2 ⟩
  · exact ⟨.int (iv 0), A1, U1, b1, e1, 0, 1, 0, 0, ⟨_, rfl⟩, W1, wf_new, lwC.of (q2 := q) rfl (fun L R hL hR => c_begin1 l dC dI rfl q hA1 hU1 hA2 hU2 hL hR ), fun V J pb pe ob oe hJ k7 k8 k9 k10 => r_begin1 l dC dI rfl r hJ k7 k8 k9 k10 mA1 mU1 mA2 mU2 ⟩
  · exact ⟨.int (iv (-1)), A1, U1, b1, e1, A2, U2, b2, e2, ⟨_, rfl⟩, W1, W2, lwC.of (q2 := q) rfl (fun L R hL hR => c_beginx l dC dI rfl q hA1 hU1 hA2 hU2 hL hR z hz h0 h1), fun V J pb pe ob oe hJ k7 k8 k9 k10 => r_beginx l dC dI rfl r hJ k7 k8 k9 k10 mA1 mU1 mA2 mU2 z hz h0 h1⟩

set_option maxRecDepth 100000 in
set_option maxHeartbeats 4000000 in
/-- digit, class and reference -/
theorem lp_digit (l : Launch) (dC : Nat → ClassId) (dI : Nat → Nat → Nat) (cI : ClassId) (q r : Nat → Nat) {A1 U1 A2 U2 : Nat} {b1 e1 b2 e2 : Int} (W1 : wf A1 U1 b1 e1) (W2 : wf A2 U2 b2 e2) (z y mu mo : Int) (hz : ir z) (hy : ir y) (hm : ir mu) (ho : ir mo) : lwP l dC dI cI yX2_digit wsX2_digit ({ frames := 4, cells := 0, slots := 0, locals := 88 } : Room) ry_M_digit rw_M_digit ({ frames := 1, cells := 0, slots := 0, locals := 27 } : Room) [.int (iv (z)), .int (iv (y)), .int (iv (mu)), .int (iv (mo))] isI q r A1 U1 b1 e1 A2 U2 b2 e2 := by
  obtain ⟨bA1, bU1, nU1, hb1, le1, ge1⟩ := id W1
  obtain ⟨bA2, bU2, nU2, hb2, le2, ge2⟩ := id W2
  have hA1 := wl150 bA1
  have hU1 := wl150 bU1
  have hA2 := wl150 bA2
  have hU2 := wl150 bU2
  have mA1 := dn300 bA1
  have mU1 := dn300 bU1
  have mA2 := dn300 bA2
  have mU2 := dn300 bU2
  rcases num3 z with rfl | rfl | ⟨h0, h1⟩
  · rcases num3 y with rfl | rfl | ⟨h2, h3⟩
    · by_cases hbad : mu < 1 ∨ 1000000 < mu ∨ mo < 0 ∨ 1000000 < mo
      · exact ⟨.int (iv (-1)), A1, U1, b1, e1, A2, U2, b2, e2, ⟨_, rfl⟩, W1, W2, lwC.of (q2 := q) rfl (fun L R hL hR => c_digit00B l dC dI rfl q hA1 hU1 hA2 hU2 hL hR mu mo hm ho hbad), fun V J pb pe ob oe hJ k7 k8 k9 k10 => r_digit00B l dC dI rfl r hJ k7 k8 k9 k10 mA1 mU1 mA2 mU2 mu mo hm ho hbad⟩
      · obtain ⟨m2, rfl⟩ : ∃ m2 : Nat, mu = (m2 : Int) := ⟨mu.toNat, by omega⟩
        obtain ⟨o2, rfl⟩ : ∃ o2 : Nat, mo = (o2 : Int) := ⟨mo.toNat, by omega⟩
        have g1 : 1 ≤ m2 := by omega
        have g2 : m2 ≤ 1000000 := by omega
        have g3 : o2 ≤ 1000000 := by omega
        by_cases hb4 : bl (A1 * m2 + o2) ≤ 4800
        · exact ⟨.int (iv (bl (A1 * m2 + o2) : Int)), A1 * m2 + o2, U1, b1, e1, A2, U2, b2, e2, ⟨_, rfl⟩, ⟨hb4, bU1, nU1, hb1, le1, ge1⟩, W2, lwC.of (q2 := q) rfl (fun L R hL hR => c_digit00K l dC dI rfl q hA1 hU1 hA2 hU2 hL hR m2 o2 g1 g2 g3 hb4), fun V J pb pe ob oe hJ k7 k8 k9 k10 => r_digit00K l dC dI rfl r hJ k7 k8 k9 k10 mA1 mU1 mA2 mU2 m2 o2 g1 g2 g3 hb4⟩
        · exact ⟨.int (iv (-2)), A1, U1, b1, e1, A2, U2, b2, e2, ⟨_, rfl⟩, W1, W2, lwC.of (q2 := q) rfl (fun L R hL hR => c_digit00F l dC dI rfl q hA1 hU1 hA2 hU2 hL hR m2 o2 g1 g2 g3 (Nat.lt_of_not_le hb4)), fun V J pb pe ob oe hJ k7 k8 k9 k10 => r_digit00F l dC dI rfl r hJ k7 k8 k9 k10 mA1 mU1 mA2 mU2 m2 o2 g1 g2 g3 (Nat.lt_of_not_le hb4)⟩
    · by_cases hbad : mu < 1 ∨ 1000000 < mu ∨ mo < 0 ∨ 1000000 < mo
      · exact ⟨.int (iv (-1)), A1, U1, b1, e1, A2, U2, b2, e2, ⟨_, rfl⟩, W1, W2, lwC.of (q2 := q) rfl (fun L R hL hR => c_digit01B l dC dI rfl q hA1 hU1 hA2 hU2 hL hR mu mo hm ho hbad), fun V J pb pe ob oe hJ k7 k8 k9 k10 => r_digit01B l dC dI rfl r hJ k7 k8 k9 k10 mA1 mU1 mA2 mU2 mu mo hm ho hbad⟩
      · obtain ⟨m2, rfl⟩ : ∃ m2 : Nat, mu = (m2 : Int) := ⟨mu.toNat, by omega⟩
        obtain ⟨o2, rfl⟩ : ∃ o2 : Nat, mo = (o2 : Int) := ⟨mo.toNat, by omega⟩
        have g1 : 1 ≤ m2 := by omega
        have g2 : m2 ≤ 1000000 := by omega
        have g3 : o2 ≤ 1000000 := by omega
        by_cases hb4 : bl (U1 * m2 + o2) ≤ 4800
        · exact ⟨.int (iv (bl (U1 * m2 + o2) : Int)), A1, U1 * m2 + o2, b1, e1, A2, U2, b2, e2, ⟨_, rfl⟩, ⟨bA1, hb4, Nat.ne_of_gt (Nat.lt_of_lt_of_le (Nat.mul_pos (Nat.pos_of_ne_zero nU1) g1) (Nat.le_add_right _ _)), hb1, le1, ge1⟩, W2, lwC.of (q2 := q) rfl (fun L R hL hR => c_digit01K l dC dI rfl q hA1 hU1 hA2 hU2 hL hR m2 o2 g1 g2 g3 hb4), fun V J pb pe ob oe hJ k7 k8 k9 k10 => r_digit01K l dC dI rfl r hJ k7 k8 k9 k10 mA1 mU1 mA2 mU2 m2 o2 g1 g2 g3 hb4⟩
        · exact ⟨.int (iv (-2)), A1, U1, b1, e1, A2, U2, b2, e2, ⟨_, rfl⟩, W1, W2, lwC.of (q2 := q) rfl (fun L R hL hR => c_digit01F l dC dI rfl q hA1 hU1 hA2 hU2 hL hR m2 o2 g1 g2 g3 (Nat.lt_of_not_le hb4)), fun V J pb pe ob oe hJ k7 k8 k9 k10 => r_digit01F l dC dI rfl r hJ k7 k8 k9 k10 mA1 mU1 mA2 mU2 m2 o2 g1 g2 g3 (Nat.lt_of_not_le hb4)⟩
    · exact ⟨.int (iv (-1)), A1, U1, b1, e1, A2, U2, b2, e2, ⟨_, rfl⟩, W1, W2, lwC.of (q2 := q) rfl (fun L R hL hR => c_digit0x l dC dI rfl q hA1 hU1 hA2 hU2 hL hR mu mo y hy h2 h3), fun V J pb pe ob oe hJ k7 k8 k9 k10 => r_digit0x l dC dI rfl r hJ k7 k8 k9 k10 mA1 mU1 mA2 mU2 mu mo y hy h2 h3⟩
  · rcases num3 y with rfl | rfl | ⟨h2, h3⟩
    · by_cases hbad : mu < 1 ∨ 1000000 < mu ∨ mo < 0 ∨ 1000000 < mo
      · exact ⟨.int (iv (-1)), A1, U1, b1, e1, A2, U2, b2, e2, ⟨_, rfl⟩, W1, W2, lwC.of (q2 := q) rfl (fun L R hL hR => c_digit10B l dC dI rfl q hA1 hU1 hA2 hU2 hL hR mu mo hm ho hbad), fun V J pb pe ob oe hJ k7 k8 k9 k10 => r_digit10B l dC dI rfl r hJ k7 k8 k9 k10 mA1 mU1 mA2 mU2 mu mo hm ho hbad⟩
      · obtain ⟨m2, rfl⟩ : ∃ m2 : Nat, mu = (m2 : Int) := ⟨mu.toNat, by omega⟩
        obtain ⟨o2, rfl⟩ : ∃ o2 : Nat, mo = (o2 : Int) := ⟨mo.toNat, by omega⟩
        have g1 : 1 ≤ m2 := by omega
        have g2 : m2 ≤ 1000000 := by omega
        have g3 : o2 ≤ 1000000 := by omega
        by_cases hb4 : bl (A2 * m2 + o2) ≤ 4800
        · exact ⟨.int (iv (bl (A2 * m2 + o2) : Int)), A1, U1, b1, e1, A2 * m2 + o2, U2, b2, e2, ⟨_, rfl⟩, W1, ⟨hb4, bU2, nU2, hb2, le2, ge2⟩, lwC.of (q2 := q) rfl (fun L R hL hR => c_digit10K l dC dI rfl q hA1 hU1 hA2 hU2 hL hR m2 o2 g1 g2 g3 hb4), fun V J pb pe ob oe hJ k7 k8 k9 k10 => r_digit10K l dC dI rfl r hJ k7 k8 k9 k10 mA1 mU1 mA2 mU2 m2 o2 g1 g2 g3 hb4⟩
        · exact ⟨.int (iv (-2)), A1, U1, b1, e1, A2, U2, b2, e2, ⟨_, rfl⟩, W1, W2, lwC.of (q2 := q) rfl (fun L R hL hR => c_digit10F l dC dI rfl q hA1 hU1 hA2 hU2 hL hR m2 o2 g1 g2 g3 (Nat.lt_of_not_le hb4)), fun V J pb pe ob oe hJ k7 k8 k9 k10 => r_digit10F l dC dI rfl r hJ k7 k8 k9 k10 mA1 mU1 mA2 mU2 m2 o2 g1 g2 g3 (Nat.lt_of_not_le hb4)⟩
    · by_cases hbad : mu < 1 ∨ 1000000 < mu ∨ mo < 0 ∨ 1000000 < mo
      · exact ⟨.int (iv (-1)), A1, U1, b1, e1, A2, U2, b2, e2, ⟨_, rfl⟩, W1, W2, lwC.of (q2 := q) rfl (fun L R hL hR => c_digit11B l dC dI rfl q hA1 hU1 hA2 hU2 hL hR mu mo hm ho hbad), fun V J pb pe ob oe hJ k7 k8 k9 k10 => r_digit11B l dC dI rfl r hJ k7 k8 k9 k10 mA1 mU1 mA2 mU2 mu mo hm ho hbad⟩
      · obtain ⟨m2, rfl⟩ : ∃ m2 : Nat, mu = (m2 : Int) := ⟨mu.toNat, by omega⟩
        obtain ⟨o2, rfl⟩ : ∃ o2 : Nat, mo = (o2 : Int) := ⟨mo.toNat, by omega⟩
        have g1 : 1 ≤ m2 := by omega
        have g2 : m2 ≤ 1000000 := by omega
        have g3 : o2 ≤ 1000000 := by omega
        by_cases hb4 : bl (U2 * m2 + o2) ≤ 4800
        · exact ⟨.int (iv (bl (U2 * m2 + o2) : Int)), A1, U1, b1, e1, A2, U2 * m2 + o2, b2, e2, ⟨_, rfl⟩, W1, ⟨bA2, hb4, Nat.ne_of_gt (Nat.lt_of_lt_of_le (Nat.mul_pos (Nat.pos_of_ne_zero nU2) g1) (Nat.le_add_right _ _)), hb2, le2, ge2⟩, lwC.of (q2 := q) rfl (fun L R hL hR => c_digit11K l dC dI rfl q hA1 hU1 hA2 hU2 hL hR m2 o2 g1 g2 g3 hb4), fun V J pb pe ob oe hJ k7 k8 k9 k10 => r_digit11K l dC dI rfl r hJ k7 k8 k9 k10 mA1 mU1 mA2 mU2 m2 o2 g1 g2 g3 hb4⟩
        · exact ⟨.int (iv (-2)), A1, U1, b1, e1, A2, U2, b2, e2, ⟨_, rfl⟩, W1, W2, lwC.of (q2 := q) rfl (fun L R hL hR => c_digit11F l dC dI rfl q hA1 hU1 hA2 hU2 hL hR m2 o2 g1 g2 g3 (Nat.lt_of_not_le hb4)), fun V J pb pe ob oe hJ k7 k8 k9 k10 => r_digit11F l dC dI rfl r hJ k7 k8 k9 k10 mA1 mU1 mA2 mU2 m2 o2 g1 g2 g3 (Nat.lt_of_not_le hb4)⟩
    · exact ⟨.int (iv (-1)), A1, U1, b1, e1, A2, U2, b2, e2, ⟨_, rfl⟩, W1, W2, lwC.of (q2 := q) rfl (fun L R hL hR => c_digit1x l dC dI rfl q hA1 hU1 hA2 hU2 hL hR mu mo y hy h2 h3), fun V J pb pe ob oe hJ k7 k8 k9 k10 => r_digit1x l dC dI rfl r hJ k7 k8 k9 k10 mA1 mU1 mA2 mU2 mu mo y hy h2 h3⟩
  · exact ⟨.int (iv (-1)), A1, U1, b1, e1, A2, U2, b2, e2, ⟨_, rfl⟩, W1, W2, lwC.of (q2 := q) rfl (fun L R hL hR => c_digitxx l dC dI rfl q hA1 hU1 hA2 hU2 hL hR mu mo z y hz h0 h1), fun V J pb pe ob oe hJ k7 k8 k9 k10 => r_digitxx l dC dI rfl r hJ k7 k8 k9 k10 mA1 mU1 mA2 mU2 mu mo z y hz h0 h1⟩

set_option maxRecDepth 100000 in
set_option maxHeartbeats 4000000 in
/-- set, class and reference -/
theorem lp_set (l : Launch) (dC : Nat → ClassId) (dI : Nat → Nat → Nat) (cI : ClassId) (q r : Nat → Nat) {A1 U1 A2 U2 : Nat} {b1 e1 b2 e2 : Int} (W1 : wf A1 U1 b1 e1) (W2 : wf A2 U2 b2 e2) (z y : Int) (v : Nat) (hz : ir z) (hy : ir y) (hv : v < 18446744073709551616) : lwP l dC dI cI yX2_set wsX2_set ({ frames := 3, cells := 0, slots := 0, locals := 67 } : Room) ry_M_set rw_M_set ({ frames := 1, cells := 0, slots := 0, locals := 24 } : Room) [.int (iv (z)), .int (iv (y)), .long (jv (v : Int))] isI q r A1 U1 b1 e1 A2 U2 b2 e2 := by
  obtain ⟨bA1, bU1, nU1, hb1, le1, ge1⟩ := id W1
  obtain ⟨bA2, bU2, nU2, hb2, le2, ge2⟩ := id W2
  have hA1 := wl150 bA1
  have hU1 := wl150 bU1
  have hA2 := wl150 bA2
  have hU2 := wl150 bU2
  have mA1 := dn300 bA1
  have mU1 := dn300 bU1
  have mA2 := dn300 bA2
  have mU2 := dn300 bU2
  rcases num3 z with rfl | rfl | ⟨h0, h1⟩
  · rcases num3 y with rfl | rfl | ⟨h2, h3⟩
    · exact ⟨.int (iv (bl v : Int)), v, U1, b1, e1, A2, U2, b2, e2, ⟨_, rfl⟩, ⟨bl_v hv, bU1, nU1, hb1, le1, ge1⟩, W2, lwC.of (q2 := q) rfl (fun L R hL hR => c_set00 l dC dI rfl q hA1 hU1 hA2 hU2 hL hR v hv), fun V J pb pe ob oe hJ k7 k8 k9 k10 => r_mset00 l dC dI rfl r hJ k7 k8 k9 k10 mA1 mU1 mA2 mU2 v hv⟩
    · by_cases hv0 : v = 0
      · subst hv0
        exact ⟨.int (iv (-3)), A1, U1, b1, e1, A2, U2, b2, e2, ⟨_, rfl⟩, W1, W2, lwC.of (q2 := q) rfl (fun L R hL hR => c_set0Z l dC dI rfl q hA1 hU1 hA2 hU2 hL hR ), fun V J pb pe ob oe hJ k7 k8 k9 k10 => r_mset0Z l dC dI rfl r hJ k7 k8 k9 k10 mA1 mU1 mA2 mU2 ⟩
      · exact ⟨.int (iv (bl v : Int)), A1, v, b1, e1, A2, U2, b2, e2, ⟨_, rfl⟩, ⟨bA1, bl_v hv, hv0, hb1, le1, ge1⟩, W2, lwC.of (q2 := q) rfl (fun L R hL hR => c_set01 l dC dI rfl q hA1 hU1 hA2 hU2 hL hR v hv hv0), fun V J pb pe ob oe hJ k7 k8 k9 k10 => r_mset01 l dC dI rfl r hJ k7 k8 k9 k10 mA1 mU1 mA2 mU2 v hv hv0⟩
    · exact ⟨.int (iv (-1)), A1, U1, b1, e1, A2, U2, b2, e2, ⟨_, rfl⟩, W1, W2, lwC.of (q2 := q) rfl (fun L R hL hR => c_set0x l dC dI rfl q hA1 hU1 hA2 hU2 hL hR y hy h2 h3 _), fun V J pb pe ob oe hJ k7 k8 k9 k10 => r_mset0x l dC dI rfl r hJ k7 k8 k9 k10 mA1 mU1 mA2 mU2 y hy h2 h3 _⟩
  · rcases num3 y with rfl | rfl | ⟨h2, h3⟩
    · exact ⟨.int (iv (bl v : Int)), A1, U1, b1, e1, v, U2, b2, e2, ⟨_, rfl⟩, W1, ⟨bl_v hv, bU2, nU2, hb2, le2, ge2⟩, lwC.of (q2 := q) rfl (fun L R hL hR => c_set10 l dC dI rfl q hA1 hU1 hA2 hU2 hL hR v hv), fun V J pb pe ob oe hJ k7 k8 k9 k10 => r_mset10 l dC dI rfl r hJ k7 k8 k9 k10 mA1 mU1 mA2 mU2 v hv⟩
    · by_cases hv0 : v = 0
      · subst hv0
        exact ⟨.int (iv (-3)), A1, U1, b1, e1, A2, U2, b2, e2, ⟨_, rfl⟩, W1, W2, lwC.of (q2 := q) rfl (fun L R hL hR => c_set1Z l dC dI rfl q hA1 hU1 hA2 hU2 hL hR ), fun V J pb pe ob oe hJ k7 k8 k9 k10 => r_mset1Z l dC dI rfl r hJ k7 k8 k9 k10 mA1 mU1 mA2 mU2 ⟩
      · exact ⟨.int (iv (bl v : Int)), A1, U1, b1, e1, A2, v, b2, e2, ⟨_, rfl⟩, W1, ⟨bA2, bl_v hv, hv0, hb2, le2, ge2⟩, lwC.of (q2 := q) rfl (fun L R hL hR => c_set11 l dC dI rfl q hA1 hU1 hA2 hU2 hL hR v hv hv0), fun V J pb pe ob oe hJ k7 k8 k9 k10 => r_mset11 l dC dI rfl r hJ k7 k8 k9 k10 mA1 mU1 mA2 mU2 v hv hv0⟩
    · exact ⟨.int (iv (-1)), A1, U1, b1, e1, A2, U2, b2, e2, ⟨_, rfl⟩, W1, W2, lwC.of (q2 := q) rfl (fun L R hL hR => c_set1x l dC dI rfl q hA1 hU1 hA2 hU2 hL hR y hy h2 h3 _), fun V J pb pe ob oe hJ k7 k8 k9 k10 => r_mset1x l dC dI rfl r hJ k7 k8 k9 k10 mA1 mU1 mA2 mU2 y hy h2 h3 _⟩
  · exact ⟨.int (iv (-1)), A1, U1, b1, e1, A2, U2, b2, e2, ⟨_, rfl⟩, W1, W2, lwC.of (q2 := q) rfl (fun L R hL hR => c_setxx l dC dI rfl q hA1 hU1 hA2 hU2 hL hR z y hz h0 h1 _), fun V J pb pe ob oe hJ k7 k8 k9 k10 => r_msetxx l dC dI rfl r hJ k7 k8 k9 k10 mA1 mU1 mA2 mU2 z y hz h0 h1 _⟩

set_option maxRecDepth 100000 in
set_option maxHeartbeats 4000000 in
/-- bits, class and reference -/
theorem lp_bits (l : Launch) (dC : Nat → ClassId) (dI : Nat → Nat → Nat) (cI : ClassId) (q r : Nat → Nat) {A1 U1 A2 U2 : Nat} {b1 e1 b2 e2 : Int} (W1 : wf A1 U1 b1 e1) (W2 : wf A2 U2 b2 e2) (z y : Int) (hz : ir z) (hy : ir y) : lwP l dC dI cI yX2_bits wsX2_bits ({ frames := 2, cells := 0, slots := 0, locals := 44 } : Room) ry_M_bits rw_M_bits ({ frames := 1, cells := 0, slots := 0, locals := 23 } : Room) [.int (iv (z)), .int (iv (y))] isI q r A1 U1 b1 e1 A2 U2 b2 e2 := by
  obtain ⟨bA1, bU1, nU1, hb1, le1, ge1⟩ := id W1
  obtain ⟨bA2, bU2, nU2, hb2, le2, ge2⟩ := id W2
  have hA1 := wl150 bA1
  have hU1 := wl150 bU1
  have hA2 := wl150 bA2
  have hU2 := wl150 bU2
  have mA1 := dn300 bA1
  have mU1 := dn300 bU1
  have mA2 := dn300 bA2
  have mU2 := dn300 bU2
  rcases num3 z with rfl | rfl | ⟨h0, h1⟩
  · rcases num3 y with rfl | rfl | ⟨h2, h3⟩
    · exact ⟨.int (iv (bl A1 : Int)), A1, U1, b1, e1, A2, U2, b2, e2, ⟨_, rfl⟩, W1, W2, lwC.of (q2 := q) rfl (fun L R hL hR => c_bits00 l dC dI rfl q hA1 hU1 hA2 hU2 hL hR ), fun V J pb pe ob oe hJ k7 k8 k9 k10 => r_bits00 l dC dI rfl r hJ k7 k8 k9 k10 mA1 mU1 mA2 mU2 ⟩
    · exact ⟨.int (iv (bl U1 : Int)), A1, U1, b1, e1, A2, U2, b2, e2, ⟨_, rfl⟩, W1, W2, lwC.of (q2 := q) rfl (fun L R hL hR => c_bits01 l dC dI rfl q hA1 hU1 hA2 hU2 hL hR ), fun V J pb pe ob oe hJ k7 k8 k9 k10 => r_bits01 l dC dI rfl r hJ k7 k8 k9 k10 mA1 mU1 mA2 mU2 ⟩
    · exact ⟨.int (iv (-1)), A1, U1, b1, e1, A2, U2, b2, e2, ⟨_, rfl⟩, W1, W2, lwC.of (q2 := q) rfl (fun L R hL hR => c_bits0x l dC dI rfl q hA1 hU1 hA2 hU2 hL hR y hy h2 h3), fun V J pb pe ob oe hJ k7 k8 k9 k10 => r_bits0x l dC dI rfl r hJ k7 k8 k9 k10 mA1 mU1 mA2 mU2 y hy h2 h3⟩
  · rcases num3 y with rfl | rfl | ⟨h2, h3⟩
    · exact ⟨.int (iv (bl A2 : Int)), A1, U1, b1, e1, A2, U2, b2, e2, ⟨_, rfl⟩, W1, W2, lwC.of (q2 := q) rfl (fun L R hL hR => c_bits10 l dC dI rfl q hA1 hU1 hA2 hU2 hL hR ), fun V J pb pe ob oe hJ k7 k8 k9 k10 => r_bits10 l dC dI rfl r hJ k7 k8 k9 k10 mA1 mU1 mA2 mU2 ⟩
    · exact ⟨.int (iv (bl U2 : Int)), A1, U1, b1, e1, A2, U2, b2, e2, ⟨_, rfl⟩, W1, W2, lwC.of (q2 := q) rfl (fun L R hL hR => c_bits11 l dC dI rfl q hA1 hU1 hA2 hU2 hL hR ), fun V J pb pe ob oe hJ k7 k8 k9 k10 => r_bits11 l dC dI rfl r hJ k7 k8 k9 k10 mA1 mU1 mA2 mU2 ⟩
    · exact ⟨.int (iv (-1)), A1, U1, b1, e1, A2, U2, b2, e2, ⟨_, rfl⟩, W1, W2, lwC.of (q2 := q) rfl (fun L R hL hR => c_bits1x l dC dI rfl q hA1 hU1 hA2 hU2 hL hR y hy h2 h3), fun V J pb pe ob oe hJ k7 k8 k9 k10 => r_bits1x l dC dI rfl r hJ k7 k8 k9 k10 mA1 mU1 mA2 mU2 y hy h2 h3⟩
  · exact ⟨.int (iv (-1)), A1, U1, b1, e1, A2, U2, b2, e2, ⟨_, rfl⟩, W1, W2, lwC.of (q2 := q) rfl (fun L R hL hR => c_bitsxx l dC dI rfl q hA1 hU1 hA2 hU2 hL hR z y hz h0 h1), fun V J pb pe ob oe hJ k7 k8 k9 k10 => r_bitsxx l dC dI rfl r hJ k7 k8 k9 k10 mA1 mU1 mA2 mU2 z y hz h0 h1⟩

set_option maxRecDepth 100000 in
set_option maxHeartbeats 4000000 in
/-- word, class and reference -/
theorem lp_word (l : Launch) (dC : Nat → ClassId) (dI : Nat → Nat → Nat) (cI : ClassId) (q r : Nat → Nat) {A1 U1 A2 U2 : Nat} {b1 e1 b2 e2 : Int} (W1 : wf A1 U1 b1 e1) (W2 : wf A2 U2 b2 e2) (z y i : Int) (hz : ir z) (hy : ir y) (hi : ir i) : lwP l dC dI cI yX2_word wsX2_word ({ frames := 2, cells := 0, slots := 0, locals := 44 } : Room) ry_M_word rw_M_word ({ frames := 1, cells := 0, slots := 0, locals := 23 } : Room) [.int (iv (z)), .int (iv (y)), .int (iv (i))] isI q r A1 U1 b1 e1 A2 U2 b2 e2 := by
  obtain ⟨bA1, bU1, nU1, hb1, le1, ge1⟩ := id W1
  obtain ⟨bA2, bU2, nU2, hb2, le2, ge2⟩ := id W2
  have hA1 := wl150 bA1
  have hU1 := wl150 bU1
  have hA2 := wl150 bA2
  have hU2 := wl150 bU2
  have mA1 := dn300 bA1
  have mU1 := dn300 bU1
  have mA2 := dn300 bA2
  have mU2 := dn300 bU2
  rcases num3 z with rfl | rfl | ⟨h0, h1⟩
  · rcases num3 y with rfl | rfl | ⟨h2, h3⟩
    · exact ⟨.int (iv (wz (wd A1) i : Int)), A1, U1, b1, e1, A2, U2, b2, e2, ⟨_, rfl⟩, W1, W2, lwC.of (q2 := q) rfl (fun L R hL hR => c_word00 l dC dI rfl q hA1 hU1 hA2 hU2 hL hR i hi), fun V J pb pe ob oe hJ k7 k8 k9 k10 => r_word00 l dC dI rfl r hJ k7 k8 k9 k10 mA1 mU1 mA2 mU2 i hi⟩
    · exact ⟨.int (iv (wz (wd U1) i : Int)), A1, U1, b1, e1, A2, U2, b2, e2, ⟨_, rfl⟩, W1, W2, lwC.of (q2 := q) rfl (fun L R hL hR => c_word01 l dC dI rfl q hA1 hU1 hA2 hU2 hL hR i hi), fun V J pb pe ob oe hJ k7 k8 k9 k10 => r_word01 l dC dI rfl r hJ k7 k8 k9 k10 mA1 mU1 mA2 mU2 i hi⟩
    · exact ⟨.int (iv 0), A1, U1, b1, e1, A2, U2, b2, e2, ⟨_, rfl⟩, W1, W2, lwC.of (q2 := q) rfl (fun L R hL hR => c_word0x l dC dI rfl q hA1 hU1 hA2 hU2 hL hR y hy h2 h3 i), fun V J pb pe ob oe hJ k7 k8 k9 k10 => r_word0x l dC dI rfl r hJ k7 k8 k9 k10 mA1 mU1 mA2 mU2 y hy h2 h3 i⟩
  · rcases num3 y with rfl | rfl | ⟨h2, h3⟩
    · exact ⟨.int (iv (wz (wd A2) i : Int)), A1, U1, b1, e1, A2, U2, b2, e2, ⟨_, rfl⟩, W1, W2, lwC.of (q2 := q) rfl (fun L R hL hR => c_word10 l dC dI rfl q hA1 hU1 hA2 hU2 hL hR i hi), fun V J pb pe ob oe hJ k7 k8 k9 k10 => r_word10 l dC dI rfl r hJ k7 k8 k9 k10 mA1 mU1 mA2 mU2 i hi⟩
    · exact ⟨.int (iv (wz (wd U2) i : Int)), A1, U1, b1, e1, A2, U2, b2, e2, ⟨_, rfl⟩, W1, W2, lwC.of (q2 := q) rfl (fun L R hL hR => c_word11 l dC dI rfl q hA1 hU1 hA2 hU2 hL hR i hi), fun V J pb pe ob oe hJ k7 k8 k9 k10 => r_word11 l dC dI rfl r hJ k7 k8 k9 k10 mA1 mU1 mA2 mU2 i hi⟩
    · exact ⟨.int (iv 0), A1, U1, b1, e1, A2, U2, b2, e2, ⟨_, rfl⟩, W1, W2, lwC.of (q2 := q) rfl (fun L R hL hR => c_word1x l dC dI rfl q hA1 hU1 hA2 hU2 hL hR y hy h2 h3 i), fun V J pb pe ob oe hJ k7 k8 k9 k10 => r_word1x l dC dI rfl r hJ k7 k8 k9 k10 mA1 mU1 mA2 mU2 y hy h2 h3 i⟩
  · exact ⟨.int (iv 0), A1, U1, b1, e1, A2, U2, b2, e2, ⟨_, rfl⟩, W1, W2, lwC.of (q2 := q) rfl (fun L R hL hR => c_wordxx l dC dI rfl q hA1 hU1 hA2 hU2 hL hR z y hz h0 h1 i), fun V J pb pe ob oe hJ k7 k8 k9 k10 => r_wordxx l dC dI rfl r hJ k7 k8 k9 k10 mA1 mU1 mA2 mU2 z y hz h0 h1 i⟩

set_option maxRecDepth 100000 in
set_option maxHeartbeats 4000000 in
/-- scale, class and reference -/
theorem lp_scale (l : Launch) (dC : Nat → ClassId) (dI : Nat → Nat → Nat) (cI : ClassId) (q r : Nat → Nat) {A1 U1 A2 U2 : Nat} {b1 e1 b2 e2 : Int} (W1 : wf A1 U1 b1 e1) (W2 : wf A2 U2 b2 e2) (z bb ee : Int) (hz : ir z) (hbb : bb = 0 ∨ bb = 1) (he : ir ee) : lwP l dC dI cI yX2_scale wsX2_scale ({ frames := 1, cells := 0, slots := 0, locals := 21 } : Room) ry_M_scale rw_M_scale ({ frames := 1, cells := 0, slots := 0, locals := 21 } : Room) [.int (iv (z)), .int (iv (bb)), .int (iv (ee))] isI q r A1 U1 b1 e1 A2 U2 b2 e2 := by
  obtain ⟨bA1, bU1, nU1, hb1, le1, ge1⟩ := id W1
  obtain ⟨bA2, bU2, nU2, hb2, le2, ge2⟩ := id W2
  have hA1 := wl150 bA1
  have hU1 := wl150 bU1
  have hA2 := wl150 bA2
  have hU2 := wl150 bU2
  have mA1 := dn300 bA1
  have mU1 := dn300 bU1
  have mA2 := dn300 bA2
  have mU2 := dn300 bU2
  rcases num3 z with rfl | rfl | ⟨h0, h1⟩
  · by_cases hbad : ee < -12000 ∨ 12000 < ee
    · exact ⟨.int (iv (-1)), A1, U1, b1, e1, A2, U2, b2, e2, ⟨_, rfl⟩, W1, W2, lwC.of (q2 := q) rfl (fun L R hL hR => c_scale0B l dC dI rfl q hA1 hU1 hA2 hU2 hL hR bb ee he hbad), fun V J pb pe ob oe hJ k7 k8 k9 k10 => r_scale0B l dC dI rfl r hJ k7 k8 k9 k10 mA1 mU1 mA2 mU2 bb ee he hbad⟩
    · have g1 : -12000 ≤ ee := by omega
      have g2 : ee ≤ 12000 := by omega
      exact ⟨.int (iv 0), A1, U1, bb, ee, A2, U2, b2, e2, ⟨_, rfl⟩, ⟨bA1, bU1, nU1, hbb, g1, g2⟩, W2, lwC.of (q2 := q) rfl (fun L R hL hR => c_scale0 l dC dI rfl q hA1 hU1 hA2 hU2 hL hR bb ee hbb g1 g2), fun V J pb pe ob oe hJ k7 k8 k9 k10 => r_scale0 l dC dI rfl r hJ k7 k8 k9 k10 mA1 mU1 mA2 mU2 bb ee hbb g1 g2⟩
  · by_cases hbad : ee < -12000 ∨ 12000 < ee
    · exact ⟨.int (iv (-1)), A1, U1, b1, e1, A2, U2, b2, e2, ⟨_, rfl⟩, W1, W2, lwC.of (q2 := q) rfl (fun L R hL hR => c_scale1B l dC dI rfl q hA1 hU1 hA2 hU2 hL hR bb ee he hbad), fun V J pb pe ob oe hJ k7 k8 k9 k10 => r_scale1B l dC dI rfl r hJ k7 k8 k9 k10 mA1 mU1 mA2 mU2 bb ee he hbad⟩
    · have g1 : -12000 ≤ ee := by omega
      have g2 : ee ≤ 12000 := by omega
      exact ⟨.int (iv 0), A1, U1, b1, e1, A2, U2, bb, ee, ⟨_, rfl⟩, W1, ⟨bA2, bU2, nU2, hbb, g1, g2⟩, lwC.of (q2 := q) rfl (fun L R hL hR => c_scale1 l dC dI rfl q hA1 hU1 hA2 hU2 hL hR bb ee hbb g1 g2), fun V J pb pe ob oe hJ k7 k8 k9 k10 => r_scale1 l dC dI rfl r hJ k7 k8 k9 k10 mA1 mU1 mA2 mU2 bb ee hbb g1 g2⟩
  · exact ⟨.int (iv (-1)), A1, U1, b1, e1, A2, U2, b2, e2, ⟨_, rfl⟩, W1, W2, lwC.of (q2 := q) rfl (fun L R hL hR => c_scalex l dC dI rfl q hA1 hU1 hA2 hU2 hL hR z hz h0 h1 bb ee), fun V J pb pe ob oe hJ k7 k8 k9 k10 => r_scalex l dC dI rfl r hJ k7 k8 k9 k10 mA1 mU1 mA2 mU2 z hz h0 h1 bb ee⟩

set_option maxRecDepth 100000 in
set_option maxHeartbeats 4000000 in
/-- turn, class and reference -/
theorem lp_turn (l : Launch) (dC : Nat → ClassId) (dI : Nat → Nat → Nat) (cI : ClassId) (q r : Nat → Nat) {A1 U1 A2 U2 : Nat} {b1 e1 b2 e2 : Int} (W1 : wf A1 U1 b1 e1) (W2 : wf A2 U2 b2 e2) (z : Int) (hz : ir z) : lwP l dC dI cI yX2_turn wsX2_turn ({ frames := 1, cells := 0, slots := 0, locals := 21 } : Room) ry_M_turn rw_M_turn ({ frames := 1, cells := 0, slots := 0, locals := 22 } : Room) [.int (iv (z))] isI q r A1 U1 b1 e1 A2 U2 b2 e2 := by
  obtain ⟨bA1, bU1, nU1, hb1, le1, ge1⟩ := id W1
  obtain ⟨bA2, bU2, nU2, hb2, le2, ge2⟩ := id W2
  have hA1 := wl150 bA1
  have hU1 := wl150 bU1
  have hA2 := wl150 bA2
  have hU2 := wl150 bU2
  have mA1 := dn300 bA1
  have mU1 := dn300 bU1
  have mA2 := dn300 bA2
  have mU2 := dn300 bU2
  rcases num3 z with rfl | rfl | ⟨h0, h1⟩
  · by_cases hA0 : A1 = 0
    · exact ⟨.int (iv (-3)), A1, U1, b1, e1, A2, U2, b2, e2, ⟨_, rfl⟩, W1, W2, lwC.of (q2 := q) rfl (fun L R hL hR => c_turn0Z l dC dI rfl q hA1 hU1 hA2 hU2 hL hR hA0), fun V J pb pe ob oe hJ k7 k8 k9 k10 => r_turn0Z l dC dI rfl r hJ k7 k8 k9 k10 mA1 mU1 mA2 mU2 hA0⟩
    · exact ⟨.int (iv 0), U1, A1, b1, -e1, A2, U2, b2, e2, ⟨_, rfl⟩, ⟨bU1, bA1, hA0, hb1, by omega, by omega⟩, W2, lwC.of (q2 := sw0 q) rfl (fun L R hL hR => c_turn0K l dC dI rfl q hA1 hU1 hA2 hU2 hL hR hA0), fun V J pb pe ob oe hJ k7 k8 k9 k10 => r_turn0K l dC dI rfl r hJ k7 k8 k9 k10 mA1 mU1 mA2 mU2 hA0⟩
  · by_cases hA0 : A2 = 0
    · exact ⟨.int (iv (-3)), A1, U1, b1, e1, A2, U2, b2, e2, ⟨_, rfl⟩, W1, W2, lwC.of (q2 := q) rfl (fun L R hL hR => c_turn1Z l dC dI rfl q hA1 hU1 hA2 hU2 hL hR hA0), fun V J pb pe ob oe hJ k7 k8 k9 k10 => r_turn1Z l dC dI rfl r hJ k7 k8 k9 k10 mA1 mU1 mA2 mU2 hA0⟩
    · exact ⟨.int (iv 0), A1, U1, b1, e1, U2, A2, b2, -e2, ⟨_, rfl⟩, W1, ⟨bU2, bA2, hA0, hb2, by omega, by omega⟩, lwC.of (q2 := sw1 q) rfl (fun L R hL hR => c_turn1K l dC dI rfl q hA1 hU1 hA2 hU2 hL hR hA0), fun V J pb pe ob oe hJ k7 k8 k9 k10 => r_turn1K l dC dI rfl r hJ k7 k8 k9 k10 mA1 mU1 mA2 mU2 hA0⟩
  · exact ⟨.int (iv (-1)), A1, U1, b1, e1, A2, U2, b2, e2, ⟨_, rfl⟩, W1, W2, lwC.of (q2 := q) rfl (fun L R hL hR => c_turnx l dC dI rfl q hA1 hU1 hA2 hU2 hL hR z hz h0 h1), fun V J pb pe ob oe hJ k7 k8 k9 k10 => r_turnx l dC dI rfl r hJ k7 k8 k9 k10 mA1 mU1 mA2 mU2 z hz h0 h1⟩

set_option maxRecDepth 100000 in
set_option maxHeartbeats 4000000 in
/-- move, class and reference -/
theorem lp_move (l : Launch) (dC : Nat → ClassId) (dI : Nat → Nat → Nat) (cI : ClassId) (q r : Nat → Nat) {A1 U1 A2 U2 : Nat} {b1 e1 b2 e2 : Int} (W1 : wf A1 U1 b1 e1) (W2 : wf A2 U2 b2 e2) (z dw : Int) (hz : ir z) (hdw : dw = 0 ∨ dw = 1) : lwP l dC dI cI yX2_move wsX2_move ({ frames := 4, cells := 0, slots := 0, locals := 88 } : Room) ry_M_move rw_M_move ({ frames := 2, cells := 0, slots := 0, locals := 44 } : Room) [.int (iv (z)), .int (iv (dw))] isI q r A1 U1 b1 e1 A2 U2 b2 e2 := by
  obtain ⟨bA1, bU1, nU1, hb1, le1, ge1⟩ := id W1
  obtain ⟨bA2, bU2, nU2, hb2, le2, ge2⟩ := id W2
  have hA1 := wl150 bA1
  have hU1 := wl150 bU1
  have hA2 := wl150 bA2
  have hU2 := wl150 bU2
  have mA1 := dn300 bA1
  have mU1 := dn300 bU1
  have mA2 := dn300 bA2
  have mU2 := dn300 bU2
  rcases num3 z with rfl | rfl | ⟨h0, h1⟩
  · by_cases hd : b1 = dw
    · by_cases hb4 : bl (A1 + A2) ≤ 4800
      · exact ⟨.int (iv (bl (A1 + A2) : Int)), A1 + A2, U1, b1, e1, A2, U2, b2, e2, ⟨_, rfl⟩, ⟨hb4, bU1, nU1, hb1, le1, ge1⟩, W2, lwC.of (q2 := q) rfl (fun L R hL hR => c_move0sumK l dC dI rfl q hA1 hU1 hA2 hU2 hL hR bA1 bA2 dw hdw hb1 hd hb4), fun V J pb pe ob oe hJ k7 k8 k9 k10 => r_move0sumK l dC dI rfl r hJ k7 k8 k9 k10 mA1 mU1 mA2 mU2 bA1 bA2 dw hdw hb1 hd hb4⟩
      · exact ⟨.int (iv (-2)), A1, U1, b1, e1, A2, U2, b2, e2, ⟨_, rfl⟩, W1, W2, lwC.of (q2 := q) rfl (fun L R hL hR => c_move0sumF l dC dI rfl q hA1 hU1 hA2 hU2 hL hR bA1 bA2 dw hdw hb1 hd (Nat.lt_of_not_le hb4)), fun V J pb pe ob oe hJ k7 k8 k9 k10 => r_move0sumF l dC dI rfl r hJ k7 k8 k9 k10 mA1 mU1 mA2 mU2 bA1 bA2 dw hdw hb1 hd (Nat.lt_of_not_le hb4)⟩
    · by_cases hle : A2 ≤ A1
      · exact ⟨.int (iv (bl (A1 - A2) : Int)), A1 - A2, U1, b1, e1, A2, U2, b2, e2, ⟨_, rfl⟩, ⟨Nat.le_trans (bl_mono (Nat.sub_le _ _)) bA1, bU1, nU1, hb1, le1, ge1⟩, W2, lwC.of (q2 := q) rfl (fun L R hL hR => c_move0ge l dC dI rfl q hA1 hU1 hA2 hU2 hL hR bA1 bA2 dw hdw hb1 hd hle), fun V J pb pe ob oe hJ k7 k8 k9 k10 => r_move0ge l dC dI rfl r hJ k7 k8 k9 k10 mA1 mU1 mA2 mU2 bA1 bA2 dw hdw hb1 hd hle⟩
      · exact ⟨.int (iv (bl (A2 - A1) : Int)), A2 - A1, U1, dw, e1, A2, U2, b2, e2, ⟨_, rfl⟩, ⟨Nat.le_trans (bl_mono (Nat.sub_le _ _)) bA2, bU1, nU1, hdw, le1, ge1⟩, W2, lwC.of (q2 := q) rfl (fun L R hL hR => c_move0lt l dC dI rfl q hA1 hU1 hA2 hU2 hL hR bA1 bA2 dw hdw hb1 hd (Nat.lt_of_not_le hle)), fun V J pb pe ob oe hJ k7 k8 k9 k10 => r_move0lt l dC dI rfl r hJ k7 k8 k9 k10 mA1 mU1 mA2 mU2 bA1 bA2 dw hdw hb1 hd (Nat.lt_of_not_le hle)⟩
  · by_cases hd : b2 = dw
    · by_cases hb4 : bl (A2 + A1) ≤ 4800
      · exact ⟨.int (iv (bl (A2 + A1) : Int)), A1, U1, b1, e1, A2 + A1, U2, b2, e2, ⟨_, rfl⟩, W1, ⟨hb4, bU2, nU2, hb2, le2, ge2⟩, lwC.of (q2 := q) rfl (fun L R hL hR => c_move1sumK l dC dI rfl q hA1 hU1 hA2 hU2 hL hR bA1 bA2 dw hdw hb2 hd hb4), fun V J pb pe ob oe hJ k7 k8 k9 k10 => r_move1sumK l dC dI rfl r hJ k7 k8 k9 k10 mA1 mU1 mA2 mU2 bA1 bA2 dw hdw hb2 hd hb4⟩
      · exact ⟨.int (iv (-2)), A1, U1, b1, e1, A2, U2, b2, e2, ⟨_, rfl⟩, W1, W2, lwC.of (q2 := q) rfl (fun L R hL hR => c_move1sumF l dC dI rfl q hA1 hU1 hA2 hU2 hL hR bA1 bA2 dw hdw hb2 hd (Nat.lt_of_not_le hb4)), fun V J pb pe ob oe hJ k7 k8 k9 k10 => r_move1sumF l dC dI rfl r hJ k7 k8 k9 k10 mA1 mU1 mA2 mU2 bA1 bA2 dw hdw hb2 hd (Nat.lt_of_not_le hb4)⟩
    · by_cases hle : A1 ≤ A2
      · exact ⟨.int (iv (bl (A2 - A1) : Int)), A1, U1, b1, e1, A2 - A1, U2, b2, e2, ⟨_, rfl⟩, W1, ⟨Nat.le_trans (bl_mono (Nat.sub_le _ _)) bA2, bU2, nU2, hb2, le2, ge2⟩, lwC.of (q2 := q) rfl (fun L R hL hR => c_move1ge l dC dI rfl q hA1 hU1 hA2 hU2 hL hR bA1 bA2 dw hdw hb2 hd hle), fun V J pb pe ob oe hJ k7 k8 k9 k10 => r_move1ge l dC dI rfl r hJ k7 k8 k9 k10 mA1 mU1 mA2 mU2 bA1 bA2 dw hdw hb2 hd hle⟩
      · exact ⟨.int (iv (bl (A1 - A2) : Int)), A1, U1, b1, e1, A1 - A2, U2, dw, e2, ⟨_, rfl⟩, W1, ⟨Nat.le_trans (bl_mono (Nat.sub_le _ _)) bA1, bU2, nU2, hdw, le2, ge2⟩, lwC.of (q2 := q) rfl (fun L R hL hR => c_move1lt l dC dI rfl q hA1 hU1 hA2 hU2 hL hR bA1 bA2 dw hdw hb2 hd (Nat.lt_of_not_le hle)), fun V J pb pe ob oe hJ k7 k8 k9 k10 => r_move1lt l dC dI rfl r hJ k7 k8 k9 k10 mA1 mU1 mA2 mU2 bA1 bA2 dw hdw hb2 hd (Nat.lt_of_not_le hle)⟩
  · exact ⟨.int (iv (-1)), A1, U1, b1, e1, A2, U2, b2, e2, ⟨_, rfl⟩, W1, W2, lwC.of (q2 := q) rfl (fun L R hL hR => c_movex l dC dI rfl q hA1 hU1 hA2 hU2 hL hR z hz h0 h1 dw), fun V J pb pe ob oe hJ k7 k8 k9 k10 => r_movex l dC dI rfl r hJ k7 k8 k9 k10 mA1 mU1 mA2 mU2 z hz h0 h1 dw⟩

set_option maxRecDepth 100000 in
set_option maxHeartbeats 4000000 in
/-- compare, class and reference -/
theorem lp_compare (l : Launch) (dC : Nat → ClassId) (dI : Nat → Nat → Nat) (cI : ClassId) (q r : Nat → Nat) {A1 U1 A2 U2 : Nat} {b1 e1 b2 e2 : Int} (W1 : wf A1 U1 b1 e1) (W2 : wf A2 U2 b2 e2)  : lwP l dC dI cI yX2_compare wsX2_compare ({ frames := 5, cells := 0, slots := 0, locals := 115 } : Room) ry_M_compare rw_M_compare ({ frames := 4, cells := 0, slots := 0, locals := 99 } : Room) [] isI q r A1 U1 b1 e1 A2 U2 b2 e2 := by
  obtain ⟨bA1, bU1, nU1, hb1, le1, ge1⟩ := id W1
  obtain ⟨bA2, bU2, nU2, hb2, le2, ge2⟩ := id W2
  have hA1 := wl150 bA1
  have hU1 := wl150 bU1
  have hA2 := wl150 bA2
  have hU2 := wl150 bU2
  have mA1 := dn300 bA1
  have mU1 := dn300 bU1
  have mA2 := dn300 bA2
  have mU2 := dn300 bU2
  exact ⟨.int (iv (ccmp A1 U1 b1 e1 A2 U2 b2 e2)), A1, U1, b1, e1, A2, U2, b2, e2, ⟨_, rfl⟩, W1, W2, lwC.of (q2 := q) rfl (fun L R hL hR => c_compare l dC dI rfl q hA1 hU1 hA2 hU2 hL hR bA1 bU1 bA2 bU2 le1 ge1 le2 ge2 nU1 nU2 hb1 hb2), fun V J pb pe ob oe hJ k7 k8 k9 k10 => r_compare l dC dI rfl r hJ k7 k8 k9 k10 mA1 mU1 mA2 mU2 nU1 nU2 bA1 bU1 bA2 bU2 le1 ge1 le2 ge2 hb1 hb2⟩

set_option maxRecDepth 100000 in
set_option maxHeartbeats 4000000 in
/-- round, class and reference -/
theorem lp_round (l : Launch) (dC : Nat → ClassId) (dI : Nat → Nat → Nat) (cI : ClassId) (q r : Nat → Nat) {A1 U1 A2 U2 : Nat} {b1 e1 b2 e2 : Int} (W1 : wf A1 U1 b1 e1) (W2 : wf A2 U2 b2 e2) (z up : Int) (hz : ir z) (hup : up = 0 ∨ up = 1) : lwP l dC dI cI yX2_round wsX2_round ({ frames := 6, cells := 0, slots := 0, locals := 139 } : Room) ry_M_round rw_M_round ({ frames := 6, cells := 0, slots := 0, locals := 148 } : Room) [.int (iv (z)), .int (iv (up))] isJ q r A1 U1 b1 e1 A2 U2 b2 e2 := by
  obtain ⟨bA1, bU1, nU1, hb1, le1, ge1⟩ := id W1
  obtain ⟨bA2, bU2, nU2, hb2, le2, ge2⟩ := id W2
  have hA1 := wl150 bA1
  have hU1 := wl150 bU1
  have hA2 := wl150 bA2
  have hU2 := wl150 bU2
  have mA1 := dn300 bA1
  have mU1 := dn300 bU1
  have mA2 := dn300 bA2
  have mU2 := dn300 bU2
  rcases num3 z with rfl | rfl | ⟨h0, h1⟩
  · by_cases hA0 : A1 = 0
    · exact ⟨.long (jv 0), A1, U1, b1, e1, A2, U2, b2, e2, ⟨_, rfl⟩, W1, W2, lwC.of (q2 := q) rfl (fun L R hL hR => c_round0Z l dC dI rfl q hA1 hU1 hA2 hU2 hL hR hA0 up), fun V J pb pe ob oe hJ k7 k8 k9 k10 => r_round0Z l dC dI rfl r hJ k7 k8 k9 k10 mA1 mU1 mA2 mU2 nU1 bA1 bU1 le1 ge1 hb1 hA0 up hup⟩
    · obtain ⟨x, hx⟩ : ∃ x : Int, ∀ z : Nat, rsz A1 U1 e1 (if up = b1 then 0 else 1) z → (if b1 = 0 ∨ z = 0 then (z : Int) else (z : Int) - 9223372036854775808) = x := by
        by_cases hz : ∃ z : Nat, rsz A1 U1 e1 (if up = b1 then 0 else 1) z
        · obtain ⟨z0, h0⟩ := hz
          exact ⟨(if b1 = 0 ∨ z0 = 0 then (z0 : Int) else (z0 : Int) - 9223372036854775808), fun z h => by rw [rsz_uniq h h0]⟩
        · exact ⟨0, fun z h => absurd ⟨z, h⟩ hz⟩
      refine ⟨.long (jv x), A1, U1, b1, e1, A2, U2, b2, e2, ⟨_, rfl⟩, W1, W2, lwC.of (q2 := q) rfl (fun L R hL hR => ?_), fun V J pb pe ob oe hJ k7 k8 k9 k10 => ?_⟩
      · refine (c_round0 l dC dI rfl q hA1 hU1 hA2 hU2 hL hR bA1 bU1 bA2 bU2 le1 ge1 le2 ge2 hA0 nU1 up hup hb1).mono (fun o w1 h => ?_)
        obtain ⟨L2, R2, z, g1, g2, g3, g4, g5⟩ := h
        rw [hx z g5] at g1
        exact ⟨L2, R2, g1, g2, g3, g4⟩
      · refine (r_round0 l dC dI rfl r hJ k7 k8 k9 k10 mA1 mU1 mA2 mU2 nU1 bA1 bU1 le1 ge1 hb1 hA0 up hup).mono (fun o w1 h => ?_)
        obtain ⟨z, g5, V2, J2, pb2, pe2, ob2, oe2, g1, g2⟩ := h
        rw [hx z g5] at g1
        exact ⟨V2, J2, pb2, pe2, ob2, oe2, g1, g2⟩
  · by_cases hA0 : A2 = 0
    · exact ⟨.long (jv 0), A1, U1, b1, e1, A2, U2, b2, e2, ⟨_, rfl⟩, W1, W2, lwC.of (q2 := q) rfl (fun L R hL hR => c_round1Z l dC dI rfl q hA1 hU1 hA2 hU2 hL hR hA0 up), fun V J pb pe ob oe hJ k7 k8 k9 k10 => r_round1Z l dC dI rfl r hJ k7 k8 k9 k10 mA1 mU1 mA2 mU2 nU2 bA2 bU2 le2 ge2 hb2 hA0 up hup⟩
    · obtain ⟨x, hx⟩ : ∃ x : Int, ∀ z : Nat, rsz A2 U2 e2 (if up = b2 then 0 else 1) z → (if b2 = 0 ∨ z = 0 then (z : Int) else (z : Int) - 9223372036854775808) = x := by
        by_cases hz : ∃ z : Nat, rsz A2 U2 e2 (if up = b2 then 0 else 1) z
        · obtain ⟨z0, h0⟩ := hz
          exact ⟨(if b2 = 0 ∨ z0 = 0 then (z0 : Int) else (z0 : Int) - 9223372036854775808), fun z h => by rw [rsz_uniq h h0]⟩
        · exact ⟨0, fun z h => absurd ⟨z, h⟩ hz⟩
      refine ⟨.long (jv x), A1, U1, b1, e1, A2, U2, b2, e2, ⟨_, rfl⟩, W1, W2, lwC.of (q2 := q) rfl (fun L R hL hR => ?_), fun V J pb pe ob oe hJ k7 k8 k9 k10 => ?_⟩
      · refine (c_round1 l dC dI rfl q hA1 hU1 hA2 hU2 hL hR bA1 bU1 bA2 bU2 le1 ge1 le2 ge2 hA0 nU2 up hup hb2).mono (fun o w1 h => ?_)
        obtain ⟨L2, R2, z, g1, g2, g3, g4, g5⟩ := h
        rw [hx z g5] at g1
        exact ⟨L2, R2, g1, g2, g3, g4⟩
      · refine (r_round1 l dC dI rfl r hJ k7 k8 k9 k10 mA1 mU1 mA2 mU2 nU2 bA2 bU2 le2 ge2 hb2 hA0 up hup).mono (fun o w1 h => ?_)
        obtain ⟨z, g5, V2, J2, pb2, pe2, ob2, oe2, g1, g2⟩ := h
        rw [hx z g5] at g1
        exact ⟨V2, J2, pb2, pe2, ob2, oe2, g1, g2⟩
  · exact ⟨.long (jv 9221120237041090560), A1, U1, b1, e1, A2, U2, b2, e2, ⟨_, rfl⟩, W1, W2, lwC.of (q2 := q) rfl (fun L R hL hR => c_roundx l dC dI rfl q hA1 hU1 hA2 hU2 hL hR z hz h0 h1 up), fun V J pb pe ob oe hJ k7 k8 k9 k10 => r_roundx l dC dI rfl r hJ k7 k8 k9 k10 mA1 mU1 mA2 mU2 z hz h0 h1 up⟩
