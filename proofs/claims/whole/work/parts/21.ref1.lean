/-! The cells of the reference: twenty-seven -/
abbrev nu (f x y : Nat) (b e : Int) : Nat × va_E := (f, .inr (4, [.int (iv b), .ref x, .ref y, .int (iv e)]))
def rC (cI : ClassId) (r : Nat → Nat) (L R D PP PQ OP OQ A1 U1 A2 U2 : Nat) (fL fR fD fPP fPQ fOP fOQ fA1 fU1 fA2 fU2 : Nat → Nat) (pb pe ob oe b1 e1 b2 e2 : Int) : va_W :=
  [(r 0, .inr (5, [.ref (r 5), .ref (r 7), .ref (r 1), .ref (r 2), .ref (r 3), .ref (r 4), .ref (r 9)])),
   nu (r 1) (r 11) (r 13) pb pe, nu (r 2) (r 15) (r 17) ob oe, nu (r 3) (r 19) (r 21) b1 e1, nu (r 4) (r 23) (r 25) b2 e2,
   bo (r 5) (r 6) (dn L), ba cI (r 6) fL, bo (r 7) (r 8) (dn R), ba cI (r 8) fR, bo (r 9) (r 10) (dn D), ba cI (r 10) fD,
   bo (r 11) (r 12) (dn PP), ba cI (r 12) fPP, bo (r 13) (r 14) (dn PQ), ba cI (r 14) fPQ, bo (r 15) (r 16) (dn OP), ba cI (r 16) fOP, bo (r 17) (r 18) (dn OQ), ba cI (r 18) fOQ,
   bo (r 19) (r 20) (dn A1), ba cI (r 20) fA1, bo (r 21) (r 22) (dn U1), ba cI (r 22) fU1, bo (r 23) (r 24) (dn A2), ba cI (r 24) fA2, bo (r 25) (r 26) (dn U2), ba cI (r 26) fU2]
theorem isB_c {ws : va_W} {k0 k1 h a : Nat} {cI : ClassId} {X : Nat} {F : Nat → Nat} (h0 : k0 ≠ k1) (h1 : ws[k0]? = some (bo h a (dn X))) (h2 : ws[k1]? = some (ba cI a F)) : isB ws k0 k1 h a cI (dn X) F := ⟨h0, h1, h2⟩
def bk (X : Nat) (F : Nat → Nat) : Prop := dgo X F ∧ dn X ≤ 640
/-- the rows that the reference works in hold some numbers -/
def rJ (V : Nat → Nat) (J : Nat → Nat → Nat) : Prop := ∀ i, i < 7 → bk (V i) (J i)
theorem rJ_of {a0 a1 a2 a3 a4 a5 a6 : Nat} {f0 f1 f2 f3 f4 f5 f6 f7 f8 f9 f10 : Nat → Nat} (h0 : bk a0 f0) (h1 : bk a1 f1) (h2 : bk a2 f2) (h3 : bk a3 f3) (h4 : bk a4 f4) (h5 : bk a5 f5) (h6 : bk a6 f6) : rJ (fun i => [a0, a1, a2, a3, a4, a5, a6].getD i 0) (fun i => [f0, f1, f2, f3, f4, f5, f6, f7, f8, f9, f10].getD i (fun _ => 0)) := by
  intro i hi
  match i, hi with
  | 0, _ => exact h0
  | 1, _ => exact h1
  | 2, _ => exact h2
  | 3, _ => exact h3
  | 4, _ => exact h4
  | 5, _ => exact h5
  | 6, _ => exact h6
theorem dn_bl {X k : Nat} (h : bl X ≤ 16 * k) : dn X ≤ k := dn_le (Nat.lt_of_lt_of_le (bl_lt X) (Nat.pow_le_pow_right (by decide) h))
theorem dn_mul {Y mu mo : Nat} (h : dn Y ≤ 300) (hmu : mu ≤ 1000000) (hmo : mo ≤ 1000000) : dn (Y * mu + mo) ≤ 304 := dn_le (by
  have h1 := dn_lt Y
  have h2 : 2 ^ (16 * dn Y) ≤ 2 ^ (16 * 300) := Nat.pow_le_pow_right (by decide) (by omega)
  have h3 : Y * mu ≤ 2 ^ (16 * 300) * 1000000 := Nat.mul_le_mul (by omega) hmu
  have h4 : (2 : Nat) ^ (16 * 304) = 2 ^ (16 * 300) * 18446744073709551616 := by rw [show (18446744073709551616 : Nat) = 2 ^ 64 from rfl, ← Nat.pow_add]
  have h5 : 0 < (2 : Nat) ^ (16 * 300) := Nat.pow_pos (by decide)
  rw [h4]
  generalize (2 : Nat) ^ (16 * 300) = T at h2 h3 h5 ⊢
  omega)
theorem dn_add {Y Z k : Nat} (h : dn Y ≤ k) (h2 : dn Z ≤ k) : dn (Y + Z) ≤ k + 1 := dn_le (by
  have h1 := Nat.lt_of_lt_of_le (dn_lt Y) (Nat.pow_le_pow_right (show 0 < 2 by decide) (show 16 * dn Y ≤ 16 * k by omega))
  have h3 := Nat.lt_of_lt_of_le (dn_lt Z) (Nat.pow_le_pow_right (show 0 < 2 by decide) (show 16 * dn Z ≤ 16 * k by omega))
  rw [p16]
  omega)
theorem dn_mono {X Y : Nat} (h : X ≤ Y) : dn X ≤ dn Y := dn_le (Nat.lt_of_le_of_lt h (dn_lt Y))

set_option maxRecDepth 100000 in
set_option maxHeartbeats 4000000 in
/-- isNumber -/
theorem r_isNumber0 (l : Launch) (dC : Nat → ClassId) (dI : Nat → Nat → Nat) {cI : ClassId} {tys : List (ClassId × FieldType)} (ht : tys[0]? = some (cI, .int)) (r : Nat → Nat) {V : Nat → Nat} {J : Nat → Nat → Nat} {A1 U1 A2 U2 : Nat} {pb pe ob oe b1 e1 b2 e2 : Int} : ef_C l ry_M_isNumber rw_M_isNumber ({ frames := 0, cells := 0, slots := 0, locals := 0 } : Room) [.int (iv (0))] (dC, dI) vwCl tys (rC cI r ((V 0)) ((V 1)) ((V 2)) ((V 3)) ((V 4)) ((V 5)) ((V 6)) (A1) (U1) (A2) (U2) ((J 0)) ((J 1)) ((J 2)) ((J 3)) ((J 4)) ((J 5)) ((J 6)) ((J 7)) ((J 8)) ((J 9)) ((J 10)) (pb) (pe) (ob) (oe) (b1) (e1) (b2) (e2)) (fun o w1 => o = some (.int (iv (1))) ∧ w1 = rC cI r ((V 0)) ((V 1)) ((V 2)) ((V 3)) ((V 4)) ((V 5)) ((V 6)) (A1) (U1) (A2) (U2) ((J 0)) ((J 1)) ((J 2)) ((J 3)) ((J 4)) ((J 5)) ((J 6)) ((J 7)) ((J 8)) ((J 9)) ((J 10)) (pb) (pe) (ob) (oe) (b1) (e1) (b2) (e2)) := by
  refine ef_C.of (cc := rc_M_isNumber) (maxL := 1) (ret := (some .boolean)) (by decide) rfl (Nat.le_of_ble_eq_true rfl) ?_
  intro p e s m below meth c ls hx hb hml hr hts hown hlocks hK hNX hP hD hS hl
  have hl : lv_has ls 1 [(0, .int (iv (0)))] := hl
  have hown : s.vm.findClass rR5 = some m.cls := hown
  generalize hH : s.heap = H at hP ⊢
  have hS : va_S (ef_A (rC cI r ((V 0)) ((V 1)) ((V 2)) ((V 3)) ((V 4)) ((V 5)) ((V 6)) (A1) (U1) (A2) (U2) ((J 0)) ((J 1)) ((J 2)) ((J 3)) ((J 4)) ((J 5)) ((J 6)) ((J 7)) ((J 8)) ((J 9)) ((J 10)) (pb) (pe) (ob) (oe) (b1) (e1) (b2) (e2))) s.heap H [] := by rw [← hH]; exact hS
  generalize ([] : List Loc) = locs at hS ⊢
  refine lv_iload_n hx hb rd_M_isNumber_0 rfl (lv_at hl 0 rfl) ?_
  refine iw_if_eq (tgt := 9) hx hb rd_M_isNumber_1 (by decide) ⟨by omega, by omega⟩ (fun c1 => ?_) (fun c1 => ?_)
  ·
    refine lv_iconst (v := iv (1)) hx hb rd_M_isNumber_9 (by decide) ?_
    refine lv_goto (tgt := 14) hx hb rd_M_isNumber_10 (by decide) ?_
    exact ef_zret hx hb hr hlocks (by decide) hP hD hS rd_M_isNumber_14 (⟨rfl, rfl⟩)
  ·
    exact absurd rfl c1

set_option maxRecDepth 100000 in
set_option maxHeartbeats 4000000 in
/-- isNumber -/
theorem r_isNumber1 (l : Launch) (dC : Nat → ClassId) (dI : Nat → Nat → Nat) {cI : ClassId} {tys : List (ClassId × FieldType)} (ht : tys[0]? = some (cI, .int)) (r : Nat → Nat) {V : Nat → Nat} {J : Nat → Nat → Nat} {A1 U1 A2 U2 : Nat} {pb pe ob oe b1 e1 b2 e2 : Int} : ef_C l ry_M_isNumber rw_M_isNumber ({ frames := 0, cells := 0, slots := 0, locals := 0 } : Room) [.int (iv (1))] (dC, dI) vwCl tys (rC cI r ((V 0)) ((V 1)) ((V 2)) ((V 3)) ((V 4)) ((V 5)) ((V 6)) (A1) (U1) (A2) (U2) ((J 0)) ((J 1)) ((J 2)) ((J 3)) ((J 4)) ((J 5)) ((J 6)) ((J 7)) ((J 8)) ((J 9)) ((J 10)) (pb) (pe) (ob) (oe) (b1) (e1) (b2) (e2)) (fun o w1 => o = some (.int (iv (1))) ∧ w1 = rC cI r ((V 0)) ((V 1)) ((V 2)) ((V 3)) ((V 4)) ((V 5)) ((V 6)) (A1) (U1) (A2) (U2) ((J 0)) ((J 1)) ((J 2)) ((J 3)) ((J 4)) ((J 5)) ((J 6)) ((J 7)) ((J 8)) ((J 9)) ((J 10)) (pb) (pe) (ob) (oe) (b1) (e1) (b2) (e2)) := by
  refine ef_C.of (cc := rc_M_isNumber) (maxL := 1) (ret := (some .boolean)) (by decide) rfl (Nat.le_of_ble_eq_true rfl) ?_
  intro p e s m below meth c ls hx hb hml hr hts hown hlocks hK hNX hP hD hS hl
  have hl : lv_has ls 1 [(0, .int (iv (1)))] := hl
  have hown : s.vm.findClass rR5 = some m.cls := hown
  generalize hH : s.heap = H at hP ⊢
  have hS : va_S (ef_A (rC cI r ((V 0)) ((V 1)) ((V 2)) ((V 3)) ((V 4)) ((V 5)) ((V 6)) (A1) (U1) (A2) (U2) ((J 0)) ((J 1)) ((J 2)) ((J 3)) ((J 4)) ((J 5)) ((J 6)) ((J 7)) ((J 8)) ((J 9)) ((J 10)) (pb) (pe) (ob) (oe) (b1) (e1) (b2) (e2))) s.heap H [] := by rw [← hH]; exact hS
  generalize ([] : List Loc) = locs at hS ⊢
  refine lv_iload_n hx hb rd_M_isNumber_0 rfl (lv_at hl 0 rfl) ?_
  refine iw_if_eq (tgt := 9) hx hb rd_M_isNumber_1 (by decide) ⟨by omega, by omega⟩ (fun c1 => ?_) (fun c1 => ?_)
  ·
    exact absurd c1 (by decide)
  ·
    refine lv_iload_n hx hb rd_M_isNumber_4 rfl (lv_at hl 0 rfl) ?_
    refine lv_iconst (v := iv (1)) hx hb rd_M_isNumber_5 (by decide) ?_
    refine iw_icmp_ne (tgt := 13) hx hb rd_M_isNumber_6 (by decide) ⟨by omega, by omega⟩ ⟨by omega, by omega⟩ (fun c2 => ?_) (fun c2 => ?_)
    ·
      exact absurd rfl c2
    ·
      refine lv_iconst (v := iv (1)) hx hb rd_M_isNumber_9 (by decide) ?_
      refine lv_goto (tgt := 14) hx hb rd_M_isNumber_10 (by decide) ?_
      exact ef_zret hx hb hr hlocks (by decide) hP hD hS rd_M_isNumber_14 (⟨rfl, rfl⟩)

set_option maxRecDepth 100000 in
set_option maxHeartbeats 4000000 in
/-- isNumber -/
theorem r_isNumberx (l : Launch) (dC : Nat → ClassId) (dI : Nat → Nat → Nat) {cI : ClassId} {tys : List (ClassId × FieldType)} (ht : tys[0]? = some (cI, .int)) (r : Nat → Nat) {V : Nat → Nat} {J : Nat → Nat → Nat} {A1 U1 A2 U2 : Nat} {pb pe ob oe b1 e1 b2 e2 : Int} (z : Int) (hz : ir z) (hz0 : z ≠ 0) (hz1 : z ≠ 1) : ef_C l ry_M_isNumber rw_M_isNumber ({ frames := 0, cells := 0, slots := 0, locals := 0 } : Room) [.int (iv (z))] (dC, dI) vwCl tys (rC cI r ((V 0)) ((V 1)) ((V 2)) ((V 3)) ((V 4)) ((V 5)) ((V 6)) (A1) (U1) (A2) (U2) ((J 0)) ((J 1)) ((J 2)) ((J 3)) ((J 4)) ((J 5)) ((J 6)) ((J 7)) ((J 8)) ((J 9)) ((J 10)) (pb) (pe) (ob) (oe) (b1) (e1) (b2) (e2)) (fun o w1 => o = some (.int (iv (0))) ∧ w1 = rC cI r ((V 0)) ((V 1)) ((V 2)) ((V 3)) ((V 4)) ((V 5)) ((V 6)) (A1) (U1) (A2) (U2) ((J 0)) ((J 1)) ((J 2)) ((J 3)) ((J 4)) ((J 5)) ((J 6)) ((J 7)) ((J 8)) ((J 9)) ((J 10)) (pb) (pe) (ob) (oe) (b1) (e1) (b2) (e2)) := by
  refine ef_C.of (cc := rc_M_isNumber) (maxL := 1) (ret := (some .boolean)) (by decide) rfl (Nat.le_of_ble_eq_true rfl) ?_
  intro p e s m below meth c ls hx hb hml hr hts hown hlocks hK hNX hP hD hS hl
  have hl : lv_has ls 1 [(0, .int (iv (z)))] := hl
  have hown : s.vm.findClass rR5 = some m.cls := hown
  generalize hH : s.heap = H at hP ⊢
  have hS : va_S (ef_A (rC cI r ((V 0)) ((V 1)) ((V 2)) ((V 3)) ((V 4)) ((V 5)) ((V 6)) (A1) (U1) (A2) (U2) ((J 0)) ((J 1)) ((J 2)) ((J 3)) ((J 4)) ((J 5)) ((J 6)) ((J 7)) ((J 8)) ((J 9)) ((J 10)) (pb) (pe) (ob) (oe) (b1) (e1) (b2) (e2))) s.heap H [] := by rw [← hH]; exact hS
  generalize ([] : List Loc) = locs at hS ⊢
  refine lv_iload_n hx hb rd_M_isNumber_0 rfl (lv_at hl 0 rfl) ?_
  refine iw_if_eq (tgt := 9) hx hb rd_M_isNumber_1 (by decide) (hz) (fun c1 => ?_) (fun c1 => ?_)
  ·
    exact absurd c1 hz0
  ·
    refine lv_iload_n hx hb rd_M_isNumber_4 rfl (lv_at hl 0 rfl) ?_
    refine lv_iconst (v := iv (1)) hx hb rd_M_isNumber_5 (by decide) ?_
    refine iw_icmp_ne (tgt := 13) hx hb rd_M_isNumber_6 (by decide) (hz) ⟨by omega, by omega⟩ (fun c2 => ?_) (fun c2 => ?_)
    ·
      refine lv_iconst (v := iv (0)) hx hb rd_M_isNumber_13 (by decide) ?_
      exact ef_zret hx hb hr hlocks (by decide) hP hD hS rd_M_isNumber_14 (⟨rfl, rfl⟩)
    ·
      exact absurd c2 hz1

set_option maxRecDepth 100000 in
set_option maxHeartbeats 4000000 in
/-- numberOf -/
theorem r_numberOf0 (l : Launch) (dC : Nat → ClassId) (dI : Nat → Nat → Nat) {cI : ClassId} {tys : List (ClassId × FieldType)} (ht : tys[0]? = some (cI, .int)) (r : Nat → Nat) {V : Nat → Nat} {J : Nat → Nat → Nat} {A1 U1 A2 U2 : Nat} {pb pe ob oe b1 e1 b2 e2 : Int} : ef_C l ry_M_numberOf rw_M_numberOf ({ frames := 0, cells := 0, slots := 0, locals := 0 } : Room) [.ref (r 0), .int (iv (0))] (dC, dI) vwCl tys (rC cI r ((V 0)) ((V 1)) ((V 2)) ((V 3)) ((V 4)) ((V 5)) ((V 6)) (A1) (U1) (A2) (U2) ((J 0)) ((J 1)) ((J 2)) ((J 3)) ((J 4)) ((J 5)) ((J 6)) ((J 7)) ((J 8)) ((J 9)) ((J 10)) (pb) (pe) (ob) (oe) (b1) (e1) (b2) (e2)) (fun o w1 => o = some (.ref (r 3)) ∧ w1 = rC cI r ((V 0)) ((V 1)) ((V 2)) ((V 3)) ((V 4)) ((V 5)) ((V 6)) (A1) (U1) (A2) (U2) ((J 0)) ((J 1)) ((J 2)) ((J 3)) ((J 4)) ((J 5)) ((J 6)) ((J 7)) ((J 8)) ((J 9)) ((J 10)) (pb) (pe) (ob) (oe) (b1) (e1) (b2) (e2)) := by
  refine ef_C.of (cc := rc_M_numberOf) (maxL := 2) (ret := (some (.object "ExactFractionsModel$Num"))) (by decide) rfl (Nat.le_of_ble_eq_true rfl) ?_
  intro p e s m below meth c ls hx hb hml hr hts hown hlocks hK hNX hP hD hS hl
  have hl : lv_has ls 2 [(0, .ref (r 0)), (1, .int (iv (0)))] := hl
  have hown : s.vm.findClass rR5 = some m.cls := hown
  generalize hH : s.heap = H at hP ⊢
  have hS : va_S (ef_A (rC cI r ((V 0)) ((V 1)) ((V 2)) ((V 3)) ((V 4)) ((V 5)) ((V 6)) (A1) (U1) (A2) (U2) ((J 0)) ((J 1)) ((J 2)) ((J 3)) ((J 4)) ((J 5)) ((J 6)) ((J 7)) ((J 8)) ((J 9)) ((J 10)) (pb) (pe) (ob) (oe) (b1) (e1) (b2) (e2))) s.heap H [] := by rw [← hH]; exact hS
  generalize ([] : List Loc) = locs at hS ⊢
  refine lv_iload_n hx hb rd_M_numberOf_0 rfl (lv_at hl 1 rfl) ?_
  refine iw_if_ne (tgt := 11) hx hb rd_M_numberOf_1 (by decide) ⟨by omega, by omega⟩ (fun c1 => ?_) (fun c1 => ?_)
  ·
    exact absurd rfl c1
  ·
    refine lv_aload_n hx hb rd_M_numberOf_4 rfl (lv_at hl 0 rfl) ?_
    refine va_get (D := (dC, dI)) (ci := 5) (v := .ref (r 3)) (C := rR5) (T := rT5) (N := 7) hx hb hts (fun w h => List.mem_cons_of_mem _ (rin5 w h)) hown hK hP 0 rfl rfl 4 (by decide) (hts _ (List.mem_cons_of_mem _ rm_314)) (fun _ h9 => h9) rfl rd_M_numberOf_5 ?_
    refine lv_goto (tgt := 15) hx hb rd_M_numberOf_8 (by decide) ?_
    exact ef_aret hx hb hr (Or.inl ⟨_, rfl⟩) (Or.inr ⟨_, rfl⟩) hlocks hP hD hS rd_M_numberOf_15 (⟨rfl, rfl⟩)

set_option maxRecDepth 100000 in
set_option maxHeartbeats 4000000 in
/-- numberOf -/
theorem r_numberOf1 (l : Launch) (dC : Nat → ClassId) (dI : Nat → Nat → Nat) {cI : ClassId} {tys : List (ClassId × FieldType)} (ht : tys[0]? = some (cI, .int)) (r : Nat → Nat) {V : Nat → Nat} {J : Nat → Nat → Nat} {A1 U1 A2 U2 : Nat} {pb pe ob oe b1 e1 b2 e2 : Int} : ef_C l ry_M_numberOf rw_M_numberOf ({ frames := 0, cells := 0, slots := 0, locals := 0 } : Room) [.ref (r 0), .int (iv (1))] (dC, dI) vwCl tys (rC cI r ((V 0)) ((V 1)) ((V 2)) ((V 3)) ((V 4)) ((V 5)) ((V 6)) (A1) (U1) (A2) (U2) ((J 0)) ((J 1)) ((J 2)) ((J 3)) ((J 4)) ((J 5)) ((J 6)) ((J 7)) ((J 8)) ((J 9)) ((J 10)) (pb) (pe) (ob) (oe) (b1) (e1) (b2) (e2)) (fun o w1 => o = some (.ref (r 4)) ∧ w1 = rC cI r ((V 0)) ((V 1)) ((V 2)) ((V 3)) ((V 4)) ((V 5)) ((V 6)) (A1) (U1) (A2) (U2) ((J 0)) ((J 1)) ((J 2)) ((J 3)) ((J 4)) ((J 5)) ((J 6)) ((J 7)) ((J 8)) ((J 9)) ((J 10)) (pb) (pe) (ob) (oe) (b1) (e1) (b2) (e2)) := by
  refine ef_C.of (cc := rc_M_numberOf) (maxL := 2) (ret := (some (.object "ExactFractionsModel$Num"))) (by decide) rfl (Nat.le_of_ble_eq_true rfl) ?_
  intro p e s m below meth c ls hx hb hml hr hts hown hlocks hK hNX hP hD hS hl
  have hl : lv_has ls 2 [(0, .ref (r 0)), (1, .int (iv (1)))] := hl
  have hown : s.vm.findClass rR5 = some m.cls := hown
  generalize hH : s.heap = H at hP ⊢
  have hS : va_S (ef_A (rC cI r ((V 0)) ((V 1)) ((V 2)) ((V 3)) ((V 4)) ((V 5)) ((V 6)) (A1) (U1) (A2) (U2) ((J 0)) ((J 1)) ((J 2)) ((J 3)) ((J 4)) ((J 5)) ((J 6)) ((J 7)) ((J 8)) ((J 9)) ((J 10)) (pb) (pe) (ob) (oe) (b1) (e1) (b2) (e2))) s.heap H [] := by rw [← hH]; exact hS
  generalize ([] : List Loc) = locs at hS ⊢
  refine lv_iload_n hx hb rd_M_numberOf_0 rfl (lv_at hl 1 rfl) ?_
  refine iw_if_ne (tgt := 11) hx hb rd_M_numberOf_1 (by decide) ⟨by omega, by omega⟩ (fun c1 => ?_) (fun c1 => ?_)
  ·
    refine lv_aload_n hx hb rd_M_numberOf_11 rfl (lv_at hl 0 rfl) ?_
    refine va_get (D := (dC, dI)) (ci := 5) (v := .ref (r 4)) (C := rR5) (T := rT5) (N := 7) hx hb hts (fun w h => List.mem_cons_of_mem _ (rin5 w h)) hown hK hP 0 rfl rfl 5 (by decide) (hts _ (List.mem_cons_of_mem _ rm_315)) (fun _ h9 => h9) rfl rd_M_numberOf_12 ?_
    exact ef_aret hx hb hr (Or.inl ⟨_, rfl⟩) (Or.inr ⟨_, rfl⟩) hlocks hP hD hS rd_M_numberOf_15 (⟨rfl, rfl⟩)
  ·
    exact absurd c1 (by decide)

set_option maxRecDepth 100000 in
set_option maxHeartbeats 4000000 in
/-- partOf -/
theorem r_partOf00 (l : Launch) (dC : Nat → ClassId) (dI : Nat → Nat → Nat) {cI : ClassId} {tys : List (ClassId × FieldType)} (ht : tys[0]? = some (cI, .int)) (r : Nat → Nat) {V : Nat → Nat} {J : Nat → Nat → Nat} {A1 U1 A2 U2 : Nat} {pb pe ob oe b1 e1 b2 e2 : Int} : ef_C l ry_M_partOf rw_M_partOf ({ frames := 0, cells := 0, slots := 0, locals := 0 } : Room) [.ref (r 0), .int (iv (0)), .int (iv (0))] (dC, dI) vwCl tys (rC cI r ((V 0)) ((V 1)) ((V 2)) ((V 3)) ((V 4)) ((V 5)) ((V 6)) (A1) (U1) (A2) (U2) ((J 0)) ((J 1)) ((J 2)) ((J 3)) ((J 4)) ((J 5)) ((J 6)) ((J 7)) ((J 8)) ((J 9)) ((J 10)) (pb) (pe) (ob) (oe) (b1) (e1) (b2) (e2)) (fun o w1 => o = some (.ref (r 19)) ∧ w1 = rC cI r ((V 0)) ((V 1)) ((V 2)) ((V 3)) ((V 4)) ((V 5)) ((V 6)) (A1) (U1) (A2) (U2) ((J 0)) ((J 1)) ((J 2)) ((J 3)) ((J 4)) ((J 5)) ((J 6)) ((J 7)) ((J 8)) ((J 9)) ((J 10)) (pb) (pe) (ob) (oe) (b1) (e1) (b2) (e2)) := by
  refine ef_C.of (cc := rc_M_partOf) (maxL := 4) (ret := (some (.object "ExactFractionsModel$Big"))) (by decide) rfl (Nat.le_of_ble_eq_true rfl) ?_
  intro p e s m below meth c ls hx hb hml hr hts hown hlocks hK hNX hP hD hS hl
  have hl : lv_has ls 4 [(0, .ref (r 0)), (1, .int (iv (0))), (2, .int (iv (0)))] := hl
  have hown : s.vm.findClass rR5 = some m.cls := hown
  generalize hH : s.heap = H at hP ⊢
  have hS : va_S (ef_A (rC cI r ((V 0)) ((V 1)) ((V 2)) ((V 3)) ((V 4)) ((V 5)) ((V 6)) (A1) (U1) (A2) (U2) ((J 0)) ((J 1)) ((J 2)) ((J 3)) ((J 4)) ((J 5)) ((J 6)) ((J 7)) ((J 8)) ((J 9)) ((J 10)) (pb) (pe) (ob) (oe) (b1) (e1) (b2) (e2))) s.heap H [] := by rw [← hH]; exact hS
  generalize ([] : List Loc) = locs at hS ⊢
  refine lv_iload_n hx hb rd_M_partOf_0 rfl (lv_at hl 1 rfl) ?_
  refine iw_if_ne (tgt := 11) hx hb rd_M_partOf_1 (by decide) ⟨by omega, by omega⟩ (fun c1 => ?_) (fun c1 => ?_)
  ·
    exact absurd rfl c1
  ·
    refine lv_aload_n hx hb rd_M_partOf_4 rfl (lv_at hl 0 rfl) ?_
    refine va_get (D := (dC, dI)) (ci := 5) (v := .ref (r 3)) (C := rR5) (T := rT5) (N := 7) hx hb hts (fun w h => List.mem_cons_of_mem _ (rin5 w h)) hown hK hP 0 rfl rfl 4 (by decide) (hts _ (List.mem_cons_of_mem _ rm_314)) (fun _ h9 => h9) rfl rd_M_partOf_5 ?_
    refine lv_goto (tgt := 15) hx hb rd_M_partOf_8 (by decide) ?_
    refine lv_astore_n (lv' := [(3, .ref (r 3)), (0, .ref (r 0)), (1, .int (iv (0))), (2, .int (iv (0)))]) hx hb rd_M_partOf_15 rfl hl (by decide) rfl (fun ls hl => ?_)
    refine lv_iload_n hx hb rd_M_partOf_16 rfl (lv_at hl 3 rfl) ?_
    refine iw_if_ne (tgt := 27) hx hb rd_M_partOf_17 (by decide) ⟨by omega, by omega⟩ (fun c2 => ?_) (fun c2 => ?_)
    ·
      exact absurd rfl c2
    ·
      refine lv_aload_n hx hb rd_M_partOf_20 rfl (lv_at hl 0 rfl) ?_
      refine va_getN (D := (dC, dI)) (ci := 4) (v := .ref (r 19)) (C := rR4) (T := rT4) (N := 4) hx hb hts (fun w h => List.mem_cons_of_mem _ (rin4 w h)) hown hK hP 3 rfl rfl 1 (by decide) (hNX.use rm_287 rfl) (fun _ h9 => h9) rfl rd_M_partOf_21 ?_
      refine lv_goto (tgt := 31) hx hb rd_M_partOf_24 (by decide) ?_
      exact ef_aret hx hb hr (Or.inl ⟨_, rfl⟩) (Or.inr ⟨_, rfl⟩) hlocks hP hD hS rd_M_partOf_31 (⟨rfl, rfl⟩)

set_option maxRecDepth 100000 in
set_option maxHeartbeats 4000000 in
/-- partOf -/
theorem r_partOf01 (l : Launch) (dC : Nat → ClassId) (dI : Nat → Nat → Nat) {cI : ClassId} {tys : List (ClassId × FieldType)} (ht : tys[0]? = some (cI, .int)) (r : Nat → Nat) {V : Nat → Nat} {J : Nat → Nat → Nat} {A1 U1 A2 U2 : Nat} {pb pe ob oe b1 e1 b2 e2 : Int} : ef_C l ry_M_partOf rw_M_partOf ({ frames := 0, cells := 0, slots := 0, locals := 0 } : Room) [.ref (r 0), .int (iv (0)), .int (iv (1))] (dC, dI) vwCl tys (rC cI r ((V 0)) ((V 1)) ((V 2)) ((V 3)) ((V 4)) ((V 5)) ((V 6)) (A1) (U1) (A2) (U2) ((J 0)) ((J 1)) ((J 2)) ((J 3)) ((J 4)) ((J 5)) ((J 6)) ((J 7)) ((J 8)) ((J 9)) ((J 10)) (pb) (pe) (ob) (oe) (b1) (e1) (b2) (e2)) (fun o w1 => o = some (.ref (r 21)) ∧ w1 = rC cI r ((V 0)) ((V 1)) ((V 2)) ((V 3)) ((V 4)) ((V 5)) ((V 6)) (A1) (U1) (A2) (U2) ((J 0)) ((J 1)) ((J 2)) ((J 3)) ((J 4)) ((J 5)) ((J 6)) ((J 7)) ((J 8)) ((J 9)) ((J 10)) (pb) (pe) (ob) (oe) (b1) (e1) (b2) (e2)) := by
  refine ef_C.of (cc := rc_M_partOf) (maxL := 4) (ret := (some (.object "ExactFractionsModel$Big"))) (by decide) rfl (Nat.le_of_ble_eq_true rfl) ?_
  intro p e s m below meth c ls hx hb hml hr hts hown hlocks hK hNX hP hD hS hl
  have hl : lv_has ls 4 [(0, .ref (r 0)), (1, .int (iv (0))), (2, .int (iv (1)))] := hl
  have hown : s.vm.findClass rR5 = some m.cls := hown
  generalize hH : s.heap = H at hP ⊢
  have hS : va_S (ef_A (rC cI r ((V 0)) ((V 1)) ((V 2)) ((V 3)) ((V 4)) ((V 5)) ((V 6)) (A1) (U1) (A2) (U2) ((J 0)) ((J 1)) ((J 2)) ((J 3)) ((J 4)) ((J 5)) ((J 6)) ((J 7)) ((J 8)) ((J 9)) ((J 10)) (pb) (pe) (ob) (oe) (b1) (e1) (b2) (e2))) s.heap H [] := by rw [← hH]; exact hS
  generalize ([] : List Loc) = locs at hS ⊢
  refine lv_iload_n hx hb rd_M_partOf_0 rfl (lv_at hl 1 rfl) ?_
  refine iw_if_ne (tgt := 11) hx hb rd_M_partOf_1 (by decide) ⟨by omega, by omega⟩ (fun c1 => ?_) (fun c1 => ?_)
  ·
    exact absurd rfl c1
  ·
    refine lv_aload_n hx hb rd_M_partOf_4 rfl (lv_at hl 0 rfl) ?_
    refine va_get (D := (dC, dI)) (ci := 5) (v := .ref (r 3)) (C := rR5) (T := rT5) (N := 7) hx hb hts (fun w h => List.mem_cons_of_mem _ (rin5 w h)) hown hK hP 0 rfl rfl 4 (by decide) (hts _ (List.mem_cons_of_mem _ rm_314)) (fun _ h9 => h9) rfl rd_M_partOf_5 ?_
    refine lv_goto (tgt := 15) hx hb rd_M_partOf_8 (by decide) ?_
    refine lv_astore_n (lv' := [(3, .ref (r 3)), (0, .ref (r 0)), (1, .int (iv (0))), (2, .int (iv (1)))]) hx hb rd_M_partOf_15 rfl hl (by decide) rfl (fun ls hl => ?_)
    refine lv_iload_n hx hb rd_M_partOf_16 rfl (lv_at hl 3 rfl) ?_
    refine iw_if_ne (tgt := 27) hx hb rd_M_partOf_17 (by decide) ⟨by omega, by omega⟩ (fun c2 => ?_) (fun c2 => ?_)
    ·
      refine lv_aload_n hx hb rd_M_partOf_27 rfl (lv_at hl 0 rfl) ?_
      refine va_getN (D := (dC, dI)) (ci := 4) (v := .ref (r 21)) (C := rR4) (T := rT4) (N := 4) hx hb hts (fun w h => List.mem_cons_of_mem _ (rin4 w h)) hown hK hP 3 rfl rfl 2 (by decide) (hNX.use rm_288 rfl) (fun _ h9 => h9) rfl rd_M_partOf_28 ?_
      exact ef_aret hx hb hr (Or.inl ⟨_, rfl⟩) (Or.inr ⟨_, rfl⟩) hlocks hP hD hS rd_M_partOf_31 (⟨rfl, rfl⟩)
    ·
      exact absurd c2 (by decide)

set_option maxRecDepth 100000 in
set_option maxHeartbeats 4000000 in
/-- partOf -/
theorem r_partOf10 (l : Launch) (dC : Nat → ClassId) (dI : Nat → Nat → Nat) {cI : ClassId} {tys : List (ClassId × FieldType)} (ht : tys[0]? = some (cI, .int)) (r : Nat → Nat) {V : Nat → Nat} {J : Nat → Nat → Nat} {A1 U1 A2 U2 : Nat} {pb pe ob oe b1 e1 b2 e2 : Int} : ef_C l ry_M_partOf rw_M_partOf ({ frames := 0, cells := 0, slots := 0, locals := 0 } : Room) [.ref (r 0), .int (iv (1)), .int (iv (0))] (dC, dI) vwCl tys (rC cI r ((V 0)) ((V 1)) ((V 2)) ((V 3)) ((V 4)) ((V 5)) ((V 6)) (A1) (U1) (A2) (U2) ((J 0)) ((J 1)) ((J 2)) ((J 3)) ((J 4)) ((J 5)) ((J 6)) ((J 7)) ((J 8)) ((J 9)) ((J 10)) (pb) (pe) (ob) (oe) (b1) (e1) (b2) (e2)) (fun o w1 => o = some (.ref (r 23)) ∧ w1 = rC cI r ((V 0)) ((V 1)) ((V 2)) ((V 3)) ((V 4)) ((V 5)) ((V 6)) (A1) (U1) (A2) (U2) ((J 0)) ((J 1)) ((J 2)) ((J 3)) ((J 4)) ((J 5)) ((J 6)) ((J 7)) ((J 8)) ((J 9)) ((J 10)) (pb) (pe) (ob) (oe) (b1) (e1) (b2) (e2)) := by
  refine ef_C.of (cc := rc_M_partOf) (maxL := 4) (ret := (some (.object "ExactFractionsModel$Big"))) (by decide) rfl (Nat.le_of_ble_eq_true rfl) ?_
  intro p e s m below meth c ls hx hb hml hr hts hown hlocks hK hNX hP hD hS hl
  have hl : lv_has ls 4 [(0, .ref (r 0)), (1, .int (iv (1))), (2, .int (iv (0)))] := hl
  have hown : s.vm.findClass rR5 = some m.cls := hown
  generalize hH : s.heap = H at hP ⊢
  have hS : va_S (ef_A (rC cI r ((V 0)) ((V 1)) ((V 2)) ((V 3)) ((V 4)) ((V 5)) ((V 6)) (A1) (U1) (A2) (U2) ((J 0)) ((J 1)) ((J 2)) ((J 3)) ((J 4)) ((J 5)) ((J 6)) ((J 7)) ((J 8)) ((J 9)) ((J 10)) (pb) (pe) (ob) (oe) (b1) (e1) (b2) (e2))) s.heap H [] := by rw [← hH]; exact hS
  generalize ([] : List Loc) = locs at hS ⊢
  refine lv_iload_n hx hb rd_M_partOf_0 rfl (lv_at hl 1 rfl) ?_
  refine iw_if_ne (tgt := 11) hx hb rd_M_partOf_1 (by decide) ⟨by omega, by omega⟩ (fun c1 => ?_) (fun c1 => ?_)
  ·
    refine lv_aload_n hx hb rd_M_partOf_11 rfl (lv_at hl 0 rfl) ?_
    refine va_get (D := (dC, dI)) (ci := 5) (v := .ref (r 4)) (C := rR5) (T := rT5) (N := 7) hx hb hts (fun w h => List.mem_cons_of_mem _ (rin5 w h)) hown hK hP 0 rfl rfl 5 (by decide) (hts _ (List.mem_cons_of_mem _ rm_315)) (fun _ h9 => h9) rfl rd_M_partOf_12 ?_
    refine lv_astore_n (lv' := [(3, .ref (r 4)), (0, .ref (r 0)), (1, .int (iv (1))), (2, .int (iv (0)))]) hx hb rd_M_partOf_15 rfl hl (by decide) rfl (fun ls hl => ?_)
    refine lv_iload_n hx hb rd_M_partOf_16 rfl (lv_at hl 3 rfl) ?_
    refine iw_if_ne (tgt := 27) hx hb rd_M_partOf_17 (by decide) ⟨by omega, by omega⟩ (fun c2 => ?_) (fun c2 => ?_)
    ·
      exact absurd rfl c2
    ·
      refine lv_aload_n hx hb rd_M_partOf_20 rfl (lv_at hl 0 rfl) ?_
      refine va_getN (D := (dC, dI)) (ci := 4) (v := .ref (r 23)) (C := rR4) (T := rT4) (N := 4) hx hb hts (fun w h => List.mem_cons_of_mem _ (rin4 w h)) hown hK hP 4 rfl rfl 1 (by decide) (hNX.use rm_287 rfl) (fun _ h9 => h9) rfl rd_M_partOf_21 ?_
      refine lv_goto (tgt := 31) hx hb rd_M_partOf_24 (by decide) ?_
      exact ef_aret hx hb hr (Or.inl ⟨_, rfl⟩) (Or.inr ⟨_, rfl⟩) hlocks hP hD hS rd_M_partOf_31 (⟨rfl, rfl⟩)
  ·
    exact absurd c1 (by decide)

set_option maxRecDepth 100000 in
set_option maxHeartbeats 4000000 in
/-- partOf -/
theorem r_partOf11 (l : Launch) (dC : Nat → ClassId) (dI : Nat → Nat → Nat) {cI : ClassId} {tys : List (ClassId × FieldType)} (ht : tys[0]? = some (cI, .int)) (r : Nat → Nat) {V : Nat → Nat} {J : Nat → Nat → Nat} {A1 U1 A2 U2 : Nat} {pb pe ob oe b1 e1 b2 e2 : Int} : ef_C l ry_M_partOf rw_M_partOf ({ frames := 0, cells := 0, slots := 0, locals := 0 } : Room) [.ref (r 0), .int (iv (1)), .int (iv (1))] (dC, dI) vwCl tys (rC cI r ((V 0)) ((V 1)) ((V 2)) ((V 3)) ((V 4)) ((V 5)) ((V 6)) (A1) (U1) (A2) (U2) ((J 0)) ((J 1)) ((J 2)) ((J 3)) ((J 4)) ((J 5)) ((J 6)) ((J 7)) ((J 8)) ((J 9)) ((J 10)) (pb) (pe) (ob) (oe) (b1) (e1) (b2) (e2)) (fun o w1 => o = some (.ref (r 25)) ∧ w1 = rC cI r ((V 0)) ((V 1)) ((V 2)) ((V 3)) ((V 4)) ((V 5)) ((V 6)) (A1) (U1) (A2) (U2) ((J 0)) ((J 1)) ((J 2)) ((J 3)) ((J 4)) ((J 5)) ((J 6)) ((J 7)) ((J 8)) ((J 9)) ((J 10)) (pb) (pe) (ob) (oe) (b1) (e1) (b2) (e2)) := by
  refine ef_C.of (cc := rc_M_partOf) (maxL := 4) (ret := (some (.object "ExactFractionsModel$Big"))) (by decide) rfl (Nat.le_of_ble_eq_true rfl) ?_
  intro p e s m below meth c ls hx hb hml hr hts hown hlocks hK hNX hP hD hS hl
  have hl : lv_has ls 4 [(0, .ref (r 0)), (1, .int (iv (1))), (2, .int (iv (1)))] := hl
  have hown : s.vm.findClass rR5 = some m.cls := hown
  generalize hH : s.heap = H at hP ⊢
  have hS : va_S (ef_A (rC cI r ((V 0)) ((V 1)) ((V 2)) ((V 3)) ((V 4)) ((V 5)) ((V 6)) (A1) (U1) (A2) (U2) ((J 0)) ((J 1)) ((J 2)) ((J 3)) ((J 4)) ((J 5)) ((J 6)) ((J 7)) ((J 8)) ((J 9)) ((J 10)) (pb) (pe) (ob) (oe) (b1) (e1) (b2) (e2))) s.heap H [] := by rw [← hH]; exact hS
  generalize ([] : List Loc) = locs at hS ⊢
  refine lv_iload_n hx hb rd_M_partOf_0 rfl (lv_at hl 1 rfl) ?_
  refine iw_if_ne (tgt := 11) hx hb rd_M_partOf_1 (by decide) ⟨by omega, by omega⟩ (fun c1 => ?_) (fun c1 => ?_)
  ·
    refine lv_aload_n hx hb rd_M_partOf_11 rfl (lv_at hl 0 rfl) ?_
    refine va_get (D := (dC, dI)) (ci := 5) (v := .ref (r 4)) (C := rR5) (T := rT5) (N := 7) hx hb hts (fun w h => List.mem_cons_of_mem _ (rin5 w h)) hown hK hP 0 rfl rfl 5 (by decide) (hts _ (List.mem_cons_of_mem _ rm_315)) (fun _ h9 => h9) rfl rd_M_partOf_12 ?_
    refine lv_astore_n (lv' := [(3, .ref (r 4)), (0, .ref (r 0)), (1, .int (iv (1))), (2, .int (iv (1)))]) hx hb rd_M_partOf_15 rfl hl (by decide) rfl (fun ls hl => ?_)
    refine lv_iload_n hx hb rd_M_partOf_16 rfl (lv_at hl 3 rfl) ?_
    refine iw_if_ne (tgt := 27) hx hb rd_M_partOf_17 (by decide) ⟨by omega, by omega⟩ (fun c2 => ?_) (fun c2 => ?_)
    ·
      refine lv_aload_n hx hb rd_M_partOf_27 rfl (lv_at hl 0 rfl) ?_
      refine va_getN (D := (dC, dI)) (ci := 4) (v := .ref (r 25)) (C := rR4) (T := rT4) (N := 4) hx hb hts (fun w h => List.mem_cons_of_mem _ (rin4 w h)) hown hK hP 4 rfl rfl 2 (by decide) (hNX.use rm_288 rfl) (fun _ h9 => h9) rfl rd_M_partOf_28 ?_
      exact ef_aret hx hb hr (Or.inl ⟨_, rfl⟩) (Or.inr ⟨_, rfl⟩) hlocks hP hD hS rd_M_partOf_31 (⟨rfl, rfl⟩)
    ·
      exact absurd c2 (by decide)
  ·
    exact absurd c1 (by decide)

set_option maxRecDepth 100000 in
set_option maxHeartbeats 4000000 in
/-- Num.set(0) -/
theorem r_set0 (l : Launch) (dC : Nat → ClassId) (dI : Nat → Nat → Nat) {cI : ClassId} {tys : List (ClassId × FieldType)} (ht : tys[0]? = some (cI, .int)) (r : Nat → Nat) {V : Nat → Nat} {J : Nat → Nat → Nat} {A1 U1 A2 U2 : Nat} {pb pe ob oe b1 e1 b2 e2 : Int} (hJ : rJ V J) (kA1 : bk A1 (J 7)) (kU1 : bk U1 (J 8)) (kA2 : bk A2 (J 9)) (kU2 : bk U2 (J 10)) (mA1 : dn A1 ≤ 300) (mU1 : dn U1 ≤ 300) (mA2 : dn A2 ≤ 300) (mU2 : dn U2 ≤ 300) : ef_C l ry_N_set rw_N_set ({ frames := 1, cells := 0, slots := 0, locals := 24 } : Room) [.ref (r 3), .long (jv (0))] (dC, dI) vwCl tys (rC cI r ((V 0)) ((V 1)) ((V 2)) ((V 3)) ((V 4)) ((V 5)) ((V 6)) (A1) (U1) (A2) (U2) ((J 0)) ((J 1)) ((J 2)) ((J 3)) ((J 4)) ((J 5)) ((J 6)) ((J 7)) ((J 8)) ((J 9)) ((J 10)) (pb) (pe) (ob) (oe) (b1) (e1) (b2) (e2)) (fun o w1 => ∃ (V2 : Nat → Nat) (J2 : Nat → Nat → Nat) (pb2 pe2 ob2 oe2 : Int), o = none ∧ w1 = rC cI r (V2 0) (V2 1) (V2 2) (V2 3) (V2 4) (V2 5) (V2 6) (0) (1) (A2) (U2) (J2 0) (J2 1) (J2 2) (J2 3) (J2 4) (J2 5) (J2 6) (J2 7) (J2 8) (J2 9) (J2 10) (pb2) (pe2) (ob2) (oe2) (0) (0) (b2) (e2) ∧ rJ V2 J2 ∧ bk (0) (J2 7) ∧ bk (1) (J2 8) ∧ bk (A2) (J2 9) ∧ bk (U2) (J2 10)) := by
  refine ef_C.of (cc := rc_N_set) (maxL := 3) (ret := none) (by decide) rfl (Nat.le_of_ble_eq_true rfl) ?_
  intro p e s m below meth c ls hx hb hml hr hts hown hlocks hK hNX hP hD hS hl
  have hl : lv_has ls 3 [(0, .ref (r 3)), (1, .long (jv (0)))] := hl
  have hown : s.vm.findClass rR4 = some m.cls := hown
  generalize hH : s.heap = H at hP ⊢
  have hS : va_S (ef_A (rC cI r ((V 0)) ((V 1)) ((V 2)) ((V 3)) ((V 4)) ((V 5)) ((V 6)) (A1) (U1) (A2) (U2) ((J 0)) ((J 1)) ((J 2)) ((J 3)) ((J 4)) ((J 5)) ((J 6)) ((J 7)) ((J 8)) ((J 9)) ((J 10)) (pb) (pe) (ob) (oe) (b1) (e1) (b2) (e2))) s.heap H [] := by rw [← hH]; exact hS
  generalize ([] : List Loc) = locs at hS ⊢
  refine lv_aload_n hx hb rd_N_set_0 rfl (lv_at hl 0 rfl) ?_
  refine lv_lload_n hx hb rd_N_set_1 rfl (lv_at hl 1 rfl) ?_
  refine lv_lconst (v := jv (0)) hx hb rd_N_set_2 (by decide) ?_
  refine iw_lcmp hx hb (⟨by omega, by omega⟩) (⟨by omega, by omega⟩) rd_N_set_3 ?_
  refine iw_if_ge (tgt := 11) hx hb rd_N_set_4 (by decide) (ir_zc _ _) (fun c1 => ?_) (fun c1 => ?_)
  ·
    refine lv_iconst (v := iv (0)) hx hb rd_N_set_11 (by decide) ?_
    refine va_put (D := (dC, dI)) (ci := 4) (v := .int (iv (0))) (ty := .boolean) (C := rR4) (T := rT4) (N := 4) hx hb hts (fun w h => List.mem_cons_of_mem _ (rin4 w h)) rty4 rtyok4 rnm4 hown hK hP hD hS 3 rfl rfl 0 (by decide) (hts _ (List.mem_cons_of_mem _ rm_284)) (fun _ h9 => h9) rfl (by decide +kernel) rfl rfl (Nat.le_of_ble_eq_true rfl) rd_N_set_12 (fun H locs hP hD hS => ?_)
    have hP : va_P (dC, dI) vwCl (rC cI r ((V 0)) ((V 1)) ((V 2)) ((V 3)) ((V 4)) ((V 5)) ((V 6)) (A1) (U1) (A2) (U2) ((J 0)) ((J 1)) ((J 2)) ((J 3)) ((J 4)) ((J 5)) ((J 6)) ((J 7)) ((J 8)) ((J 9)) ((J 10)) (pb) (pe) (ob) (oe) (0) (e1) (b2) (e2)) H := hP
    have hD : va_D (ef_A (rC cI r ((V 0)) ((V 1)) ((V 2)) ((V 3)) ((V 4)) ((V 5)) ((V 6)) (A1) (U1) (A2) (U2) ((J 0)) ((J 1)) ((J 2)) ((J 3)) ((J 4)) ((J 5)) ((J 6)) ((J 7)) ((J 8)) ((J 9)) ((J 10)) (pb) (pe) (ob) (oe) (b1) (e1) (b2) (e2))) (rC cI r ((V 0)) ((V 1)) ((V 2)) ((V 3)) ((V 4)) ((V 5)) ((V 6)) (A1) (U1) (A2) (U2) ((J 0)) ((J 1)) ((J 2)) ((J 3)) ((J 4)) ((J 5)) ((J 6)) ((J 7)) ((J 8)) ((J 9)) ((J 10)) (pb) (pe) (ob) (oe) (0) (e1) (b2) (e2)) := hD
    refine lv_aload_n hx hb rd_N_set_15 rfl (lv_at hl 0 rfl) ?_
    refine va_get (D := (dC, dI)) (ci := 4) (v := .ref (r 19)) (C := rR4) (T := rT4) (N := 4) hx hb hts (fun w h => List.mem_cons_of_mem _ (rin4 w h)) hown hK hP 3 rfl rfl 1 (by decide) (hts _ (List.mem_cons_of_mem _ rm_286)) (fun _ h9 => h9) rfl rd_N_set_16 ?_
    refine lv_lload_n hx hb rd_N_set_19 rfl (lv_at hl 1 rfl) ?_
    refine lv_lconst (v := jv (0)) hx hb rd_N_set_20 (by decide) ?_
    refine iw_lcmp hx hb (⟨by omega, by omega⟩) (⟨by omega, by omega⟩) rd_N_set_21 ?_
    refine iw_if_ge (tgt := 30) hx hb rd_N_set_22 (by decide) (ir_zc _ _) (fun c2 => ?_) (fun c2 => ?_)
    ·
      refine lv_lload_n hx hb rd_N_set_30 rfl (lv_at hl 1 rfl) ?_
      refine iw_topl (y := jv (((0 : Nat) : Int))) (congrArg jv (by rfl : ((0) : Int) = (((0 : Nat) : Int)))) ?_
      refine ef_callV (As := [.long (jv (((0 : Nat) : Int)))]) (rest := []) ⟨hx, hb, hml, hown, hts⟩ (b_set l dC dI ht (isB_c (X := A1) (F := (J 7)) (ws := rC cI r ((V 0)) ((V 1)) ((V 2)) ((V 3)) ((V 4)) ((V 5)) ((V 6)) (A1) (U1) (A2) (U2) ((J 0)) ((J 1)) ((J 2)) ((J 3)) ((J 4)) ((J 5)) ((J 6)) ((J 7)) ((J 8)) ((J 9)) ((J 10)) (pb) (pe) (ob) (oe) (0) (e1) (b2) (e2)) (k0 := 19) (k1 := 20) (by decide) rfl rfl) 0 (by decide)) (cwV 1 hts (ef_goodV rm_305 rm_306 rm_307 rm_25 rm_308) rfl rfl rfl (by decide +kernel) ⟨Nat.le_of_ble_eq_true rfl, Nat.le_of_ble_eq_true rfl⟩) hK hNX hP hD hS 19 rfl rfl rfl rfl hl.1 rfl (Nat.le_of_ble_eq_true rfl) rd_N_set_31 ⟨Nat.zero_le _, Nat.zero_le _⟩ (fun o w1 H locs hq hP hD hS => ?_)
      obtain ⟨rfl, g_1, rfl, hg_2⟩ := hq
      have hP : va_P (dC, dI) vwCl (rC cI r ((V 0)) ((V 1)) ((V 2)) ((V 3)) ((V 4)) ((V 5)) ((V 6)) (0) (U1) (A2) (U2) ((J 0)) ((J 1)) ((J 2)) ((J 3)) ((J 4)) ((J 5)) ((J 6)) (g_1) ((J 8)) ((J 9)) ((J 10)) (pb) (pe) (ob) (oe) (0) (e1) (b2) (e2)) H := hP
      have hD : va_D (ef_A (rC cI r ((V 0)) ((V 1)) ((V 2)) ((V 3)) ((V 4)) ((V 5)) ((V 6)) (A1) (U1) (A2) (U2) ((J 0)) ((J 1)) ((J 2)) ((J 3)) ((J 4)) ((J 5)) ((J 6)) ((J 7)) ((J 8)) ((J 9)) ((J 10)) (pb) (pe) (ob) (oe) (b1) (e1) (b2) (e2))) (rC cI r ((V 0)) ((V 1)) ((V 2)) ((V 3)) ((V 4)) ((V 5)) ((V 6)) (0) (U1) (A2) (U2) ((J 0)) ((J 1)) ((J 2)) ((J 3)) ((J 4)) ((J 5)) ((J 6)) (g_1) ((J 8)) ((J 9)) ((J 10)) (pb) (pe) (ob) (oe) (0) (e1) (b2) (e2)) := hD
      have hg_2 : bk (0) g_1 := ⟨hg_2, by decide⟩
      refine W.eq (g2 := F0 m 34 ls []) rfl ?_
      refine lv_aload_n hx hb rd_N_set_34 rfl (lv_at hl 0 rfl) ?_
      refine va_get (D := (dC, dI)) (ci := 4) (v := .ref (r 21)) (C := rR4) (T := rT4) (N := 4) hx hb hts (fun w h => List.mem_cons_of_mem _ (rin4 w h)) hown hK hP 3 rfl rfl 2 (by decide) (hts _ (List.mem_cons_of_mem _ rm_289)) (fun _ h9 => h9) rfl rd_N_set_35 ?_
      refine lv_lconst (v := jv (1)) hx hb rd_N_set_38 (by decide) ?_
      refine iw_topl (y := jv (((1 : Nat) : Int))) (congrArg jv (by rfl : ((1) : Int) = (((1 : Nat) : Int)))) ?_
      refine ef_callV (As := [.long (jv (((1 : Nat) : Int)))]) (rest := []) ⟨hx, hb, hml, hown, hts⟩ (b_set l dC dI ht (isB_c (X := U1) (F := (J 8)) (ws := rC cI r ((V 0)) ((V 1)) ((V 2)) ((V 3)) ((V 4)) ((V 5)) ((V 6)) (0) (U1) (A2) (U2) ((J 0)) ((J 1)) ((J 2)) ((J 3)) ((J 4)) ((J 5)) ((J 6)) (g_1) ((J 8)) ((J 9)) ((J 10)) (pb) (pe) (ob) (oe) (0) (e1) (b2) (e2)) (k0 := 21) (k1 := 22) (by decide) rfl rfl) 1 (by decide)) (cwV 1 hts (ef_goodV rm_305 rm_306 rm_307 rm_25 rm_308) rfl rfl rfl (by decide +kernel) ⟨Nat.le_of_ble_eq_true rfl, Nat.le_of_ble_eq_true rfl⟩) hK hNX hP hD hS 21 rfl rfl rfl rfl hl.1 rfl (Nat.le_of_ble_eq_true rfl) rd_N_set_39 ⟨Nat.zero_le _, Nat.zero_le _⟩ (fun o w1 H locs hq hP hD hS => ?_)
      obtain ⟨rfl, g_3, rfl, hg_4⟩ := hq
      have hP : va_P (dC, dI) vwCl (rC cI r ((V 0)) ((V 1)) ((V 2)) ((V 3)) ((V 4)) ((V 5)) ((V 6)) (0) (1) (A2) (U2) ((J 0)) ((J 1)) ((J 2)) ((J 3)) ((J 4)) ((J 5)) ((J 6)) (g_1) (g_3) ((J 9)) ((J 10)) (pb) (pe) (ob) (oe) (0) (e1) (b2) (e2)) H := hP
      have hD : va_D (ef_A (rC cI r ((V 0)) ((V 1)) ((V 2)) ((V 3)) ((V 4)) ((V 5)) ((V 6)) (A1) (U1) (A2) (U2) ((J 0)) ((J 1)) ((J 2)) ((J 3)) ((J 4)) ((J 5)) ((J 6)) ((J 7)) ((J 8)) ((J 9)) ((J 10)) (pb) (pe) (ob) (oe) (b1) (e1) (b2) (e2))) (rC cI r ((V 0)) ((V 1)) ((V 2)) ((V 3)) ((V 4)) ((V 5)) ((V 6)) (0) (1) (A2) (U2) ((J 0)) ((J 1)) ((J 2)) ((J 3)) ((J 4)) ((J 5)) ((J 6)) (g_1) (g_3) ((J 9)) ((J 10)) (pb) (pe) (ob) (oe) (0) (e1) (b2) (e2)) := hD
      have hg_4 : bk (1) g_3 := ⟨hg_4, by decide⟩
      refine W.eq (g2 := F0 m 42 ls []) rfl ?_
      refine lv_aload_n hx hb rd_N_set_42 rfl (lv_at hl 0 rfl) ?_
      refine lv_iconst (v := iv (0)) hx hb rd_N_set_43 (by decide) ?_
      refine va_put (D := (dC, dI)) (ci := 4) (v := .int (iv (0))) (ty := .int) (C := rR4) (T := rT4) (N := 4) hx hb hts (fun w h => List.mem_cons_of_mem _ (rin4 w h)) rty4 rtyok4 rnm4 hown hK hP hD hS 3 rfl rfl 3 (by decide) (hts _ (List.mem_cons_of_mem _ rm_291)) (fun _ h9 => h9) rfl (by decide +kernel) rfl rfl (Nat.le_of_ble_eq_true rfl) rd_N_set_44 (fun H locs hP hD hS => ?_)
      have hP : va_P (dC, dI) vwCl (rC cI r ((V 0)) ((V 1)) ((V 2)) ((V 3)) ((V 4)) ((V 5)) ((V 6)) (0) (1) (A2) (U2) ((J 0)) ((J 1)) ((J 2)) ((J 3)) ((J 4)) ((J 5)) ((J 6)) (g_1) (g_3) ((J 9)) ((J 10)) (pb) (pe) (ob) (oe) (0) (0) (b2) (e2)) H := hP
      have hD : va_D (ef_A (rC cI r ((V 0)) ((V 1)) ((V 2)) ((V 3)) ((V 4)) ((V 5)) ((V 6)) (A1) (U1) (A2) (U2) ((J 0)) ((J 1)) ((J 2)) ((J 3)) ((J 4)) ((J 5)) ((J 6)) ((J 7)) ((J 8)) ((J 9)) ((J 10)) (pb) (pe) (ob) (oe) (b1) (e1) (b2) (e2))) (rC cI r ((V 0)) ((V 1)) ((V 2)) ((V 3)) ((V 4)) ((V 5)) ((V 6)) (0) (1) (A2) (U2) ((J 0)) ((J 1)) ((J 2)) ((J 3)) ((J 4)) ((J 5)) ((J 6)) (g_1) (g_3) ((J 9)) ((J 10)) (pb) (pe) (ob) (oe) (0) (0) (b2) (e2)) := hD
      exact ef_vret hx hb hr hlocks hP hD hS rd_N_set_47 (⟨fun i => [((V 0)), ((V 1)), ((V 2)), ((V 3)), ((V 4)), ((V 5)), ((V 6))].getD i 0, fun i => [((J 0)), ((J 1)), ((J 2)), ((J 3)), ((J 4)), ((J 5)), ((J 6)), (g_1), (g_3), ((J 9)), ((J 10))].getD i (fun _ => 0), _, _, _, _, rfl, rfl, rJ_of (hJ 0 (by decide)) (hJ 1 (by decide)) (hJ 2 (by decide)) (hJ 3 (by decide)) (hJ 4 (by decide)) (hJ 5 (by decide)) (hJ 6 (by decide)), hg_2, hg_4, kA2, kU2⟩)
    ·
      exact absurd ((zc_ge 0 0).2 (by decide)) (by omega)
  ·
    exact absurd ((zc_ge 0 0).2 (by decide)) (by omega)

set_option maxRecDepth 100000 in
set_option maxHeartbeats 4000000 in
/-- Num.set(0) -/
theorem r_set1 (l : Launch) (dC : Nat → ClassId) (dI : Nat → Nat → Nat) {cI : ClassId} {tys : List (ClassId × FieldType)} (ht : tys[0]? = some (cI, .int)) (r : Nat → Nat) {V : Nat → Nat} {J : Nat → Nat → Nat} {A1 U1 A2 U2 : Nat} {pb pe ob oe b1 e1 b2 e2 : Int} (hJ : rJ V J) (kA1 : bk A1 (J 7)) (kU1 : bk U1 (J 8)) (kA2 : bk A2 (J 9)) (kU2 : bk U2 (J 10)) (mA1 : dn A1 ≤ 300) (mU1 : dn U1 ≤ 300) (mA2 : dn A2 ≤ 300) (mU2 : dn U2 ≤ 300) : ef_C l ry_N_set rw_N_set ({ frames := 1, cells := 0, slots := 0, locals := 24 } : Room) [.ref (r 4), .long (jv (0))] (dC, dI) vwCl tys (rC cI r ((V 0)) ((V 1)) ((V 2)) ((V 3)) ((V 4)) ((V 5)) ((V 6)) (A1) (U1) (A2) (U2) ((J 0)) ((J 1)) ((J 2)) ((J 3)) ((J 4)) ((J 5)) ((J 6)) ((J 7)) ((J 8)) ((J 9)) ((J 10)) (pb) (pe) (ob) (oe) (b1) (e1) (b2) (e2)) (fun o w1 => ∃ (V2 : Nat → Nat) (J2 : Nat → Nat → Nat) (pb2 pe2 ob2 oe2 : Int), o = none ∧ w1 = rC cI r (V2 0) (V2 1) (V2 2) (V2 3) (V2 4) (V2 5) (V2 6) (A1) (U1) (0) (1) (J2 0) (J2 1) (J2 2) (J2 3) (J2 4) (J2 5) (J2 6) (J2 7) (J2 8) (J2 9) (J2 10) (pb2) (pe2) (ob2) (oe2) (b1) (e1) (0) (0) ∧ rJ V2 J2 ∧ bk (A1) (J2 7) ∧ bk (U1) (J2 8) ∧ bk (0) (J2 9) ∧ bk (1) (J2 10)) := by
  refine ef_C.of (cc := rc_N_set) (maxL := 3) (ret := none) (by decide) rfl (Nat.le_of_ble_eq_true rfl) ?_
  intro p e s m below meth c ls hx hb hml hr hts hown hlocks hK hNX hP hD hS hl
  have hl : lv_has ls 3 [(0, .ref (r 4)), (1, .long (jv (0)))] := hl
  have hown : s.vm.findClass rR4 = some m.cls := hown
  generalize hH : s.heap = H at hP ⊢
  have hS : va_S (ef_A (rC cI r ((V 0)) ((V 1)) ((V 2)) ((V 3)) ((V 4)) ((V 5)) ((V 6)) (A1) (U1) (A2) (U2) ((J 0)) ((J 1)) ((J 2)) ((J 3)) ((J 4)) ((J 5)) ((J 6)) ((J 7)) ((J 8)) ((J 9)) ((J 10)) (pb) (pe) (ob) (oe) (b1) (e1) (b2) (e2))) s.heap H [] := by rw [← hH]; exact hS
  generalize ([] : List Loc) = locs at hS ⊢
  refine lv_aload_n hx hb rd_N_set_0 rfl (lv_at hl 0 rfl) ?_
  refine lv_lload_n hx hb rd_N_set_1 rfl (lv_at hl 1 rfl) ?_
  refine lv_lconst (v := jv (0)) hx hb rd_N_set_2 (by decide) ?_
  refine iw_lcmp hx hb (⟨by omega, by omega⟩) (⟨by omega, by omega⟩) rd_N_set_3 ?_
  refine iw_if_ge (tgt := 11) hx hb rd_N_set_4 (by decide) (ir_zc _ _) (fun c1 => ?_) (fun c1 => ?_)
  ·
    refine lv_iconst (v := iv (0)) hx hb rd_N_set_11 (by decide) ?_
    refine va_put (D := (dC, dI)) (ci := 4) (v := .int (iv (0))) (ty := .boolean) (C := rR4) (T := rT4) (N := 4) hx hb hts (fun w h => List.mem_cons_of_mem _ (rin4 w h)) rty4 rtyok4 rnm4 hown hK hP hD hS 4 rfl rfl 0 (by decide) (hts _ (List.mem_cons_of_mem _ rm_284)) (fun _ h9 => h9) rfl (by decide +kernel) rfl rfl (Nat.le_of_ble_eq_true rfl) rd_N_set_12 (fun H locs hP hD hS => ?_)
    have hP : va_P (dC, dI) vwCl (rC cI r ((V 0)) ((V 1)) ((V 2)) ((V 3)) ((V 4)) ((V 5)) ((V 6)) (A1) (U1) (A2) (U2) ((J 0)) ((J 1)) ((J 2)) ((J 3)) ((J 4)) ((J 5)) ((J 6)) ((J 7)) ((J 8)) ((J 9)) ((J 10)) (pb) (pe) (ob) (oe) (b1) (e1) (0) (e2)) H := hP
    have hD : va_D (ef_A (rC cI r ((V 0)) ((V 1)) ((V 2)) ((V 3)) ((V 4)) ((V 5)) ((V 6)) (A1) (U1) (A2) (U2) ((J 0)) ((J 1)) ((J 2)) ((J 3)) ((J 4)) ((J 5)) ((J 6)) ((J 7)) ((J 8)) ((J 9)) ((J 10)) (pb) (pe) (ob) (oe) (b1) (e1) (b2) (e2))) (rC cI r ((V 0)) ((V 1)) ((V 2)) ((V 3)) ((V 4)) ((V 5)) ((V 6)) (A1) (U1) (A2) (U2) ((J 0)) ((J 1)) ((J 2)) ((J 3)) ((J 4)) ((J 5)) ((J 6)) ((J 7)) ((J 8)) ((J 9)) ((J 10)) (pb) (pe) (ob) (oe) (b1) (e1) (0) (e2)) := hD
    refine lv_aload_n hx hb rd_N_set_15 rfl (lv_at hl 0 rfl) ?_
    refine va_get (D := (dC, dI)) (ci := 4) (v := .ref (r 23)) (C := rR4) (T := rT4) (N := 4) hx hb hts (fun w h => List.mem_cons_of_mem _ (rin4 w h)) hown hK hP 4 rfl rfl 1 (by decide) (hts _ (List.mem_cons_of_mem _ rm_286)) (fun _ h9 => h9) rfl rd_N_set_16 ?_
    refine lv_lload_n hx hb rd_N_set_19 rfl (lv_at hl 1 rfl) ?_
    refine lv_lconst (v := jv (0)) hx hb rd_N_set_20 (by decide) ?_
    refine iw_lcmp hx hb (⟨by omega, by omega⟩) (⟨by omega, by omega⟩) rd_N_set_21 ?_
    refine iw_if_ge (tgt := 30) hx hb rd_N_set_22 (by decide) (ir_zc _ _) (fun c2 => ?_) (fun c2 => ?_)
    ·
      refine lv_lload_n hx hb rd_N_set_30 rfl (lv_at hl 1 rfl) ?_
      refine iw_topl (y := jv (((0 : Nat) : Int))) (congrArg jv (by rfl : ((0) : Int) = (((0 : Nat) : Int)))) ?_
      refine ef_callV (As := [.long (jv (((0 : Nat) : Int)))]) (rest := []) ⟨hx, hb, hml, hown, hts⟩ (b_set l dC dI ht (isB_c (X := A2) (F := (J 9)) (ws := rC cI r ((V 0)) ((V 1)) ((V 2)) ((V 3)) ((V 4)) ((V 5)) ((V 6)) (A1) (U1) (A2) (U2) ((J 0)) ((J 1)) ((J 2)) ((J 3)) ((J 4)) ((J 5)) ((J 6)) ((J 7)) ((J 8)) ((J 9)) ((J 10)) (pb) (pe) (ob) (oe) (b1) (e1) (0) (e2)) (k0 := 23) (k1 := 24) (by decide) rfl rfl) 0 (by decide)) (cwV 1 hts (ef_goodV rm_305 rm_306 rm_307 rm_25 rm_308) rfl rfl rfl (by decide +kernel) ⟨Nat.le_of_ble_eq_true rfl, Nat.le_of_ble_eq_true rfl⟩) hK hNX hP hD hS 23 rfl rfl rfl rfl hl.1 rfl (Nat.le_of_ble_eq_true rfl) rd_N_set_31 ⟨Nat.zero_le _, Nat.zero_le _⟩ (fun o w1 H locs hq hP hD hS => ?_)
      obtain ⟨rfl, g_1, rfl, hg_2⟩ := hq
      have hP : va_P (dC, dI) vwCl (rC cI r ((V 0)) ((V 1)) ((V 2)) ((V 3)) ((V 4)) ((V 5)) ((V 6)) (A1) (U1) (0) (U2) ((J 0)) ((J 1)) ((J 2)) ((J 3)) ((J 4)) ((J 5)) ((J 6)) ((J 7)) ((J 8)) (g_1) ((J 10)) (pb) (pe) (ob) (oe) (b1) (e1) (0) (e2)) H := hP
      have hD : va_D (ef_A (rC cI r ((V 0)) ((V 1)) ((V 2)) ((V 3)) ((V 4)) ((V 5)) ((V 6)) (A1) (U1) (A2) (U2) ((J 0)) ((J 1)) ((J 2)) ((J 3)) ((J 4)) ((J 5)) ((J 6)) ((J 7)) ((J 8)) ((J 9)) ((J 10)) (pb) (pe) (ob) (oe) (b1) (e1) (b2) (e2))) (rC cI r ((V 0)) ((V 1)) ((V 2)) ((V 3)) ((V 4)) ((V 5)) ((V 6)) (A1) (U1) (0) (U2) ((J 0)) ((J 1)) ((J 2)) ((J 3)) ((J 4)) ((J 5)) ((J 6)) ((J 7)) ((J 8)) (g_1) ((J 10)) (pb) (pe) (ob) (oe) (b1) (e1) (0) (e2)) := hD
      have hg_2 : bk (0) g_1 := ⟨hg_2, by decide⟩
      refine W.eq (g2 := F0 m 34 ls []) rfl ?_
      refine lv_aload_n hx hb rd_N_set_34 rfl (lv_at hl 0 rfl) ?_
      refine va_get (D := (dC, dI)) (ci := 4) (v := .ref (r 25)) (C := rR4) (T := rT4) (N := 4) hx hb hts (fun w h => List.mem_cons_of_mem _ (rin4 w h)) hown hK hP 4 rfl rfl 2 (by decide) (hts _ (List.mem_cons_of_mem _ rm_289)) (fun _ h9 => h9) rfl rd_N_set_35 ?_
      refine lv_lconst (v := jv (1)) hx hb rd_N_set_38 (by decide) ?_
      refine iw_topl (y := jv (((1 : Nat) : Int))) (congrArg jv (by rfl : ((1) : Int) = (((1 : Nat) : Int)))) ?_
      refine ef_callV (As := [.long (jv (((1 : Nat) : Int)))]) (rest := []) ⟨hx, hb, hml, hown, hts⟩ (b_set l dC dI ht (isB_c (X := U2) (F := (J 10)) (ws := rC cI r ((V 0)) ((V 1)) ((V 2)) ((V 3)) ((V 4)) ((V 5)) ((V 6)) (A1) (U1) (0) (U2) ((J 0)) ((J 1)) ((J 2)) ((J 3)) ((J 4)) ((J 5)) ((J 6)) ((J 7)) ((J 8)) (g_1) ((J 10)) (pb) (pe) (ob) (oe) (b1) (e1) (0) (e2)) (k0 := 25) (k1 := 26) (by decide) rfl rfl) 1 (by decide)) (cwV 1 hts (ef_goodV rm_305 rm_306 rm_307 rm_25 rm_308) rfl rfl rfl (by decide +kernel) ⟨Nat.le_of_ble_eq_true rfl, Nat.le_of_ble_eq_true rfl⟩) hK hNX hP hD hS 25 rfl rfl rfl rfl hl.1 rfl (Nat.le_of_ble_eq_true rfl) rd_N_set_39 ⟨Nat.zero_le _, Nat.zero_le _⟩ (fun o w1 H locs hq hP hD hS => ?_)
      obtain ⟨rfl, g_3, rfl, hg_4⟩ := hq
      have hP : va_P (dC, dI) vwCl (rC cI r ((V 0)) ((V 1)) ((V 2)) ((V 3)) ((V 4)) ((V 5)) ((V 6)) (A1) (U1) (0) (1) ((J 0)) ((J 1)) ((J 2)) ((J 3)) ((J 4)) ((J 5)) ((J 6)) ((J 7)) ((J 8)) (g_1) (g_3) (pb) (pe) (ob) (oe) (b1) (e1) (0) (e2)) H := hP
      have hD : va_D (ef_A (rC cI r ((V 0)) ((V 1)) ((V 2)) ((V 3)) ((V 4)) ((V 5)) ((V 6)) (A1) (U1) (A2) (U2) ((J 0)) ((J 1)) ((J 2)) ((J 3)) ((J 4)) ((J 5)) ((J 6)) ((J 7)) ((J 8)) ((J 9)) ((J 10)) (pb) (pe) (ob) (oe) (b1) (e1) (b2) (e2))) (rC cI r ((V 0)) ((V 1)) ((V 2)) ((V 3)) ((V 4)) ((V 5)) ((V 6)) (A1) (U1) (0) (1) ((J 0)) ((J 1)) ((J 2)) ((J 3)) ((J 4)) ((J 5)) ((J 6)) ((J 7)) ((J 8)) (g_1) (g_3) (pb) (pe) (ob) (oe) (b1) (e1) (0) (e2)) := hD
      have hg_4 : bk (1) g_3 := ⟨hg_4, by decide⟩
      refine W.eq (g2 := F0 m 42 ls []) rfl ?_
      refine lv_aload_n hx hb rd_N_set_42 rfl (lv_at hl 0 rfl) ?_
      refine lv_iconst (v := iv (0)) hx hb rd_N_set_43 (by decide) ?_
      refine va_put (D := (dC, dI)) (ci := 4) (v := .int (iv (0))) (ty := .int) (C := rR4) (T := rT4) (N := 4) hx hb hts (fun w h => List.mem_cons_of_mem _ (rin4 w h)) rty4 rtyok4 rnm4 hown hK hP hD hS 4 rfl rfl 3 (by decide) (hts _ (List.mem_cons_of_mem _ rm_291)) (fun _ h9 => h9) rfl (by decide +kernel) rfl rfl (Nat.le_of_ble_eq_true rfl) rd_N_set_44 (fun H locs hP hD hS => ?_)
      have hP : va_P (dC, dI) vwCl (rC cI r ((V 0)) ((V 1)) ((V 2)) ((V 3)) ((V 4)) ((V 5)) ((V 6)) (A1) (U1) (0) (1) ((J 0)) ((J 1)) ((J 2)) ((J 3)) ((J 4)) ((J 5)) ((J 6)) ((J 7)) ((J 8)) (g_1) (g_3) (pb) (pe) (ob) (oe) (b1) (e1) (0) (0)) H := hP
      have hD : va_D (ef_A (rC cI r ((V 0)) ((V 1)) ((V 2)) ((V 3)) ((V 4)) ((V 5)) ((V 6)) (A1) (U1) (A2) (U2) ((J 0)) ((J 1)) ((J 2)) ((J 3)) ((J 4)) ((J 5)) ((J 6)) ((J 7)) ((J 8)) ((J 9)) ((J 10)) (pb) (pe) (ob) (oe) (b1) (e1) (b2) (e2))) (rC cI r ((V 0)) ((V 1)) ((V 2)) ((V 3)) ((V 4)) ((V 5)) ((V 6)) (A1) (U1) (0) (1) ((J 0)) ((J 1)) ((J 2)) ((J 3)) ((J 4)) ((J 5)) ((J 6)) ((J 7)) ((J 8)) (g_1) (g_3) (pb) (pe) (ob) (oe) (b1) (e1) (0) (0)) := hD
      exact ef_vret hx hb hr hlocks hP hD hS rd_N_set_47 (⟨fun i => [((V 0)), ((V 1)), ((V 2)), ((V 3)), ((V 4)), ((V 5)), ((V 6))].getD i 0, fun i => [((J 0)), ((J 1)), ((J 2)), ((J 3)), ((J 4)), ((J 5)), ((J 6)), ((J 7)), ((J 8)), (g_1), (g_3)].getD i (fun _ => 0), _, _, _, _, rfl, rfl, rJ_of (hJ 0 (by decide)) (hJ 1 (by decide)) (hJ 2 (by decide)) (hJ 3 (by decide)) (hJ 4 (by decide)) (hJ 5 (by decide)) (hJ 6 (by decide)), kA1, kU1, hg_2, hg_4⟩)
    ·
      exact absurd ((zc_ge 0 0).2 (by decide)) (by omega)
  ·
    exact absurd ((zc_ge 0 0).2 (by decide)) (by omega)

set_option maxRecDepth 100000 in
set_option maxHeartbeats 4000000 in
/-- Num.sign -/
theorem r_signP (l : Launch) (dC : Nat → ClassId) (dI : Nat → Nat → Nat) {cI : ClassId} {tys : List (ClassId × FieldType)} (ht : tys[0]? = some (cI, .int)) (r : Nat → Nat) {V : Nat → Nat} {J : Nat → Nat → Nat} {A1 U1 A2 U2 : Nat} {pb pe ob oe b1 e1 b2 e2 : Int} (hJ : rJ V J) (kA1 : bk A1 (J 7)) (kU1 : bk U1 (J 8)) (kA2 : bk A2 (J 9)) (kU2 : bk U2 (J 10)) (mA1 : dn A1 ≤ 300) (mU1 : dn U1 ≤ 300) (mA2 : dn A2 ≤ 300) (mU2 : dn U2 ≤ 300) (hbo : pb = 0 ∨ pb = 1) : ef_C l ry_N_sign rw_N_sign ({ frames := 0, cells := 0, slots := 0, locals := 0 } : Room) [.ref (r 1)] (dC, dI) vwCl tys (rC cI r ((V 0)) ((V 1)) ((V 2)) ((V 3)) ((V 4)) ((V 5)) ((V 6)) (A1) (U1) (A2) (U2) ((J 0)) ((J 1)) ((J 2)) ((J 3)) ((J 4)) ((J 5)) ((J 6)) ((J 7)) ((J 8)) ((J 9)) ((J 10)) (pb) (pe) (ob) (oe) (b1) (e1) (b2) (e2)) (fun o w1 => o = some (.int (iv (sgn (V 3) pb))) ∧ w1 = rC cI r ((V 0)) ((V 1)) ((V 2)) ((V 3)) ((V 4)) ((V 5)) ((V 6)) (A1) (U1) (A2) (U2) ((J 0)) ((J 1)) ((J 2)) ((J 3)) ((J 4)) ((J 5)) ((J 6)) ((J 7)) ((J 8)) ((J 9)) ((J 10)) (pb) (pe) (ob) (oe) (b1) (e1) (b2) (e2)) := by
  refine ef_C.of (cc := rc_N_sign) (maxL := 1) (ret := (some .int)) (by decide) rfl (Nat.le_of_ble_eq_true rfl) ?_
  intro p e s m below meth c ls hx hb hml hr hts hown hlocks hK hNX hP hD hS hl
  have hl : lv_has ls 1 [(0, .ref (r 1))] := hl
  have hown : s.vm.findClass rR4 = some m.cls := hown
  generalize hH : s.heap = H at hP ⊢
  have hS : va_S (ef_A (rC cI r ((V 0)) ((V 1)) ((V 2)) ((V 3)) ((V 4)) ((V 5)) ((V 6)) (A1) (U1) (A2) (U2) ((J 0)) ((J 1)) ((J 2)) ((J 3)) ((J 4)) ((J 5)) ((J 6)) ((J 7)) ((J 8)) ((J 9)) ((J 10)) (pb) (pe) (ob) (oe) (b1) (e1) (b2) (e2))) s.heap H [] := by rw [← hH]; exact hS
  generalize ([] : List Loc) = locs at hS ⊢
  have hbr : ir pb := by rcases hbo with h | h <;> rw [h] <;> exact ⟨by decide, by decide⟩
  have hnb := (hJ 3 (by decide)).2
  refine lv_aload_n hx hb rd_N_sign_0 rfl (lv_at hl 0 rfl) ?_
  refine va_get (D := (dC, dI)) (ci := 4) (v := .ref (r 11)) (C := rR4) (T := rT4) (N := 4) hx hb hts (fun w h => List.mem_cons_of_mem _ (rin4 w h)) hown hK hP 1 rfl rfl 1 (by decide) (hts _ (List.mem_cons_of_mem _ rm_286)) (fun _ h9 => h9) rfl rd_N_sign_1 ?_
  refine va_getN (D := (dC, dI)) (ci := 3) (v := .int (iv ((dn ((V 3)) : Int)))) (C := rR3) (T := rT3) (N := 2) hx hb hts (fun w h => List.mem_cons_of_mem _ (rin3 w h)) hown hK hP 11 rfl rfl 1 (by decide) (hNX.use rm_269 rfl) (fun _ h9 => h9) rfl rd_N_sign_4 ?_
  refine iw_if_ne (tgt := 14) hx hb rd_N_sign_7 (by decide) ⟨by omega, by omega⟩ (fun c1 => ?_) (fun c1 => ?_)
  ·
    have hA0 : (V 3) ≠ 0 := fun q => c1 (by rw [dn_0.2 q]; rfl)
    refine lv_aload_n hx hb rd_N_sign_14 rfl (lv_at hl 0 rfl) ?_
    refine va_get (D := (dC, dI)) (ci := 4) (v := .int (iv (pb))) (C := rR4) (T := rT4) (N := 4) hx hb hts (fun w h => List.mem_cons_of_mem _ (rin4 w h)) hown hK hP 1 rfl rfl 0 (by decide) (hts _ (List.mem_cons_of_mem _ rm_284)) (fun _ h9 => h9) rfl rd_N_sign_15 ?_
    refine iw_if_eq (tgt := 25) hx hb rd_N_sign_18 (by decide) (hbr) (fun c2 => ?_) (fun c2 => ?_)
    ·
      refine lv_iconst (v := iv (1)) hx hb rd_N_sign_25 (by decide) ?_
      exact ef_iret hx hb hr hlocks hP hD hS rd_N_sign_26 (by unfold sgn; rw [if_neg hA0, if_pos c2]; exact ⟨rfl, rfl⟩)
    ·
      refine lv_iconst (v := iv (-1)) hx hb rd_N_sign_21 (by decide) ?_
      refine lv_goto (tgt := 26) hx hb rd_N_sign_22 (by decide) ?_
      exact ef_iret hx hb hr hlocks hP hD hS rd_N_sign_26 (by unfold sgn; rw [if_neg hA0, if_neg c2]; exact ⟨rfl, rfl⟩)
  ·
    have hA0 : (V 3) = 0 := dn_0.1 (by omega)
    refine lv_iconst (v := iv (0)) hx hb rd_N_sign_10 (by decide) ?_
    refine lv_goto (tgt := 26) hx hb rd_N_sign_11 (by decide) ?_
    exact ef_iret hx hb hr hlocks hP hD hS rd_N_sign_26 (by unfold sgn; rw [if_pos hA0]; exact ⟨rfl, rfl⟩)

set_option maxRecDepth 100000 in
set_option maxHeartbeats 4000000 in
/-- Num.sign -/
theorem r_signO (l : Launch) (dC : Nat → ClassId) (dI : Nat → Nat → Nat) {cI : ClassId} {tys : List (ClassId × FieldType)} (ht : tys[0]? = some (cI, .int)) (r : Nat → Nat) {V : Nat → Nat} {J : Nat → Nat → Nat} {A1 U1 A2 U2 : Nat} {pb pe ob oe b1 e1 b2 e2 : Int} (hJ : rJ V J) (kA1 : bk A1 (J 7)) (kU1 : bk U1 (J 8)) (kA2 : bk A2 (J 9)) (kU2 : bk U2 (J 10)) (mA1 : dn A1 ≤ 300) (mU1 : dn U1 ≤ 300) (mA2 : dn A2 ≤ 300) (mU2 : dn U2 ≤ 300) (hbo : ob = 0 ∨ ob = 1) : ef_C l ry_N_sign rw_N_sign ({ frames := 0, cells := 0, slots := 0, locals := 0 } : Room) [.ref (r 2)] (dC, dI) vwCl tys (rC cI r ((V 0)) ((V 1)) ((V 2)) ((V 3)) ((V 4)) ((V 5)) ((V 6)) (A1) (U1) (A2) (U2) ((J 0)) ((J 1)) ((J 2)) ((J 3)) ((J 4)) ((J 5)) ((J 6)) ((J 7)) ((J 8)) ((J 9)) ((J 10)) (pb) (pe) (ob) (oe) (b1) (e1) (b2) (e2)) (fun o w1 => o = some (.int (iv (sgn (V 5) ob))) ∧ w1 = rC cI r ((V 0)) ((V 1)) ((V 2)) ((V 3)) ((V 4)) ((V 5)) ((V 6)) (A1) (U1) (A2) (U2) ((J 0)) ((J 1)) ((J 2)) ((J 3)) ((J 4)) ((J 5)) ((J 6)) ((J 7)) ((J 8)) ((J 9)) ((J 10)) (pb) (pe) (ob) (oe) (b1) (e1) (b2) (e2)) := by
  refine ef_C.of (cc := rc_N_sign) (maxL := 1) (ret := (some .int)) (by decide) rfl (Nat.le_of_ble_eq_true rfl) ?_
  intro p e s m below meth c ls hx hb hml hr hts hown hlocks hK hNX hP hD hS hl
  have hl : lv_has ls 1 [(0, .ref (r 2))] := hl
  have hown : s.vm.findClass rR4 = some m.cls := hown
  generalize hH : s.heap = H at hP ⊢
  have hS : va_S (ef_A (rC cI r ((V 0)) ((V 1)) ((V 2)) ((V 3)) ((V 4)) ((V 5)) ((V 6)) (A1) (U1) (A2) (U2) ((J 0)) ((J 1)) ((J 2)) ((J 3)) ((J 4)) ((J 5)) ((J 6)) ((J 7)) ((J 8)) ((J 9)) ((J 10)) (pb) (pe) (ob) (oe) (b1) (e1) (b2) (e2))) s.heap H [] := by rw [← hH]; exact hS
  generalize ([] : List Loc) = locs at hS ⊢
  have hbr : ir ob := by rcases hbo with h | h <;> rw [h] <;> exact ⟨by decide, by decide⟩
  have hnb := (hJ 5 (by decide)).2
  refine lv_aload_n hx hb rd_N_sign_0 rfl (lv_at hl 0 rfl) ?_
  refine va_get (D := (dC, dI)) (ci := 4) (v := .ref (r 15)) (C := rR4) (T := rT4) (N := 4) hx hb hts (fun w h => List.mem_cons_of_mem _ (rin4 w h)) hown hK hP 2 rfl rfl 1 (by decide) (hts _ (List.mem_cons_of_mem _ rm_286)) (fun _ h9 => h9) rfl rd_N_sign_1 ?_
  refine va_getN (D := (dC, dI)) (ci := 3) (v := .int (iv ((dn ((V 5)) : Int)))) (C := rR3) (T := rT3) (N := 2) hx hb hts (fun w h => List.mem_cons_of_mem _ (rin3 w h)) hown hK hP 15 rfl rfl 1 (by decide) (hNX.use rm_269 rfl) (fun _ h9 => h9) rfl rd_N_sign_4 ?_
  refine iw_if_ne (tgt := 14) hx hb rd_N_sign_7 (by decide) ⟨by omega, by omega⟩ (fun c1 => ?_) (fun c1 => ?_)
  ·
    have hA0 : (V 5) ≠ 0 := fun q => c1 (by rw [dn_0.2 q]; rfl)
    refine lv_aload_n hx hb rd_N_sign_14 rfl (lv_at hl 0 rfl) ?_
    refine va_get (D := (dC, dI)) (ci := 4) (v := .int (iv (ob))) (C := rR4) (T := rT4) (N := 4) hx hb hts (fun w h => List.mem_cons_of_mem _ (rin4 w h)) hown hK hP 2 rfl rfl 0 (by decide) (hts _ (List.mem_cons_of_mem _ rm_284)) (fun _ h9 => h9) rfl rd_N_sign_15 ?_
    refine iw_if_eq (tgt := 25) hx hb rd_N_sign_18 (by decide) (hbr) (fun c2 => ?_) (fun c2 => ?_)
    ·
      refine lv_iconst (v := iv (1)) hx hb rd_N_sign_25 (by decide) ?_
      exact ef_iret hx hb hr hlocks hP hD hS rd_N_sign_26 (by unfold sgn; rw [if_neg hA0, if_pos c2]; exact ⟨rfl, rfl⟩)
    ·
      refine lv_iconst (v := iv (-1)) hx hb rd_N_sign_21 (by decide) ?_
      refine lv_goto (tgt := 26) hx hb rd_N_sign_22 (by decide) ?_
      exact ef_iret hx hb hr hlocks hP hD hS rd_N_sign_26 (by unfold sgn; rw [if_neg hA0, if_neg c2]; exact ⟨rfl, rfl⟩)
  ·
    have hA0 : (V 5) = 0 := dn_0.1 (by omega)
    refine lv_iconst (v := iv (0)) hx hb rd_N_sign_10 (by decide) ?_
    refine lv_goto (tgt := 26) hx hb rd_N_sign_11 (by decide) ?_
    exact ef_iret hx hb hr hlocks hP hD hS rd_N_sign_26 (by unfold sgn; rw [if_pos hA0]; exact ⟨rfl, rfl⟩)

set_option maxRecDepth 100000 in
set_option maxHeartbeats 4000000 in
/-- Num.sign -/
theorem r_sign0 (l : Launch) (dC : Nat → ClassId) (dI : Nat → Nat → Nat) {cI : ClassId} {tys : List (ClassId × FieldType)} (ht : tys[0]? = some (cI, .int)) (r : Nat → Nat) {V : Nat → Nat} {J : Nat → Nat → Nat} {A1 U1 A2 U2 : Nat} {pb pe ob oe b1 e1 b2 e2 : Int} (hJ : rJ V J) (kA1 : bk A1 (J 7)) (kU1 : bk U1 (J 8)) (kA2 : bk A2 (J 9)) (kU2 : bk U2 (J 10)) (mA1 : dn A1 ≤ 300) (mU1 : dn U1 ≤ 300) (mA2 : dn A2 ≤ 300) (mU2 : dn U2 ≤ 300) (hbo : b1 = 0 ∨ b1 = 1) : ef_C l ry_N_sign rw_N_sign ({ frames := 0, cells := 0, slots := 0, locals := 0 } : Room) [.ref (r 3)] (dC, dI) vwCl tys (rC cI r ((V 0)) ((V 1)) ((V 2)) ((V 3)) ((V 4)) ((V 5)) ((V 6)) (A1) (U1) (A2) (U2) ((J 0)) ((J 1)) ((J 2)) ((J 3)) ((J 4)) ((J 5)) ((J 6)) ((J 7)) ((J 8)) ((J 9)) ((J 10)) (pb) (pe) (ob) (oe) (b1) (e1) (b2) (e2)) (fun o w1 => o = some (.int (iv (sgn A1 b1))) ∧ w1 = rC cI r ((V 0)) ((V 1)) ((V 2)) ((V 3)) ((V 4)) ((V 5)) ((V 6)) (A1) (U1) (A2) (U2) ((J 0)) ((J 1)) ((J 2)) ((J 3)) ((J 4)) ((J 5)) ((J 6)) ((J 7)) ((J 8)) ((J 9)) ((J 10)) (pb) (pe) (ob) (oe) (b1) (e1) (b2) (e2)) := by
  refine ef_C.of (cc := rc_N_sign) (maxL := 1) (ret := (some .int)) (by decide) rfl (Nat.le_of_ble_eq_true rfl) ?_
  intro p e s m below meth c ls hx hb hml hr hts hown hlocks hK hNX hP hD hS hl
  have hl : lv_has ls 1 [(0, .ref (r 3))] := hl
  have hown : s.vm.findClass rR4 = some m.cls := hown
  generalize hH : s.heap = H at hP ⊢
  have hS : va_S (ef_A (rC cI r ((V 0)) ((V 1)) ((V 2)) ((V 3)) ((V 4)) ((V 5)) ((V 6)) (A1) (U1) (A2) (U2) ((J 0)) ((J 1)) ((J 2)) ((J 3)) ((J 4)) ((J 5)) ((J 6)) ((J 7)) ((J 8)) ((J 9)) ((J 10)) (pb) (pe) (ob) (oe) (b1) (e1) (b2) (e2))) s.heap H [] := by rw [← hH]; exact hS
  generalize ([] : List Loc) = locs at hS ⊢
  have hbr : ir b1 := by rcases hbo with h | h <;> rw [h] <;> exact ⟨by decide, by decide⟩
  have hnb := kA1.2
  refine lv_aload_n hx hb rd_N_sign_0 rfl (lv_at hl 0 rfl) ?_
  refine va_get (D := (dC, dI)) (ci := 4) (v := .ref (r 19)) (C := rR4) (T := rT4) (N := 4) hx hb hts (fun w h => List.mem_cons_of_mem _ (rin4 w h)) hown hK hP 3 rfl rfl 1 (by decide) (hts _ (List.mem_cons_of_mem _ rm_286)) (fun _ h9 => h9) rfl rd_N_sign_1 ?_
  refine va_getN (D := (dC, dI)) (ci := 3) (v := .int (iv ((dn (A1) : Int)))) (C := rR3) (T := rT3) (N := 2) hx hb hts (fun w h => List.mem_cons_of_mem _ (rin3 w h)) hown hK hP 19 rfl rfl 1 (by decide) (hNX.use rm_269 rfl) (fun _ h9 => h9) rfl rd_N_sign_4 ?_
  refine iw_if_ne (tgt := 14) hx hb rd_N_sign_7 (by decide) ⟨by omega, by omega⟩ (fun c1 => ?_) (fun c1 => ?_)
  ·
    have hA0 : A1 ≠ 0 := fun q => c1 (by rw [dn_0.2 q]; rfl)
    refine lv_aload_n hx hb rd_N_sign_14 rfl (lv_at hl 0 rfl) ?_
    refine va_get (D := (dC, dI)) (ci := 4) (v := .int (iv (b1))) (C := rR4) (T := rT4) (N := 4) hx hb hts (fun w h => List.mem_cons_of_mem _ (rin4 w h)) hown hK hP 3 rfl rfl 0 (by decide) (hts _ (List.mem_cons_of_mem _ rm_284)) (fun _ h9 => h9) rfl rd_N_sign_15 ?_
    refine iw_if_eq (tgt := 25) hx hb rd_N_sign_18 (by decide) (hbr) (fun c2 => ?_) (fun c2 => ?_)
    ·
      refine lv_iconst (v := iv (1)) hx hb rd_N_sign_25 (by decide) ?_
      exact ef_iret hx hb hr hlocks hP hD hS rd_N_sign_26 (by unfold sgn; rw [if_neg hA0, if_pos c2]; exact ⟨rfl, rfl⟩)
    ·
      refine lv_iconst (v := iv (-1)) hx hb rd_N_sign_21 (by decide) ?_
      refine lv_goto (tgt := 26) hx hb rd_N_sign_22 (by decide) ?_
      exact ef_iret hx hb hr hlocks hP hD hS rd_N_sign_26 (by unfold sgn; rw [if_neg hA0, if_neg c2]; exact ⟨rfl, rfl⟩)
  ·
    have hA0 : A1 = 0 := dn_0.1 (by omega)
    refine lv_iconst (v := iv (0)) hx hb rd_N_sign_10 (by decide) ?_
    refine lv_goto (tgt := 26) hx hb rd_N_sign_11 (by decide) ?_
    exact ef_iret hx hb hr hlocks hP hD hS rd_N_sign_26 (by unfold sgn; rw [if_pos hA0]; exact ⟨rfl, rfl⟩)

set_option maxRecDepth 100000 in
set_option maxHeartbeats 4000000 in
/-- Num.sign -/
theorem r_sign1 (l : Launch) (dC : Nat → ClassId) (dI : Nat → Nat → Nat) {cI : ClassId} {tys : List (ClassId × FieldType)} (ht : tys[0]? = some (cI, .int)) (r : Nat → Nat) {V : Nat → Nat} {J : Nat → Nat → Nat} {A1 U1 A2 U2 : Nat} {pb pe ob oe b1 e1 b2 e2 : Int} (hJ : rJ V J) (kA1 : bk A1 (J 7)) (kU1 : bk U1 (J 8)) (kA2 : bk A2 (J 9)) (kU2 : bk U2 (J 10)) (mA1 : dn A1 ≤ 300) (mU1 : dn U1 ≤ 300) (mA2 : dn A2 ≤ 300) (mU2 : dn U2 ≤ 300) (hbo : b2 = 0 ∨ b2 = 1) : ef_C l ry_N_sign rw_N_sign ({ frames := 0, cells := 0, slots := 0, locals := 0 } : Room) [.ref (r 4)] (dC, dI) vwCl tys (rC cI r ((V 0)) ((V 1)) ((V 2)) ((V 3)) ((V 4)) ((V 5)) ((V 6)) (A1) (U1) (A2) (U2) ((J 0)) ((J 1)) ((J 2)) ((J 3)) ((J 4)) ((J 5)) ((J 6)) ((J 7)) ((J 8)) ((J 9)) ((J 10)) (pb) (pe) (ob) (oe) (b1) (e1) (b2) (e2)) (fun o w1 => o = some (.int (iv (sgn A2 b2))) ∧ w1 = rC cI r ((V 0)) ((V 1)) ((V 2)) ((V 3)) ((V 4)) ((V 5)) ((V 6)) (A1) (U1) (A2) (U2) ((J 0)) ((J 1)) ((J 2)) ((J 3)) ((J 4)) ((J 5)) ((J 6)) ((J 7)) ((J 8)) ((J 9)) ((J 10)) (pb) (pe) (ob) (oe) (b1) (e1) (b2) (e2)) := by
  refine ef_C.of (cc := rc_N_sign) (maxL := 1) (ret := (some .int)) (by decide) rfl (Nat.le_of_ble_eq_true rfl) ?_
  intro p e s m below meth c ls hx hb hml hr hts hown hlocks hK hNX hP hD hS hl
  have hl : lv_has ls 1 [(0, .ref (r 4))] := hl
  have hown : s.vm.findClass rR4 = some m.cls := hown
  generalize hH : s.heap = H at hP ⊢
  have hS : va_S (ef_A (rC cI r ((V 0)) ((V 1)) ((V 2)) ((V 3)) ((V 4)) ((V 5)) ((V 6)) (A1) (U1) (A2) (U2) ((J 0)) ((J 1)) ((J 2)) ((J 3)) ((J 4)) ((J 5)) ((J 6)) ((J 7)) ((J 8)) ((J 9)) ((J 10)) (pb) (pe) (ob) (oe) (b1) (e1) (b2) (e2))) s.heap H [] := by rw [← hH]; exact hS
  generalize ([] : List Loc) = locs at hS ⊢
  have hbr : ir b2 := by rcases hbo with h | h <;> rw [h] <;> exact ⟨by decide, by decide⟩
  have hnb := kA2.2
  refine lv_aload_n hx hb rd_N_sign_0 rfl (lv_at hl 0 rfl) ?_
  refine va_get (D := (dC, dI)) (ci := 4) (v := .ref (r 23)) (C := rR4) (T := rT4) (N := 4) hx hb hts (fun w h => List.mem_cons_of_mem _ (rin4 w h)) hown hK hP 4 rfl rfl 1 (by decide) (hts _ (List.mem_cons_of_mem _ rm_286)) (fun _ h9 => h9) rfl rd_N_sign_1 ?_
  refine va_getN (D := (dC, dI)) (ci := 3) (v := .int (iv ((dn (A2) : Int)))) (C := rR3) (T := rT3) (N := 2) hx hb hts (fun w h => List.mem_cons_of_mem _ (rin3 w h)) hown hK hP 23 rfl rfl 1 (by decide) (hNX.use rm_269 rfl) (fun _ h9 => h9) rfl rd_N_sign_4 ?_
  refine iw_if_ne (tgt := 14) hx hb rd_N_sign_7 (by decide) ⟨by omega, by omega⟩ (fun c1 => ?_) (fun c1 => ?_)
  ·
    have hA0 : A2 ≠ 0 := fun q => c1 (by rw [dn_0.2 q]; rfl)
    refine lv_aload_n hx hb rd_N_sign_14 rfl (lv_at hl 0 rfl) ?_
    refine va_get (D := (dC, dI)) (ci := 4) (v := .int (iv (b2))) (C := rR4) (T := rT4) (N := 4) hx hb hts (fun w h => List.mem_cons_of_mem _ (rin4 w h)) hown hK hP 4 rfl rfl 0 (by decide) (hts _ (List.mem_cons_of_mem _ rm_284)) (fun _ h9 => h9) rfl rd_N_sign_15 ?_
    refine iw_if_eq (tgt := 25) hx hb rd_N_sign_18 (by decide) (hbr) (fun c2 => ?_) (fun c2 => ?_)
    ·
      refine lv_iconst (v := iv (1)) hx hb rd_N_sign_25 (by decide) ?_
      exact ef_iret hx hb hr hlocks hP hD hS rd_N_sign_26 (by unfold sgn; rw [if_neg hA0, if_pos c2]; exact ⟨rfl, rfl⟩)
    ·
      refine lv_iconst (v := iv (-1)) hx hb rd_N_sign_21 (by decide) ?_
      refine lv_goto (tgt := 26) hx hb rd_N_sign_22 (by decide) ?_
      exact ef_iret hx hb hr hlocks hP hD hS rd_N_sign_26 (by unfold sgn; rw [if_neg hA0, if_neg c2]; exact ⟨rfl, rfl⟩)
  ·
    have hA0 : A2 = 0 := dn_0.1 (by omega)
    refine lv_iconst (v := iv (0)) hx hb rd_N_sign_10 (by decide) ?_
    refine lv_goto (tgt := 26) hx hb rd_N_sign_11 (by decide) ?_
    exact ef_iret hx hb hr hlocks hP hD hS rd_N_sign_26 (by unfold sgn; rw [if_pos hA0]; exact ⟨rfl, rfl⟩)
