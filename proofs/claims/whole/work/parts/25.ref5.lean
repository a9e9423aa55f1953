/-! a float by its parts -/
def fp (m : Nat) : Nat := if m / 4503599627370496 = 0 then m else 4503599627370496 + m % 4503599627370496
def fe (m : Nat) : Int := if m / 4503599627370496 = 0 then -1074 else ((m / 4503599627370496 : Nat) : Int) - 1075
theorem fp_fe (m : Nat) (U : Nat) : fv m * U * pw (-1074) = fp m * U * pw (fe m) := by
  unfold fv fp fe
  by_cases h : m / 4503599627370496 = 0
  · rw [if_pos h, if_pos h, if_pos h]
  · rw [if_neg h, if_neg h, if_neg h, fv_scale]
    congr 2
    omega
theorem fp_0 {m : Nat} : fp m = 0 ↔ m = 0 := by
  unfold fp
  split <;> omega
theorem fp_lt (m : Nat) : fp m < 9007199254740992 := by
  unfold fp
  split <;> omega
theorem fe_r {m : Nat} (h : m ≤ 9218868437227405312) : -12000 ≤ fe m ∧ fe m ≤ 12000 := by
  unfold fe
  split <;> omega
theorem fv_0 {m : Nat} : fv m = 0 ↔ m = 0 := by
  constructor
  · intro h
    rcases Nat.eq_zero_or_pos m with q | q
    · exact q
    · have h1 := fv_mono (show 1 ≤ m by omega)
      rw [fv_small (show 1 ≤ 9007199254740992 by decide)] at h1
      omega
  · intro h
    rw [h]
    exact fv_small (by decide)
theorem ccmp_pos {m A U : Nat} {b e : Int} (hU : U ≠ 0) (h : A = 0 ∨ b = 0) : ccmp (fp m) 1 0 (fe m) A U b e ≤ 0 ↔ fle m A U e := by
  unfold fle
  have hp := pw_pos (-1074)
  have h1 : sgn (fp m) 0 = if fp m = 0 then 0 else 1 := by unfold sgn; split <;> simp
  rcases Nat.eq_zero_or_pos A with hA | hA
  · have h2 : sgn A b = 0 := by unfold sgn; rw [if_pos hA]
    have h3 : fv m * U * pw (-1074) ≤ A * pw e ↔ m = 0 := by
      rw [hA, Nat.zero_mul, Nat.le_zero, Nat.mul_eq_zero, Nat.mul_eq_zero]
      constructor
      · rintro ((q | q) | q)
        · exact fv_0.1 q
        · exact absurd q hU
        · omega
      · intro q
        exact Or.inl (Or.inl (fv_0.2 q))
    rw [h3]
    unfold ccmp
    rw [h1, h2]
    by_cases q : m = 0
    · rw [if_pos (fp_0.2 q)]; simp [q]
    · rw [if_neg (fun z => q (fp_0.1 z))]; simp [q]
  · have hb : b = 0 := h.resolve_left (by omega)
    have h2 : sgn A b = 1 := by unfold sgn; rw [if_neg (by omega), if_pos hb]
    by_cases q : m = 0
    · have h3 : fv m * U * pw (-1074) = 0 := by rw [fv_0.2 q, Nat.zero_mul, Nat.zero_mul]
      rw [h3]
      unfold ccmp
      rw [h1, h2, if_pos (fp_0.2 q)]
      simp
    · rw [fp_fe]
      unfold ccmp
      rw [h1, h2, if_neg (fun z => q (fp_0.1 z)), if_neg (by omega), if_neg (by omega), if_neg (by omega), Int.one_mul]
      unfold scmp
      rw [zc_le, Nat.mul_one]
      omega
theorem ccmp_neg {k A U : Nat} {e : Int} (hA : A ≠ 0) (hk : k ≠ 0) : ccmp (fp k) 1 1 (fe k) A U 1 e ≤ 0 ↔ A * pw e ≤ fv k * U * pw (-1074) := by
  have h1 : sgn (fp k) 1 = -1 := by unfold sgn; rw [if_neg (fun z => hk (fp_0.1 z)), if_neg (by decide)]
  have h2 : sgn A 1 = -1 := by unfold sgn; rw [if_neg hA, if_neg (by decide)]
  rw [fp_fe]
  unfold ccmp
  rw [h1, h2, if_neg (by omega), if_neg (by omega), if_neg (by omega)]
  unfold scmp
  rw [Nat.mul_one]
  have h3 := zc_ge ((fp k * U * pw (fe k) : Nat) : Int) ((A * pw e : Nat) : Int)
  omega
/-- what the search below 0 ends with -/
theorem rsz_neg {A U k : Nat} {e : Int} (hk : k + 1 ≤ 9218868437227405311) (h1 : A * pw e ≤ fv (k + 1) * U * pw (-1074)) (h2 : ¬ A * pw e ≤ fv k * U * pw (-1074)) : rsz A U e 1 (k + 1) := by
  by_cases q : fv (k + 1) * U * pw (-1074) = A * pw e
  · refine ⟨k + 1, ⟨hk, Nat.le_of_eq q, fun h3 h4 => ?_⟩, Or.inl ⟨Or.inr q, rfl⟩⟩
    unfold fle at h4
    have h5 := fv_succ (k + 1)
    have h6 : 0 < U * pw (-1074) := by
      rcases Nat.eq_zero_or_pos (U * pw (-1074)) with h | h
      · rw [Nat.mul_assoc, h, Nat.mul_zero] at h1
        rw [Nat.mul_assoc, h, Nat.mul_zero] at h2
        exact absurd h1 h2
      · exact h
    have h7 := Nat.mul_lt_mul_of_pos_right h5 h6
    rw [Nat.mul_assoc] at q h4
    omega
  · refine ⟨k, ⟨by omega, by unfold fle; omega, fun _ h4 => ?_⟩, Or.inr ⟨⟨by decide, fun h5 => ?_⟩, rfl⟩⟩
    · unfold fle at h4; omega
    · unfold feq at h5; omega
theorem ef_xor63 {x : Nat} (h : x < 2 ^ 63) : x ^^^ 2 ^ 63 = 2 ^ 63 + x := by
  apply Nat.eq_of_testBit_eq
  intro i
  rw [Nat.testBit_xor, Nat.testBit_two_pow]
  rcases Nat.lt_trichotomy i 63 with z | z | z
  · rw [Nat.testBit_two_pow_add_gt z, decide_eq_false (by omega)]; simp
  · subst z; rw [Nat.testBit_two_pow_add_eq]; simp
  · have hp : 2 ^ 64 ≤ 2 ^ i := Nat.pow_le_pow_right (by decide) z
    rw [Nat.testBit_lt_two_pow (show x < 2 ^ i by omega), Nat.testBit_lt_two_pow (show 2 ^ 63 + x < 2 ^ i by omega), decide_eq_false (by omega)]; rfl
theorem jv_xorS {z : Nat} (h : z < 9223372036854775808) : jv (z : Int) ^^^ jv (-9223372036854775808) = jv ((z : Int) - 9223372036854775808) := by
  have e : jv (-9223372036854775808) = lN (2 ^ 63) := by decide
  have e2 : jv ((z : Int) - 9223372036854775808) = jv ((9223372036854775808 + z : Nat) : Int) := jv_cong (by omega)
  rw [e, e2, jv_nat, jv_nat]
  apply wb_inj
  rw [Int64.toBitVec_xor, wb_tb, wb_tb, wb_tb]
  apply BitVec.eq_of_toNat_eq
  rw [BitVec.toNat_xor, BitVec.toNat_ofNat, BitVec.toNat_ofNat, BitVec.toNat_ofNat, Nat.mod_eq_of_lt (by omega), Nat.mod_eq_of_lt (by decide), Nat.mod_eq_of_lt (by omega)]
  exact ef_xor63 h
theorem jv_xorT {z : Nat} (h : z < 9223372036854775808) : jv ((z : Int) - 9223372036854775808) ^^^ jv (-9223372036854775808) = jv (z : Int) := by
  rw [← jv_xorS h, Int64.xor_assoc, Int64.xor_self, Int64.xor_zero]
theorem jv_div2 {a : Nat} (h : a < 9223372036854775808) : jv (a : Int) / jv 2 = jv ((a / 2 : Nat) : Int) := by
  have e : jv 2 = lN 2 := rfl
  rw [e, jv_nat, jv_nat]
  exact pk_lDiv (by omega) (by decide) (by decide)
theorem jv_andk {z : Nat} (hz : z < 18446744073709551616) {k : Nat} (hk : k < 64) : jv (z : Int) &&& jv ((2 ^ k - 1 : Nat) : Int) = jv ((z % 2 ^ k : Nat) : Int) := by
  rw [jv_nat, jv_nat, jv_nat]
  exact wb_mask (by omega) hk
theorem jv_or52 {a : Nat} (h : a < 4503599627370496) : jv (a : Int) ||| jv 4503599627370496 = jv ((a + 4503599627370496 : Nat) : Int) := by
  have e : jv 4503599627370496 = jv ((1 * 4503599627370496 : Nat) : Int) := rfl
  rw [e, jv_nat, jv_nat, jv_nat, show a + 4503599627370496 = a + 1 * 4503599627370496 by omega]
  exact g_or' (k := 52) (p := 4503599627370496) rfl h (by omega)
section FROWS
variable {p : Program} {l : Launch} {e : Env} {R : Room} {s : State} {m : MethodId} {args : Array Value} {below : List Frame} {meth : Method} {c : Code} {H : Heap} {locs : List Loc} {cells slots : Nat} {Q : State → Prop} {cc : ByteArray} {pc : Nat} {ls : Array Slot} {rest : List Value}
theorem iw_lxorS (hx : p.tables.exec = Jvm.exec) (hb : c.code = cc) {z : Nat} (h : z < 9223372036854775808) (hdg : decode cc pc = .ok (.lxor, 1)) (kk : W p l e R s m args below meth c H locs cells slots Q (F0 m (pc + 1) ls (.long (jv ((z : Int) - 9223372036854775808)) :: rest))) : W p l e R s m args below meth c H locs cells slots Q (F0 m pc ls (.long (jv (-9223372036854775808)) :: .long (jv (z : Int)) :: rest)) := lv_lxor hx hb hdg (by rw [jv_xorS h]; exact kk)
theorem iw_lxorT (hx : p.tables.exec = Jvm.exec) (hb : c.code = cc) {z : Nat} (h : z < 9223372036854775808) (hdg : decode cc pc = .ok (.lxor, 1)) (kk : W p l e R s m args below meth c H locs cells slots Q (F0 m (pc + 1) ls (.long (jv (z : Int)) :: rest))) : W p l e R s m args below meth c H locs cells slots Q (F0 m pc ls (.long (jv (-9223372036854775808)) :: .long (jv ((z : Int) - 9223372036854775808)) :: rest)) := lv_lxor hx hb hdg (by rw [jv_xorT h]; exact kk)
theorem iw_ldiv2 (hx : p.tables.exec = Jvm.exec) (hb : c.code = cc) {a : Nat} (h : a < 9223372036854775808) (hdg : decode cc pc = .ok (.ldiv, 1)) (kk : W p l e R s m args below meth c H locs cells slots Q (F0 m (pc + 1) ls (.long (jv ((a / 2 : Nat) : Int)) :: rest))) : W p l e R s m args below meth c H locs cells slots Q (F0 m pc ls (.long (jv 2) :: .long (jv (a : Int)) :: rest)) := lv_ldiv hx hb hdg (by decide) (by rw [jv_div2 h]; exact kk)
theorem iw_landk (hx : p.tables.exec = Jvm.exec) (hb : c.code = cc) {z k : Nat} (hz : z < 18446744073709551616) (hk : k < 64) (hdg : decode cc pc = .ok (.land, 1)) (kk : W p l e R s m args below meth c H locs cells slots Q (F0 m (pc + 1) ls (.long (jv ((z % 2 ^ k : Nat) : Int)) :: rest))) : W p l e R s m args below meth c H locs cells slots Q (F0 m pc ls (.long (jv ((2 ^ k - 1 : Nat) : Int)) :: .long (jv (z : Int)) :: rest)) := lv_land hx hb hdg (by rw [jv_andk hz hk]; exact kk)
theorem iw_lor52 (hx : p.tables.exec = Jvm.exec) (hb : c.code = cc) {a : Nat} (h : a < 4503599627370496) (hdg : decode cc pc = .ok (.lor, 1)) (kk : W p l e R s m args below meth c H locs cells slots Q (F0 m (pc + 1) ls (.long (jv ((a + 4503599627370496 : Nat) : Int)) :: rest))) : W p l e R s m args below meth c H locs cells slots Q (F0 m pc ls (.long (jv 4503599627370496) :: .long (jv (a : Int)) :: rest)) := lv_lor hx hb hdg (by rw [jv_or52 h]; exact kk)
end FROWS

set_option maxRecDepth 100000 in
set_option maxHeartbeats 4000000 in
/-- floatOf from 0 on -/
theorem r_floatP (l : Launch) (dC : Nat → ClassId) (dI : Nat → Nat → Nat) {cI : ClassId} {tys : List (ClassId × FieldType)} (ht : tys[0]? = some (cI, .int)) (r : Nat → Nat) {V : Nat → Nat} {J : Nat → Nat → Nat} {A1 U1 A2 U2 : Nat} {pb pe ob oe b1 e1 b2 e2 : Int} (m0 : Nat) (hm : m0 < 9223372036854775808) : ef_C l ry_M_floatOf rw_M_floatOf ({ frames := 0, cells := 0, slots := 0, locals := 0 } : Room) [.long (jv ((m0 : Int)))] (dC, dI) vwCl tys (rC cI r ((V 0)) ((V 1)) ((V 2)) ((V 3)) ((V 4)) ((V 5)) ((V 6)) (A1) (U1) (A2) (U2) ((J 0)) ((J 1)) ((J 2)) ((J 3)) ((J 4)) ((J 5)) ((J 6)) ((J 7)) ((J 8)) ((J 9)) ((J 10)) (pb) (pe) (ob) (oe) (b1) (e1) (b2) (e2)) (fun o w1 => o = some (.long (jv (m0 : Int))) ∧ w1 = rC cI r ((V 0)) ((V 1)) ((V 2)) ((V 3)) ((V 4)) ((V 5)) ((V 6)) (A1) (U1) (A2) (U2) ((J 0)) ((J 1)) ((J 2)) ((J 3)) ((J 4)) ((J 5)) ((J 6)) ((J 7)) ((J 8)) ((J 9)) ((J 10)) (pb) (pe) (ob) (oe) (b1) (e1) (b2) (e2)) := by
  refine ef_C.of (cc := rc_M_floatOf) (maxL := 2) (ret := (some .long)) (by decide) rfl (Nat.le_of_ble_eq_true rfl) ?_
  intro p e s m below meth c ls hx hb hml hr hts hown hlocks hK hNX hP hD hS hl
  have hl : lv_has ls 2 [(0, .long (jv ((m0 : Int))))] := hl
  have hown : s.vm.findClass rR5 = some m.cls := hown
  generalize hH : s.heap = H at hP ⊢
  have hS : va_S (ef_A (rC cI r ((V 0)) ((V 1)) ((V 2)) ((V 3)) ((V 4)) ((V 5)) ((V 6)) (A1) (U1) (A2) (U2) ((J 0)) ((J 1)) ((J 2)) ((J 3)) ((J 4)) ((J 5)) ((J 6)) ((J 7)) ((J 8)) ((J 9)) ((J 10)) (pb) (pe) (ob) (oe) (b1) (e1) (b2) (e2))) s.heap H [] := by rw [← hH]; exact hS
  generalize ([] : List Loc) = locs at hS ⊢
  refine lv_lload_n hx hb rd_M_floatOf_0 rfl (lv_at hl 0 rfl) ?_
  refine lv_lconst (v := jv (0)) hx hb rd_M_floatOf_1 (by decide) ?_
  refine iw_lcmp hx hb (⟨by omega, by omega⟩) (⟨by omega, by omega⟩) rd_M_floatOf_2 ?_
  refine iw_if_ge (tgt := 15) hx hb rd_M_floatOf_3 (by decide) (ir_zc _ _) (fun c1 => ?_) (fun c1 => ?_)
  ·
    refine lv_lload_n hx hb rd_M_floatOf_15 rfl (lv_at hl 0 rfl) ?_
    exact ef_lret hx hb hr hlocks hP hD hS rd_M_floatOf_16 (⟨rfl, rfl⟩)
  ·
    exact absurd ((zc_ge (m0 : Int) 0).2 (by omega)) (by omega)

set_option maxRecDepth 100000 in
set_option maxHeartbeats 4000000 in
/-- floatOf below 0 -/
theorem r_floatN (l : Launch) (dC : Nat → ClassId) (dI : Nat → Nat → Nat) {cI : ClassId} {tys : List (ClassId × FieldType)} (ht : tys[0]? = some (cI, .int)) (r : Nat → Nat) {V : Nat → Nat} {J : Nat → Nat → Nat} {A1 U1 A2 U2 : Nat} {pb pe ob oe b1 e1 b2 e2 : Int} (m0 : Nat) (hm : m0 < 9223372036854775808) (hm0 : m0 ≠ 0) : ef_C l ry_M_floatOf rw_M_floatOf ({ frames := 0, cells := 0, slots := 0, locals := 0 } : Room) [.long (jv (-(m0 : Int)))] (dC, dI) vwCl tys (rC cI r ((V 0)) ((V 1)) ((V 2)) ((V 3)) ((V 4)) ((V 5)) ((V 6)) (A1) (U1) (A2) (U2) ((J 0)) ((J 1)) ((J 2)) ((J 3)) ((J 4)) ((J 5)) ((J 6)) ((J 7)) ((J 8)) ((J 9)) ((J 10)) (pb) (pe) (ob) (oe) (b1) (e1) (b2) (e2)) (fun o w1 => o = some (.long (jv ((m0 : Int) - 9223372036854775808))) ∧ w1 = rC cI r ((V 0)) ((V 1)) ((V 2)) ((V 3)) ((V 4)) ((V 5)) ((V 6)) (A1) (U1) (A2) (U2) ((J 0)) ((J 1)) ((J 2)) ((J 3)) ((J 4)) ((J 5)) ((J 6)) ((J 7)) ((J 8)) ((J 9)) ((J 10)) (pb) (pe) (ob) (oe) (b1) (e1) (b2) (e2)) := by
  refine ef_C.of (cc := rc_M_floatOf) (maxL := 2) (ret := (some .long)) (by decide) rfl (Nat.le_of_ble_eq_true rfl) ?_
  intro p e s m below meth c ls hx hb hml hr hts hown hlocks hK hNX hP hD hS hl
  have hl : lv_has ls 2 [(0, .long (jv (-(m0 : Int))))] := hl
  have hown : s.vm.findClass rR5 = some m.cls := hown
  generalize hH : s.heap = H at hP ⊢
  have hS : va_S (ef_A (rC cI r ((V 0)) ((V 1)) ((V 2)) ((V 3)) ((V 4)) ((V 5)) ((V 6)) (A1) (U1) (A2) (U2) ((J 0)) ((J 1)) ((J 2)) ((J 3)) ((J 4)) ((J 5)) ((J 6)) ((J 7)) ((J 8)) ((J 9)) ((J 10)) (pb) (pe) (ob) (oe) (b1) (e1) (b2) (e2))) s.heap H [] := by rw [← hH]; exact hS
  generalize ([] : List Loc) = locs at hS ⊢
  refine lv_lload_n hx hb rd_M_floatOf_0 rfl (lv_at hl 0 rfl) ?_
  refine lv_lconst (v := jv (0)) hx hb rd_M_floatOf_1 (by decide) ?_
  refine iw_lcmp hx hb (⟨by omega, by omega⟩) (⟨by omega, by omega⟩) rd_M_floatOf_2 ?_
  refine iw_if_ge (tgt := 15) hx hb rd_M_floatOf_3 (by decide) (ir_zc _ _) (fun c1 => ?_) (fun c1 => ?_)
  ·
    exact absurd ((zc_ge (-(m0 : Int)) 0).1 c1) (by omega)
  ·
    refine lv_lload_n hx hb rd_M_floatOf_6 rfl (lv_at hl 0 rfl) ?_
    refine iw_lneg hx hb rd_M_floatOf_7 ?_
    refine iw_topl (y := jv ((m0 : Int))) (congrArg jv (by omega : ((-(-(m0 : Int))) : Int) = ((m0 : Int)))) ?_
    refine lv_ldc2 (v := jv (-9223372036854775808)) hx hb hown (by have h9 := (hts _ (List.mem_cons_of_mem _ rm_458)); rw [show (-9223372036854775808 : Int64) = jv (-9223372036854775808) by decide] at h9; exact h9) rd_M_floatOf_8 ?_
    refine iw_lorS hx hb hm rd_M_floatOf_11 ?_
    refine lv_goto (tgt := 16) hx hb rd_M_floatOf_12 (by decide) ?_
    exact ef_lret hx hb hr hlocks hP hD hS rd_M_floatOf_16 (⟨rfl, rfl⟩)

set_option maxRecDepth 100000 in
set_option maxHeartbeats 4000000 in
/-- minus of 0 -/
theorem r_minus0 (l : Launch) (dC : Nat → ClassId) (dI : Nat → Nat → Nat) {cI : ClassId} {tys : List (ClassId × FieldType)} (ht : tys[0]? = some (cI, .int)) (r : Nat → Nat) {V : Nat → Nat} {J : Nat → Nat → Nat} {A1 U1 A2 U2 : Nat} {pb pe ob oe b1 e1 b2 e2 : Int} : ef_C l ry_M_minus rw_M_minus ({ frames := 0, cells := 0, slots := 0, locals := 0 } : Room) [.long (jv (0))] (dC, dI) vwCl tys (rC cI r ((V 0)) ((V 1)) ((V 2)) ((V 3)) ((V 4)) ((V 5)) ((V 6)) (A1) (U1) (A2) (U2) ((J 0)) ((J 1)) ((J 2)) ((J 3)) ((J 4)) ((J 5)) ((J 6)) ((J 7)) ((J 8)) ((J 9)) ((J 10)) (pb) (pe) (ob) (oe) (b1) (e1) (b2) (e2)) (fun o w1 => o = some (.long (jv 0)) ∧ w1 = rC cI r ((V 0)) ((V 1)) ((V 2)) ((V 3)) ((V 4)) ((V 5)) ((V 6)) (A1) (U1) (A2) (U2) ((J 0)) ((J 1)) ((J 2)) ((J 3)) ((J 4)) ((J 5)) ((J 6)) ((J 7)) ((J 8)) ((J 9)) ((J 10)) (pb) (pe) (ob) (oe) (b1) (e1) (b2) (e2)) := by
  refine ef_C.of (cc := rc_M_minus) (maxL := 2) (ret := (some .long)) (by decide) rfl (Nat.le_of_ble_eq_true rfl) ?_
  intro p e s m below meth c ls hx hb hml hr hts hown hlocks hK hNX hP hD hS hl
  have hl : lv_has ls 2 [(0, .long (jv (0)))] := hl
  have hown : s.vm.findClass rR5 = some m.cls := hown
  generalize hH : s.heap = H at hP ⊢
  have hS : va_S (ef_A (rC cI r ((V 0)) ((V 1)) ((V 2)) ((V 3)) ((V 4)) ((V 5)) ((V 6)) (A1) (U1) (A2) (U2) ((J 0)) ((J 1)) ((J 2)) ((J 3)) ((J 4)) ((J 5)) ((J 6)) ((J 7)) ((J 8)) ((J 9)) ((J 10)) (pb) (pe) (ob) (oe) (b1) (e1) (b2) (e2))) s.heap H [] := by rw [← hH]; exact hS
  generalize ([] : List Loc) = locs at hS ⊢
  refine lv_lload_n hx hb rd_M_minus_0 rfl (lv_at hl 0 rfl) ?_
  refine lv_lconst (v := jv (0)) hx hb rd_M_minus_1 (by decide) ?_
  refine iw_lcmp hx hb (⟨by omega, by omega⟩) (⟨by omega, by omega⟩) rd_M_minus_2 ?_
  refine iw_if_ne (tgt := 10) hx hb rd_M_minus_3 (by decide) (ir_zc _ _) (fun c1 => ?_) (fun c1 => ?_)
  ·
    exact absurd (zc_eq 0) c1
  ·
    refine lv_lconst (v := jv (0)) hx hb rd_M_minus_6 (by decide) ?_
    refine lv_goto (tgt := 15) hx hb rd_M_minus_7 (by decide) ?_
    exact ef_lret hx hb hr hlocks hP hD hS rd_M_minus_15 (⟨rfl, rfl⟩)

set_option maxRecDepth 100000 in
set_option maxHeartbeats 4000000 in
/-- minus -/
theorem r_minusP (l : Launch) (dC : Nat → ClassId) (dI : Nat → Nat → Nat) {cI : ClassId} {tys : List (ClassId × FieldType)} (ht : tys[0]? = some (cI, .int)) (r : Nat → Nat) {V : Nat → Nat} {J : Nat → Nat → Nat} {A1 U1 A2 U2 : Nat} {pb pe ob oe b1 e1 b2 e2 : Int} (m0 : Nat) (hm : m0 < 9223372036854775808) (hm0 : m0 ≠ 0) : ef_C l ry_M_minus rw_M_minus ({ frames := 0, cells := 0, slots := 0, locals := 0 } : Room) [.long (jv ((m0 : Int)))] (dC, dI) vwCl tys (rC cI r ((V 0)) ((V 1)) ((V 2)) ((V 3)) ((V 4)) ((V 5)) ((V 6)) (A1) (U1) (A2) (U2) ((J 0)) ((J 1)) ((J 2)) ((J 3)) ((J 4)) ((J 5)) ((J 6)) ((J 7)) ((J 8)) ((J 9)) ((J 10)) (pb) (pe) (ob) (oe) (b1) (e1) (b2) (e2)) (fun o w1 => o = some (.long (jv ((m0 : Int) - 9223372036854775808))) ∧ w1 = rC cI r ((V 0)) ((V 1)) ((V 2)) ((V 3)) ((V 4)) ((V 5)) ((V 6)) (A1) (U1) (A2) (U2) ((J 0)) ((J 1)) ((J 2)) ((J 3)) ((J 4)) ((J 5)) ((J 6)) ((J 7)) ((J 8)) ((J 9)) ((J 10)) (pb) (pe) (ob) (oe) (b1) (e1) (b2) (e2)) := by
  refine ef_C.of (cc := rc_M_minus) (maxL := 2) (ret := (some .long)) (by decide) rfl (Nat.le_of_ble_eq_true rfl) ?_
  intro p e s m below meth c ls hx hb hml hr hts hown hlocks hK hNX hP hD hS hl
  have hl : lv_has ls 2 [(0, .long (jv ((m0 : Int))))] := hl
  have hown : s.vm.findClass rR5 = some m.cls := hown
  generalize hH : s.heap = H at hP ⊢
  have hS : va_S (ef_A (rC cI r ((V 0)) ((V 1)) ((V 2)) ((V 3)) ((V 4)) ((V 5)) ((V 6)) (A1) (U1) (A2) (U2) ((J 0)) ((J 1)) ((J 2)) ((J 3)) ((J 4)) ((J 5)) ((J 6)) ((J 7)) ((J 8)) ((J 9)) ((J 10)) (pb) (pe) (ob) (oe) (b1) (e1) (b2) (e2))) s.heap H [] := by rw [← hH]; exact hS
  generalize ([] : List Loc) = locs at hS ⊢
  refine lv_lload_n hx hb rd_M_minus_0 rfl (lv_at hl 0 rfl) ?_
  refine lv_lconst (v := jv (0)) hx hb rd_M_minus_1 (by decide) ?_
  refine iw_lcmp hx hb (⟨by omega, by omega⟩) (⟨by omega, by omega⟩) rd_M_minus_2 ?_
  refine iw_if_ne (tgt := 10) hx hb rd_M_minus_3 (by decide) (ir_zc _ _) (fun c1 => ?_) (fun c1 => ?_)
  ·
    refine lv_lload_n hx hb rd_M_minus_10 rfl (lv_at hl 0 rfl) ?_
    refine lv_ldc2 (v := jv (-9223372036854775808)) hx hb hown (by have h9 := (hts _ (List.mem_cons_of_mem _ rm_458)); rw [show (-9223372036854775808 : Int64) = jv (-9223372036854775808) by decide] at h9; exact h9) rd_M_minus_11 ?_
    refine iw_lxorS hx hb hm rd_M_minus_14 ?_
    exact ef_lret hx hb hr hlocks hP hD hS rd_M_minus_15 (⟨rfl, rfl⟩)
  ·
    exact absurd ((zc_0 _ _).1 c1) (by omega)

set_option maxRecDepth 100000 in
set_option maxHeartbeats 4000000 in
/-- minus -/
theorem r_minusN (l : Launch) (dC : Nat → ClassId) (dI : Nat → Nat → Nat) {cI : ClassId} {tys : List (ClassId × FieldType)} (ht : tys[0]? = some (cI, .int)) (r : Nat → Nat) {V : Nat → Nat} {J : Nat → Nat → Nat} {A1 U1 A2 U2 : Nat} {pb pe ob oe b1 e1 b2 e2 : Int} (m0 : Nat) (hm : m0 < 9223372036854775808) (hm0 : m0 ≠ 0) : ef_C l ry_M_minus rw_M_minus ({ frames := 0, cells := 0, slots := 0, locals := 0 } : Room) [.long (jv ((m0 : Int) - 9223372036854775808))] (dC, dI) vwCl tys (rC cI r ((V 0)) ((V 1)) ((V 2)) ((V 3)) ((V 4)) ((V 5)) ((V 6)) (A1) (U1) (A2) (U2) ((J 0)) ((J 1)) ((J 2)) ((J 3)) ((J 4)) ((J 5)) ((J 6)) ((J 7)) ((J 8)) ((J 9)) ((J 10)) (pb) (pe) (ob) (oe) (b1) (e1) (b2) (e2)) (fun o w1 => o = some (.long (jv ((m0 : Int)))) ∧ w1 = rC cI r ((V 0)) ((V 1)) ((V 2)) ((V 3)) ((V 4)) ((V 5)) ((V 6)) (A1) (U1) (A2) (U2) ((J 0)) ((J 1)) ((J 2)) ((J 3)) ((J 4)) ((J 5)) ((J 6)) ((J 7)) ((J 8)) ((J 9)) ((J 10)) (pb) (pe) (ob) (oe) (b1) (e1) (b2) (e2)) := by
  refine ef_C.of (cc := rc_M_minus) (maxL := 2) (ret := (some .long)) (by decide) rfl (Nat.le_of_ble_eq_true rfl) ?_
  intro p e s m below meth c ls hx hb hml hr hts hown hlocks hK hNX hP hD hS hl
  have hl : lv_has ls 2 [(0, .long (jv ((m0 : Int) - 9223372036854775808)))] := hl
  have hown : s.vm.findClass rR5 = some m.cls := hown
  generalize hH : s.heap = H at hP ⊢
  have hS : va_S (ef_A (rC cI r ((V 0)) ((V 1)) ((V 2)) ((V 3)) ((V 4)) ((V 5)) ((V 6)) (A1) (U1) (A2) (U2) ((J 0)) ((J 1)) ((J 2)) ((J 3)) ((J 4)) ((J 5)) ((J 6)) ((J 7)) ((J 8)) ((J 9)) ((J 10)) (pb) (pe) (ob) (oe) (b1) (e1) (b2) (e2))) s.heap H [] := by rw [← hH]; exact hS
  generalize ([] : List Loc) = locs at hS ⊢
  refine lv_lload_n hx hb rd_M_minus_0 rfl (lv_at hl 0 rfl) ?_
  refine lv_lconst (v := jv (0)) hx hb rd_M_minus_1 (by decide) ?_
  refine iw_lcmp hx hb (⟨by omega, by omega⟩) (⟨by omega, by omega⟩) rd_M_minus_2 ?_
  refine iw_if_ne (tgt := 10) hx hb rd_M_minus_3 (by decide) (ir_zc _ _) (fun c1 => ?_) (fun c1 => ?_)
  ·
    refine lv_lload_n hx hb rd_M_minus_10 rfl (lv_at hl 0 rfl) ?_
    refine lv_ldc2 (v := jv (-9223372036854775808)) hx hb hown (by have h9 := (hts _ (List.mem_cons_of_mem _ rm_458)); rw [show (-9223372036854775808 : Int64) = jv (-9223372036854775808) by decide] at h9; exact h9) rd_M_minus_11 ?_
    refine iw_lxorT hx hb hm rd_M_minus_14 ?_
    exact ef_lret hx hb hr hlocks hP hD hS rd_M_minus_15 (⟨rfl, rfl⟩)
  ·
    exact absurd ((zc_0 _ _).1 c1) (by omega)

set_option maxRecDepth 100000 in
set_option maxHeartbeats 4000000 in
/-- Num.setFloat of the probe -/
theorem r_setFloat0 (l : Launch) (dC : Nat → ClassId) (dI : Nat → Nat → Nat) {cI : ClassId} {tys : List (ClassId × FieldType)} (ht : tys[0]? = some (cI, .int)) (r : Nat → Nat) {V : Nat → Nat} {J : Nat → Nat → Nat} {A1 U1 A2 U2 : Nat} {pb pe ob oe b1 e1 b2 e2 : Int} (hJ : rJ V J) (kA1 : bk A1 (J 7)) (kU1 : bk U1 (J 8)) (kA2 : bk A2 (J 9)) (kU2 : bk U2 (J 10)) (mA1 : dn A1 ≤ 300) (mU1 : dn U1 ≤ 300) (mA2 : dn A2 ≤ 300) (mU2 : dn U2 ≤ 300) (m0 : Nat) (hm : m0 < 9223372036854775808) : ef_C l ry_N_setFloat rw_N_setFloat ({ frames := 1, cells := 0, slots := 0, locals := 24 } : Room) [.ref (r 1), .long (jv ((m0 : Int)))] (dC, dI) vwCl tys (rC cI r ((V 0)) ((V 1)) ((V 2)) ((V 3)) ((V 4)) ((V 5)) ((V 6)) (A1) (U1) (A2) (U2) ((J 0)) ((J 1)) ((J 2)) ((J 3)) ((J 4)) ((J 5)) ((J 6)) ((J 7)) ((J 8)) ((J 9)) ((J 10)) (pb) (pe) (ob) (oe) (b1) (e1) (b2) (e2)) (fun o w1 => ∃ (V2 : Nat → Nat) (J2 : Nat → Nat → Nat) (pb2 pe2 ob2 oe2 : Int), V2 5 = V 5 ∧ V2 6 = V 6 ∧ ob2 = ob ∧ oe2 = oe ∧ V2 3 = fp m0 ∧ V2 4 = 1 ∧ pb2 = 0 ∧ pe2 = fe m0 ∧ o = none ∧ w1 = rC cI r (V2 0) (V2 1) (V2 2) (V2 3) (V2 4) (V2 5) (V2 6) (A1) (U1) (A2) (U2) (J2 0) (J2 1) (J2 2) (J2 3) (J2 4) (J2 5) (J2 6) (J2 7) (J2 8) (J2 9) (J2 10) (pb2) (pe2) (ob2) (oe2) (b1) (e1) (b2) (e2) ∧ rJ V2 J2 ∧ bk (A1) (J2 7) ∧ bk (U1) (J2 8) ∧ bk (A2) (J2 9) ∧ bk (U2) (J2 10)) := by
  refine ef_C.of (cc := rc_N_setFloat) (maxL := 7) (ret := none) (by decide) rfl (Nat.le_of_ble_eq_true rfl) ?_
  intro p e s m below meth c ls hx hb hml hr hts hown hlocks hK hNX hP hD hS hl
  have hl : lv_has ls 7 [(0, .ref (r 1)), (1, .long (jv ((m0 : Int))))] := hl
  have hown : s.vm.findClass rR4 = some m.cls := hown
  generalize hH : s.heap = H at hP ⊢
  have hS : va_S (ef_A (rC cI r ((V 0)) ((V 1)) ((V 2)) ((V 3)) ((V 4)) ((V 5)) ((V 6)) (A1) (U1) (A2) (U2) ((J 0)) ((J 1)) ((J 2)) ((J 3)) ((J 4)) ((J 5)) ((J 6)) ((J 7)) ((J 8)) ((J 9)) ((J 10)) (pb) (pe) (ob) (oe) (b1) (e1) (b2) (e2))) s.heap H [] := by rw [← hH]; exact hS
  generalize ([] : List Loc) = locs at hS ⊢
  refine lv_lload_n hx hb rd_N_setFloat_0 rfl (lv_at hl 1 rfl) ?_
  refine iw_topl (y := jv (((m0 + 0 * 9223372036854775808 : Nat) : Int))) (jv_cong (by omega)) ?_
  refine lv_bipush (v := iv (52)) hx hb rd_N_setFloat_1 (by decide) ?_
  refine iw_topi (y := iv (((52 : Nat) : Int))) (congrArg iv (by rfl : ((52) : Int) = (((52 : Nat) : Int)))) ?_
  refine iw_lushrk (z := m0 + 0 * 9223372036854775808) (k := 52) hx hb (by omega) (by decide) rd_N_setFloat_3 ?_
  refine iw_topl (y := jv ((((m0 + 0 * 9223372036854775808) / 4503599627370496 : Nat) : Int))) (congrArg jv (by rfl : (((((m0 + 0 * 9223372036854775808) / 2 ^ 52 : Nat) : Int)) : Int) = ((((m0 + 0 * 9223372036854775808) / 4503599627370496 : Nat) : Int)))) ?_
  refine lv_ldc2 (v := jv (2047)) hx hb hown (hts _ (List.mem_cons_of_mem _ rm_463)) rd_N_setFloat_4 ?_
  refine iw_topl (y := jv (((2 ^ 11 - 1 : Nat) : Int))) (congrArg jv (by rfl : ((2047) : Int) = (((2 ^ 11 - 1 : Nat) : Int)))) ?_
  refine iw_landk (z := (m0 + 0 * 9223372036854775808) / 4503599627370496) (k := 11) hx hb (by omega) (by decide) rd_N_setFloat_7 ?_
  obtain ⟨E, hE⟩ : ∃ E, E = m0 / 4503599627370496 := ⟨_, rfl⟩
  refine iw_topl (y := jv ((E : Int))) (congrArg jv (by rw [hE]; show (((m0 + 0 * 9223372036854775808) / 4503599627370496 % 2048 : Nat) : Int) = _; omega : (((((m0 + 0 * 9223372036854775808) / 4503599627370496 % 2 ^ 11 : Nat) : Int)) : Int) = ((E : Int)))) ?_
  refine lv_lstore_n (lv' := [(3, .long (jv ((E : Int)))), (0, .ref (r 1)), (1, .long (jv ((m0 : Int))))]) hx hb rd_N_setFloat_8 rfl hl (by decide) rfl (fun ls hl => ?_)
  refine lv_lload_n hx hb rd_N_setFloat_9 rfl (lv_at hl 2 rfl) ?_
  refine iw_topl (y := jv (((m0 + 0 * 9223372036854775808 : Nat) : Int))) (jv_cong (by omega)) ?_
  refine lv_ldc2 (v := jv (4503599627370495)) hx hb hown (hts _ (List.mem_cons_of_mem _ rm_464)) rd_N_setFloat_10 ?_
  refine iw_topl (y := jv (((2 ^ 52 - 1 : Nat) : Int))) (congrArg jv (by rfl : ((4503599627370495) : Int) = (((2 ^ 52 - 1 : Nat) : Int)))) ?_
  refine iw_landk (z := m0 + 0 * 9223372036854775808) (k := 52) hx hb (by omega) (by decide) rd_N_setFloat_13 ?_
  obtain ⟨M, hM⟩ : ∃ M, M = m0 % 4503599627370496 := ⟨_, rfl⟩
  refine iw_topl (y := jv ((M : Int))) (congrArg jv (by rw [hM]; show (((m0 + 0 * 9223372036854775808) % 4503599627370496 : Nat) : Int) = _; omega : (((((m0 + 0 * 9223372036854775808) % 2 ^ 52 : Nat) : Int)) : Int) = ((M : Int)))) ?_
  have hMl : M < 4503599627370496 := by omega
  refine lv_lstore (lv' := [(5, .long (jv ((M : Int)))), (3, .long (jv ((E : Int)))), (0, .ref (r 1)), (1, .long (jv ((m0 : Int))))]) hx hb rd_N_setFloat_14 hl (by decide) rfl (fun ls hl => ?_)
  refine lv_aload_n hx hb rd_N_setFloat_16 rfl (lv_at hl 2 rfl) ?_
  refine lv_lload_n hx hb rd_N_setFloat_17 rfl (lv_at hl 3 rfl) ?_
  refine lv_lconst (v := jv (0)) hx hb rd_N_setFloat_18 (by decide) ?_
  refine iw_lcmp hx hb (⟨by omega, by omega⟩) (⟨by omega, by omega⟩) rd_N_setFloat_19 ?_
  refine iw_if_ge (tgt := 27) hx hb rd_N_setFloat_20 (by decide) (ir_zc _ _) (fun c1 => ?_) (fun c1 => ?_)
  ·
    refine lv_iconst (v := iv (0)) hx hb rd_N_setFloat_27 (by decide) ?_
    refine va_put (D := (dC, dI)) (ci := 4) (v := .int (iv (0))) (ty := .boolean) (C := rR4) (T := rT4) (N := 4) hx hb hts (fun w h => List.mem_cons_of_mem _ (rin4 w h)) rty4 rtyok4 rnm4 hown hK hP hD hS 1 rfl rfl 0 (by decide) (hts _ (List.mem_cons_of_mem _ rm_284)) (fun _ h9 => h9) rfl (by decide +kernel) rfl rfl (Nat.le_of_ble_eq_true rfl) rd_N_setFloat_28 (fun H locs hP hD hS => ?_)
    have hP : va_P (dC, dI) vwCl (rC cI r ((V 0)) ((V 1)) ((V 2)) ((V 3)) ((V 4)) ((V 5)) ((V 6)) (A1) (U1) (A2) (U2) ((J 0)) ((J 1)) ((J 2)) ((J 3)) ((J 4)) ((J 5)) ((J 6)) ((J 7)) ((J 8)) ((J 9)) ((J 10)) (0) (pe) (ob) (oe) (b1) (e1) (b2) (e2)) H := hP
    have hD : va_D (ef_A (rC cI r ((V 0)) ((V 1)) ((V 2)) ((V 3)) ((V 4)) ((V 5)) ((V 6)) (A1) (U1) (A2) (U2) ((J 0)) ((J 1)) ((J 2)) ((J 3)) ((J 4)) ((J 5)) ((J 6)) ((J 7)) ((J 8)) ((J 9)) ((J 10)) (pb) (pe) (ob) (oe) (b1) (e1) (b2) (e2))) (rC cI r ((V 0)) ((V 1)) ((V 2)) ((V 3)) ((V 4)) ((V 5)) ((V 6)) (A1) (U1) (A2) (U2) ((J 0)) ((J 1)) ((J 2)) ((J 3)) ((J 4)) ((J 5)) ((J 6)) ((J 7)) ((J 8)) ((J 9)) ((J 10)) (0) (pe) (ob) (oe) (b1) (e1) (b2) (e2)) := hD
    rcases Nat.eq_zero_or_pos E with hE0 | hE0
    ·
      have hfp : fp m0 = M := by unfold fp; rw [if_pos (by omega)]; omega
      have hfe : fe m0 = -1074 := by unfold fe; rw [if_pos (by omega)]
      have hfl := fp_lt m0
      refine lv_aload_n hx hb rd_N_setFloat_31 rfl (lv_at hl 2 rfl) ?_
      refine va_get (D := (dC, dI)) (ci := 4) (v := .ref (r 11)) (C := rR4) (T := rT4) (N := 4) hx hb hts (fun w h => List.mem_cons_of_mem _ (rin4 w h)) hown hK hP 1 rfl rfl 1 (by decide) (hts _ (List.mem_cons_of_mem _ rm_286)) (fun _ h9 => h9) rfl rd_N_setFloat_32 ?_
      refine lv_lload_n hx hb rd_N_setFloat_35 rfl (lv_at hl 1 rfl) ?_
      refine lv_lconst (v := jv (0)) hx hb rd_N_setFloat_36 (by decide) ?_
      refine iw_lcmp hx hb (⟨by omega, by omega⟩) (⟨by omega, by omega⟩) rd_N_setFloat_37 ?_
      refine iw_if_ne (tgt := 46) hx hb rd_N_setFloat_38 (by decide) (ir_zc _ _) (fun c2 => ?_) (fun c2 => ?_)
      ·
        exact absurd ((zc_0 _ _).2 (by omega)) c2
      ·
        refine lv_lload hx hb rd_N_setFloat_41 (lv_at hl 0 rfl) ?_
        refine lv_goto (tgt := 52) hx hb rd_N_setFloat_43 (by decide) ?_
        refine iw_topl (y := jv ((fp m0 : Int))) (congrArg jv (by rw [hfp] : (((M : Int)) : Int) = ((fp m0 : Int)))) ?_
        refine ef_callV (As := [.long (jv ((fp m0 : Int)))]) (rest := []) ⟨hx, hb, hml, hown, hts⟩ (b_set l dC dI ht (isB_c (X := (V 3)) (F := (J 3)) (ws := rC cI r ((V 0)) ((V 1)) ((V 2)) ((V 3)) ((V 4)) ((V 5)) ((V 6)) (A1) (U1) (A2) (U2) ((J 0)) ((J 1)) ((J 2)) ((J 3)) ((J 4)) ((J 5)) ((J 6)) ((J 7)) ((J 8)) ((J 9)) ((J 10)) (0) (pe) (ob) (oe) (b1) (e1) (b2) (e2)) (k0 := 11) (k1 := 12) (by decide) rfl rfl) (fp m0) (by omega)) (cwV 1 hts (ef_goodV rm_305 rm_306 rm_307 rm_25 rm_308) rfl rfl rfl (by decide +kernel) ⟨Nat.le_of_ble_eq_true rfl, Nat.le_of_ble_eq_true rfl⟩) hK hNX hP hD hS 11 rfl rfl rfl rfl hl.1 rfl (Nat.le_of_ble_eq_true rfl) rd_N_setFloat_52 ⟨Nat.zero_le _, Nat.zero_le _⟩ (fun o w1 H locs hq hP hD hS => ?_)
        obtain ⟨rfl, g_1, rfl, hg_2⟩ := hq
        have hP : va_P (dC, dI) vwCl (rC cI r ((V 0)) ((V 1)) ((V 2)) (fp m0) ((V 4)) ((V 5)) ((V 6)) (A1) (U1) (A2) (U2) ((J 0)) ((J 1)) ((J 2)) (g_1) ((J 4)) ((J 5)) ((J 6)) ((J 7)) ((J 8)) ((J 9)) ((J 10)) (0) (pe) (ob) (oe) (b1) (e1) (b2) (e2)) H := hP
        have hD : va_D (ef_A (rC cI r ((V 0)) ((V 1)) ((V 2)) ((V 3)) ((V 4)) ((V 5)) ((V 6)) (A1) (U1) (A2) (U2) ((J 0)) ((J 1)) ((J 2)) ((J 3)) ((J 4)) ((J 5)) ((J 6)) ((J 7)) ((J 8)) ((J 9)) ((J 10)) (pb) (pe) (ob) (oe) (b1) (e1) (b2) (e2))) (rC cI r ((V 0)) ((V 1)) ((V 2)) (fp m0) ((V 4)) ((V 5)) ((V 6)) (A1) (U1) (A2) (U2) ((J 0)) ((J 1)) ((J 2)) (g_1) ((J 4)) ((J 5)) ((J 6)) ((J 7)) ((J 8)) ((J 9)) ((J 10)) (0) (pe) (ob) (oe) (b1) (e1) (b2) (e2)) := hD
        have hg_2 : bk (fp m0) g_1 := ⟨hg_2, Nat.le_trans (dn_le (k := 4) (by show fp m0 < 2 ^ (16 * 4); omega)) (by decide)⟩
        refine W.eq (g2 := F0 m 55 ls []) rfl ?_
        refine lv_aload_n hx hb rd_N_setFloat_55 rfl (lv_at hl 2 rfl) ?_
        refine va_get (D := (dC, dI)) (ci := 4) (v := .ref (r 13)) (C := rR4) (T := rT4) (N := 4) hx hb hts (fun w h => List.mem_cons_of_mem _ (rin4 w h)) hown hK hP 1 rfl rfl 2 (by decide) (hts _ (List.mem_cons_of_mem _ rm_289)) (fun _ h9 => h9) rfl rd_N_setFloat_56 ?_
        refine lv_lconst (v := jv (1)) hx hb rd_N_setFloat_59 (by decide) ?_
        refine iw_topl (y := jv (((1 : Nat) : Int))) (congrArg jv (by rfl : ((1) : Int) = (((1 : Nat) : Int)))) ?_
        refine ef_callV (As := [.long (jv (((1 : Nat) : Int)))]) (rest := []) ⟨hx, hb, hml, hown, hts⟩ (b_set l dC dI ht (isB_c (X := (V 4)) (F := (J 4)) (ws := rC cI r ((V 0)) ((V 1)) ((V 2)) (fp m0) ((V 4)) ((V 5)) ((V 6)) (A1) (U1) (A2) (U2) ((J 0)) ((J 1)) ((J 2)) (g_1) ((J 4)) ((J 5)) ((J 6)) ((J 7)) ((J 8)) ((J 9)) ((J 10)) (0) (pe) (ob) (oe) (b1) (e1) (b2) (e2)) (k0 := 13) (k1 := 14) (by decide) rfl rfl) 1 (by decide)) (cwV 1 hts (ef_goodV rm_305 rm_306 rm_307 rm_25 rm_308) rfl rfl rfl (by decide +kernel) ⟨Nat.le_of_ble_eq_true rfl, Nat.le_of_ble_eq_true rfl⟩) hK hNX hP hD hS 13 rfl rfl rfl rfl hl.1 rfl (Nat.le_of_ble_eq_true rfl) rd_N_setFloat_60 ⟨Nat.zero_le _, Nat.zero_le _⟩ (fun o w1 H locs hq hP hD hS => ?_)
        obtain ⟨rfl, g_3, rfl, hg_4⟩ := hq
        have hP : va_P (dC, dI) vwCl (rC cI r ((V 0)) ((V 1)) ((V 2)) (fp m0) (1) ((V 5)) ((V 6)) (A1) (U1) (A2) (U2) ((J 0)) ((J 1)) ((J 2)) (g_1) (g_3) ((J 5)) ((J 6)) ((J 7)) ((J 8)) ((J 9)) ((J 10)) (0) (pe) (ob) (oe) (b1) (e1) (b2) (e2)) H := hP
        have hD : va_D (ef_A (rC cI r ((V 0)) ((V 1)) ((V 2)) ((V 3)) ((V 4)) ((V 5)) ((V 6)) (A1) (U1) (A2) (U2) ((J 0)) ((J 1)) ((J 2)) ((J 3)) ((J 4)) ((J 5)) ((J 6)) ((J 7)) ((J 8)) ((J 9)) ((J 10)) (pb) (pe) (ob) (oe) (b1) (e1) (b2) (e2))) (rC cI r ((V 0)) ((V 1)) ((V 2)) (fp m0) (1) ((V 5)) ((V 6)) (A1) (U1) (A2) (U2) ((J 0)) ((J 1)) ((J 2)) (g_1) (g_3) ((J 5)) ((J 6)) ((J 7)) ((J 8)) ((J 9)) ((J 10)) (0) (pe) (ob) (oe) (b1) (e1) (b2) (e2)) := hD
        have hg_4 : bk (1) g_3 := ⟨hg_4, by decide⟩
        refine W.eq (g2 := F0 m 63 ls []) rfl ?_
        refine lv_aload_n hx hb rd_N_setFloat_63 rfl (lv_at hl 2 rfl) ?_
        refine lv_lload_n hx hb rd_N_setFloat_64 rfl (lv_at hl 1 rfl) ?_
        refine lv_lconst (v := jv (0)) hx hb rd_N_setFloat_65 (by decide) ?_
        refine iw_lcmp hx hb (⟨by omega, by omega⟩) (⟨by omega, by omega⟩) rd_N_setFloat_66 ?_
        refine iw_if_ne (tgt := 76) hx hb rd_N_setFloat_67 (by decide) (ir_zc _ _) (fun c3 => ?_) (fun c3 => ?_)
        ·
          exact absurd ((zc_0 _ _).2 (by omega)) c3
        ·
          refine lv_sipush (v := iv (-1074)) hx hb rd_N_setFloat_70 (by decide) ?_
          refine lv_goto (tgt := 82) hx hb rd_N_setFloat_73 (by decide) ?_
          refine iw_topi (y := iv (fe m0)) (congrArg iv (by rw [hfe] : ((-1074) : Int) = (fe m0))) ?_
          refine va_put (D := (dC, dI)) (ci := 4) (v := .int (iv (fe m0))) (ty := .int) (C := rR4) (T := rT4) (N := 4) hx hb hts (fun w h => List.mem_cons_of_mem _ (rin4 w h)) rty4 rtyok4 rnm4 hown hK hP hD hS 1 rfl rfl 3 (by decide) (hts _ (List.mem_cons_of_mem _ rm_291)) (fun _ h9 => h9) rfl (by decide +kernel) rfl rfl (Nat.le_of_ble_eq_true rfl) rd_N_setFloat_82 (fun H locs hP hD hS => ?_)
          have hP : va_P (dC, dI) vwCl (rC cI r ((V 0)) ((V 1)) ((V 2)) (fp m0) (1) ((V 5)) ((V 6)) (A1) (U1) (A2) (U2) ((J 0)) ((J 1)) ((J 2)) (g_1) (g_3) ((J 5)) ((J 6)) ((J 7)) ((J 8)) ((J 9)) ((J 10)) (0) (fe m0) (ob) (oe) (b1) (e1) (b2) (e2)) H := hP
          have hD : va_D (ef_A (rC cI r ((V 0)) ((V 1)) ((V 2)) ((V 3)) ((V 4)) ((V 5)) ((V 6)) (A1) (U1) (A2) (U2) ((J 0)) ((J 1)) ((J 2)) ((J 3)) ((J 4)) ((J 5)) ((J 6)) ((J 7)) ((J 8)) ((J 9)) ((J 10)) (pb) (pe) (ob) (oe) (b1) (e1) (b2) (e2))) (rC cI r ((V 0)) ((V 1)) ((V 2)) (fp m0) (1) ((V 5)) ((V 6)) (A1) (U1) (A2) (U2) ((J 0)) ((J 1)) ((J 2)) (g_1) (g_3) ((J 5)) ((J 6)) ((J 7)) ((J 8)) ((J 9)) ((J 10)) (0) (fe m0) (ob) (oe) (b1) (e1) (b2) (e2)) := hD
          exact ef_vret hx hb hr hlocks hP hD hS rd_N_setFloat_85 (⟨fun i => [((V 0)), ((V 1)), ((V 2)), (fp m0), (1), ((V 5)), ((V 6))].getD i 0, fun i => [((J 0)), ((J 1)), ((J 2)), (g_1), (g_3), ((J 5)), ((J 6)), ((J 7)), ((J 8)), ((J 9)), ((J 10))].getD i (fun _ => 0), _, _, _, _, rfl, rfl, rfl, rfl, rfl, rfl, rfl, rfl, rfl, rfl, rJ_of (hJ 0 (by decide)) (hJ 1 (by decide)) (hJ 2 (by decide)) hg_2 hg_4 (hJ 5 (by decide)) (hJ 6 (by decide)), kA1, kU1, kA2, kU2⟩)
    ·
      have hfp : fp m0 = M + 4503599627370496 := by unfold fp; rw [if_neg (by omega)]; omega
      have hfe : fe m0 = (E : Int) - 1075 := by unfold fe; rw [if_neg (by omega), hE]
      have hfl := fp_lt m0
      refine lv_aload_n hx hb rd_N_setFloat_31 rfl (lv_at hl 2 rfl) ?_
      refine va_get (D := (dC, dI)) (ci := 4) (v := .ref (r 11)) (C := rR4) (T := rT4) (N := 4) hx hb hts (fun w h => List.mem_cons_of_mem _ (rin4 w h)) hown hK hP 1 rfl rfl 1 (by decide) (hts _ (List.mem_cons_of_mem _ rm_286)) (fun _ h9 => h9) rfl rd_N_setFloat_32 ?_
      refine lv_lload_n hx hb rd_N_setFloat_35 rfl (lv_at hl 1 rfl) ?_
      refine lv_lconst (v := jv (0)) hx hb rd_N_setFloat_36 (by decide) ?_
      refine iw_lcmp hx hb (⟨by omega, by omega⟩) (⟨by omega, by omega⟩) rd_N_setFloat_37 ?_
      refine iw_if_ne (tgt := 46) hx hb rd_N_setFloat_38 (by decide) (ir_zc _ _) (fun c2 => ?_) (fun c2 => ?_)
      ·
        refine lv_lload hx hb rd_N_setFloat_46 (lv_at hl 0 rfl) ?_
        refine lv_ldc2 (v := jv (4503599627370496)) hx hb hown (hts _ (List.mem_cons_of_mem _ rm_465)) rd_N_setFloat_48 ?_
        refine iw_lor52 (a := M) hx hb hMl rd_N_setFloat_51 ?_
        refine iw_topl (y := jv ((fp m0 : Int))) (congrArg jv (by rw [hfp] : ((((M + 4503599627370496 : Nat) : Int)) : Int) = ((fp m0 : Int)))) ?_
        refine ef_callV (As := [.long (jv ((fp m0 : Int)))]) (rest := []) ⟨hx, hb, hml, hown, hts⟩ (b_set l dC dI ht (isB_c (X := (V 3)) (F := (J 3)) (ws := rC cI r ((V 0)) ((V 1)) ((V 2)) ((V 3)) ((V 4)) ((V 5)) ((V 6)) (A1) (U1) (A2) (U2) ((J 0)) ((J 1)) ((J 2)) ((J 3)) ((J 4)) ((J 5)) ((J 6)) ((J 7)) ((J 8)) ((J 9)) ((J 10)) (0) (pe) (ob) (oe) (b1) (e1) (b2) (e2)) (k0 := 11) (k1 := 12) (by decide) rfl rfl) (fp m0) (by omega)) (cwV 1 hts (ef_goodV rm_305 rm_306 rm_307 rm_25 rm_308) rfl rfl rfl (by decide +kernel) ⟨Nat.le_of_ble_eq_true rfl, Nat.le_of_ble_eq_true rfl⟩) hK hNX hP hD hS 11 rfl rfl rfl rfl hl.1 rfl (Nat.le_of_ble_eq_true rfl) rd_N_setFloat_52 ⟨Nat.zero_le _, Nat.zero_le _⟩ (fun o w1 H locs hq hP hD hS => ?_)
        obtain ⟨rfl, g_5, rfl, hg_6⟩ := hq
        have hP : va_P (dC, dI) vwCl (rC cI r ((V 0)) ((V 1)) ((V 2)) (fp m0) ((V 4)) ((V 5)) ((V 6)) (A1) (U1) (A2) (U2) ((J 0)) ((J 1)) ((J 2)) (g_5) ((J 4)) ((J 5)) ((J 6)) ((J 7)) ((J 8)) ((J 9)) ((J 10)) (0) (pe) (ob) (oe) (b1) (e1) (b2) (e2)) H := hP
        have hD : va_D (ef_A (rC cI r ((V 0)) ((V 1)) ((V 2)) ((V 3)) ((V 4)) ((V 5)) ((V 6)) (A1) (U1) (A2) (U2) ((J 0)) ((J 1)) ((J 2)) ((J 3)) ((J 4)) ((J 5)) ((J 6)) ((J 7)) ((J 8)) ((J 9)) ((J 10)) (pb) (pe) (ob) (oe) (b1) (e1) (b2) (e2))) (rC cI r ((V 0)) ((V 1)) ((V 2)) (fp m0) ((V 4)) ((V 5)) ((V 6)) (A1) (U1) (A2) (U2) ((J 0)) ((J 1)) ((J 2)) (g_5) ((J 4)) ((J 5)) ((J 6)) ((J 7)) ((J 8)) ((J 9)) ((J 10)) (0) (pe) (ob) (oe) (b1) (e1) (b2) (e2)) := hD
        have hg_6 : bk (fp m0) g_5 := ⟨hg_6, Nat.le_trans (dn_le (k := 4) (by show fp m0 < 2 ^ (16 * 4); omega)) (by decide)⟩
        refine W.eq (g2 := F0 m 55 ls []) rfl ?_
        refine lv_aload_n hx hb rd_N_setFloat_55 rfl (lv_at hl 2 rfl) ?_
        refine va_get (D := (dC, dI)) (ci := 4) (v := .ref (r 13)) (C := rR4) (T := rT4) (N := 4) hx hb hts (fun w h => List.mem_cons_of_mem _ (rin4 w h)) hown hK hP 1 rfl rfl 2 (by decide) (hts _ (List.mem_cons_of_mem _ rm_289)) (fun _ h9 => h9) rfl rd_N_setFloat_56 ?_
        refine lv_lconst (v := jv (1)) hx hb rd_N_setFloat_59 (by decide) ?_
        refine iw_topl (y := jv (((1 : Nat) : Int))) (congrArg jv (by rfl : ((1) : Int) = (((1 : Nat) : Int)))) ?_
        refine ef_callV (As := [.long (jv (((1 : Nat) : Int)))]) (rest := []) ⟨hx, hb, hml, hown, hts⟩ (b_set l dC dI ht (isB_c (X := (V 4)) (F := (J 4)) (ws := rC cI r ((V 0)) ((V 1)) ((V 2)) (fp m0) ((V 4)) ((V 5)) ((V 6)) (A1) (U1) (A2) (U2) ((J 0)) ((J 1)) ((J 2)) (g_5) ((J 4)) ((J 5)) ((J 6)) ((J 7)) ((J 8)) ((J 9)) ((J 10)) (0) (pe) (ob) (oe) (b1) (e1) (b2) (e2)) (k0 := 13) (k1 := 14) (by decide) rfl rfl) 1 (by decide)) (cwV 1 hts (ef_goodV rm_305 rm_306 rm_307 rm_25 rm_308) rfl rfl rfl (by decide +kernel) ⟨Nat.le_of_ble_eq_true rfl, Nat.le_of_ble_eq_true rfl⟩) hK hNX hP hD hS 13 rfl rfl rfl rfl hl.1 rfl (Nat.le_of_ble_eq_true rfl) rd_N_setFloat_60 ⟨Nat.zero_le _, Nat.zero_le _⟩ (fun o w1 H locs hq hP hD hS => ?_)
        obtain ⟨rfl, g_7, rfl, hg_8⟩ := hq
        have hP : va_P (dC, dI) vwCl (rC cI r ((V 0)) ((V 1)) ((V 2)) (fp m0) (1) ((V 5)) ((V 6)) (A1) (U1) (A2) (U2) ((J 0)) ((J 1)) ((J 2)) (g_5) (g_7) ((J 5)) ((J 6)) ((J 7)) ((J 8)) ((J 9)) ((J 10)) (0) (pe) (ob) (oe) (b1) (e1) (b2) (e2)) H := hP
        have hD : va_D (ef_A (rC cI r ((V 0)) ((V 1)) ((V 2)) ((V 3)) ((V 4)) ((V 5)) ((V 6)) (A1) (U1) (A2) (U2) ((J 0)) ((J 1)) ((J 2)) ((J 3)) ((J 4)) ((J 5)) ((J 6)) ((J 7)) ((J 8)) ((J 9)) ((J 10)) (pb) (pe) (ob) (oe) (b1) (e1) (b2) (e2))) (rC cI r ((V 0)) ((V 1)) ((V 2)) (fp m0) (1) ((V 5)) ((V 6)) (A1) (U1) (A2) (U2) ((J 0)) ((J 1)) ((J 2)) (g_5) (g_7) ((J 5)) ((J 6)) ((J 7)) ((J 8)) ((J 9)) ((J 10)) (0) (pe) (ob) (oe) (b1) (e1) (b2) (e2)) := hD
        have hg_8 : bk (1) g_7 := ⟨hg_8, by decide⟩
        refine W.eq (g2 := F0 m 63 ls []) rfl ?_
        refine lv_aload_n hx hb rd_N_setFloat_63 rfl (lv_at hl 2 rfl) ?_
        refine lv_lload_n hx hb rd_N_setFloat_64 rfl (lv_at hl 1 rfl) ?_
        refine lv_lconst (v := jv (0)) hx hb rd_N_setFloat_65 (by decide) ?_
        refine iw_lcmp hx hb (⟨by omega, by omega⟩) (⟨by omega, by omega⟩) rd_N_setFloat_66 ?_
        refine iw_if_ne (tgt := 76) hx hb rd_N_setFloat_67 (by decide) (ir_zc _ _) (fun c3 => ?_) (fun c3 => ?_)
        ·
          refine lv_lload_n hx hb rd_N_setFloat_76 rfl (lv_at hl 1 rfl) ?_
          refine iw_l2i hx hb rd_N_setFloat_77 ?_
          refine lv_sipush (v := iv (1075)) hx hb rd_N_setFloat_78 (by decide) ?_
          refine iw_isub hx hb rd_N_setFloat_81 ?_
          refine iw_topi (y := iv (fe m0)) (congrArg iv (by rw [hfe] : ((((E : Int)) - (1075)) : Int) = (fe m0))) ?_
          refine va_put (D := (dC, dI)) (ci := 4) (v := .int (iv (fe m0))) (ty := .int) (C := rR4) (T := rT4) (N := 4) hx hb hts (fun w h => List.mem_cons_of_mem _ (rin4 w h)) rty4 rtyok4 rnm4 hown hK hP hD hS 1 rfl rfl 3 (by decide) (hts _ (List.mem_cons_of_mem _ rm_291)) (fun _ h9 => h9) rfl (by decide +kernel) rfl rfl (Nat.le_of_ble_eq_true rfl) rd_N_setFloat_82 (fun H locs hP hD hS => ?_)
          have hP : va_P (dC, dI) vwCl (rC cI r ((V 0)) ((V 1)) ((V 2)) (fp m0) (1) ((V 5)) ((V 6)) (A1) (U1) (A2) (U2) ((J 0)) ((J 1)) ((J 2)) (g_5) (g_7) ((J 5)) ((J 6)) ((J 7)) ((J 8)) ((J 9)) ((J 10)) (0) (fe m0) (ob) (oe) (b1) (e1) (b2) (e2)) H := hP
          have hD : va_D (ef_A (rC cI r ((V 0)) ((V 1)) ((V 2)) ((V 3)) ((V 4)) ((V 5)) ((V 6)) (A1) (U1) (A2) (U2) ((J 0)) ((J 1)) ((J 2)) ((J 3)) ((J 4)) ((J 5)) ((J 6)) ((J 7)) ((J 8)) ((J 9)) ((J 10)) (pb) (pe) (ob) (oe) (b1) (e1) (b2) (e2))) (rC cI r ((V 0)) ((V 1)) ((V 2)) (fp m0) (1) ((V 5)) ((V 6)) (A1) (U1) (A2) (U2) ((J 0)) ((J 1)) ((J 2)) (g_5) (g_7) ((J 5)) ((J 6)) ((J 7)) ((J 8)) ((J 9)) ((J 10)) (0) (fe m0) (ob) (oe) (b1) (e1) (b2) (e2)) := hD
          exact ef_vret hx hb hr hlocks hP hD hS rd_N_setFloat_85 (⟨fun i => [((V 0)), ((V 1)), ((V 2)), (fp m0), (1), ((V 5)), ((V 6))].getD i 0, fun i => [((J 0)), ((J 1)), ((J 2)), (g_5), (g_7), ((J 5)), ((J 6)), ((J 7)), ((J 8)), ((J 9)), ((J 10))].getD i (fun _ => 0), _, _, _, _, rfl, rfl, rfl, rfl, rfl, rfl, rfl, rfl, rfl, rfl, rJ_of (hJ 0 (by decide)) (hJ 1 (by decide)) (hJ 2 (by decide)) hg_6 hg_8 (hJ 5 (by decide)) (hJ 6 (by decide)), kA1, kU1, kA2, kU2⟩)
        ·
          exact absurd ((zc_0 _ _).1 c3) (by omega)
      ·
        exact absurd ((zc_0 _ _).1 c2) (by omega)
  ·
    exact absurd ((zc_ge (m0 : Int) 0).2 (by omega)) (by omega)

set_option maxRecDepth 100000 in
set_option maxHeartbeats 4000000 in
/-- Num.setFloat of the probe -/
theorem r_setFloat1 (l : Launch) (dC : Nat → ClassId) (dI : Nat → Nat → Nat) {cI : ClassId} {tys : List (ClassId × FieldType)} (ht : tys[0]? = some (cI, .int)) (r : Nat → Nat) {V : Nat → Nat} {J : Nat → Nat → Nat} {A1 U1 A2 U2 : Nat} {pb pe ob oe b1 e1 b2 e2 : Int} (hJ : rJ V J) (kA1 : bk A1 (J 7)) (kU1 : bk U1 (J 8)) (kA2 : bk A2 (J 9)) (kU2 : bk U2 (J 10)) (mA1 : dn A1 ≤ 300) (mU1 : dn U1 ≤ 300) (mA2 : dn A2 ≤ 300) (mU2 : dn U2 ≤ 300) (m0 : Nat) (hm : m0 < 9223372036854775808) : ef_C l ry_N_setFloat rw_N_setFloat ({ frames := 1, cells := 0, slots := 0, locals := 24 } : Room) [.ref (r 1), .long (jv ((m0 : Int) - 9223372036854775808))] (dC, dI) vwCl tys (rC cI r ((V 0)) ((V 1)) ((V 2)) ((V 3)) ((V 4)) ((V 5)) ((V 6)) (A1) (U1) (A2) (U2) ((J 0)) ((J 1)) ((J 2)) ((J 3)) ((J 4)) ((J 5)) ((J 6)) ((J 7)) ((J 8)) ((J 9)) ((J 10)) (pb) (pe) (ob) (oe) (b1) (e1) (b2) (e2)) (fun o w1 => ∃ (V2 : Nat → Nat) (J2 : Nat → Nat → Nat) (pb2 pe2 ob2 oe2 : Int), V2 5 = V 5 ∧ V2 6 = V 6 ∧ ob2 = ob ∧ oe2 = oe ∧ V2 3 = fp m0 ∧ V2 4 = 1 ∧ pb2 = 1 ∧ pe2 = fe m0 ∧ o = none ∧ w1 = rC cI r (V2 0) (V2 1) (V2 2) (V2 3) (V2 4) (V2 5) (V2 6) (A1) (U1) (A2) (U2) (J2 0) (J2 1) (J2 2) (J2 3) (J2 4) (J2 5) (J2 6) (J2 7) (J2 8) (J2 9) (J2 10) (pb2) (pe2) (ob2) (oe2) (b1) (e1) (b2) (e2) ∧ rJ V2 J2 ∧ bk (A1) (J2 7) ∧ bk (U1) (J2 8) ∧ bk (A2) (J2 9) ∧ bk (U2) (J2 10)) := by
  refine ef_C.of (cc := rc_N_setFloat) (maxL := 7) (ret := none) (by decide) rfl (Nat.le_of_ble_eq_true rfl) ?_
  intro p e s m below meth c ls hx hb hml hr hts hown hlocks hK hNX hP hD hS hl
  have hl : lv_has ls 7 [(0, .ref (r 1)), (1, .long (jv ((m0 : Int) - 9223372036854775808)))] := hl
  have hown : s.vm.findClass rR4 = some m.cls := hown
  generalize hH : s.heap = H at hP ⊢
  have hS : va_S (ef_A (rC cI r ((V 0)) ((V 1)) ((V 2)) ((V 3)) ((V 4)) ((V 5)) ((V 6)) (A1) (U1) (A2) (U2) ((J 0)) ((J 1)) ((J 2)) ((J 3)) ((J 4)) ((J 5)) ((J 6)) ((J 7)) ((J 8)) ((J 9)) ((J 10)) (pb) (pe) (ob) (oe) (b1) (e1) (b2) (e2))) s.heap H [] := by rw [← hH]; exact hS
  generalize ([] : List Loc) = locs at hS ⊢
  refine lv_lload_n hx hb rd_N_setFloat_0 rfl (lv_at hl 1 rfl) ?_
  refine iw_topl (y := jv (((m0 + 1 * 9223372036854775808 : Nat) : Int))) (jv_cong (by omega)) ?_
  refine lv_bipush (v := iv (52)) hx hb rd_N_setFloat_1 (by decide) ?_
  refine iw_topi (y := iv (((52 : Nat) : Int))) (congrArg iv (by rfl : ((52) : Int) = (((52 : Nat) : Int)))) ?_
  refine iw_lushrk (z := m0 + 1 * 9223372036854775808) (k := 52) hx hb (by omega) (by decide) rd_N_setFloat_3 ?_
  refine iw_topl (y := jv ((((m0 + 1 * 9223372036854775808) / 4503599627370496 : Nat) : Int))) (congrArg jv (by rfl : (((((m0 + 1 * 9223372036854775808) / 2 ^ 52 : Nat) : Int)) : Int) = ((((m0 + 1 * 9223372036854775808) / 4503599627370496 : Nat) : Int)))) ?_
  refine lv_ldc2 (v := jv (2047)) hx hb hown (hts _ (List.mem_cons_of_mem _ rm_463)) rd_N_setFloat_4 ?_
  refine iw_topl (y := jv (((2 ^ 11 - 1 : Nat) : Int))) (congrArg jv (by rfl : ((2047) : Int) = (((2 ^ 11 - 1 : Nat) : Int)))) ?_
  refine iw_landk (z := (m0 + 1 * 9223372036854775808) / 4503599627370496) (k := 11) hx hb (by omega) (by decide) rd_N_setFloat_7 ?_
  obtain ⟨E, hE⟩ : ∃ E, E = m0 / 4503599627370496 := ⟨_, rfl⟩
  refine iw_topl (y := jv ((E : Int))) (congrArg jv (by rw [hE]; show (((m0 + 1 * 9223372036854775808) / 4503599627370496 % 2048 : Nat) : Int) = _; omega : (((((m0 + 1 * 9223372036854775808) / 4503599627370496 % 2 ^ 11 : Nat) : Int)) : Int) = ((E : Int)))) ?_
  refine lv_lstore_n (lv' := [(3, .long (jv ((E : Int)))), (0, .ref (r 1)), (1, .long (jv ((m0 : Int) - 9223372036854775808)))]) hx hb rd_N_setFloat_8 rfl hl (by decide) rfl (fun ls hl => ?_)
  refine lv_lload_n hx hb rd_N_setFloat_9 rfl (lv_at hl 2 rfl) ?_
  refine iw_topl (y := jv (((m0 + 1 * 9223372036854775808 : Nat) : Int))) (jv_cong (by omega)) ?_
  refine lv_ldc2 (v := jv (4503599627370495)) hx hb hown (hts _ (List.mem_cons_of_mem _ rm_464)) rd_N_setFloat_10 ?_
  refine iw_topl (y := jv (((2 ^ 52 - 1 : Nat) : Int))) (congrArg jv (by rfl : ((4503599627370495) : Int) = (((2 ^ 52 - 1 : Nat) : Int)))) ?_
  refine iw_landk (z := m0 + 1 * 9223372036854775808) (k := 52) hx hb (by omega) (by decide) rd_N_setFloat_13 ?_
  obtain ⟨M, hM⟩ : ∃ M, M = m0 % 4503599627370496 := ⟨_, rfl⟩
  refine iw_topl (y := jv ((M : Int))) (congrArg jv (by rw [hM]; show (((m0 + 1 * 9223372036854775808) % 4503599627370496 : Nat) : Int) = _; omega : (((((m0 + 1 * 9223372036854775808) % 2 ^ 52 : Nat) : Int)) : Int) = ((M : Int)))) ?_
  have hMl : M < 4503599627370496 := by omega
  refine lv_lstore (lv' := [(5, .long (jv ((M : Int)))), (3, .long (jv ((E : Int)))), (0, .ref (r 1)), (1, .long (jv ((m0 : Int) - 9223372036854775808)))]) hx hb rd_N_setFloat_14 hl (by decide) rfl (fun ls hl => ?_)
  refine lv_aload_n hx hb rd_N_setFloat_16 rfl (lv_at hl 2 rfl) ?_
  refine lv_lload_n hx hb rd_N_setFloat_17 rfl (lv_at hl 3 rfl) ?_
  refine lv_lconst (v := jv (0)) hx hb rd_N_setFloat_18 (by decide) ?_
  refine iw_lcmp hx hb (⟨by omega, by omega⟩) (⟨by omega, by omega⟩) rd_N_setFloat_19 ?_
  refine iw_if_ge (tgt := 27) hx hb rd_N_setFloat_20 (by decide) (ir_zc _ _) (fun c1 => ?_) (fun c1 => ?_)
  ·
    exact absurd ((zc_ge _ _).1 c1) (by omega)
  ·
    refine lv_iconst (v := iv (1)) hx hb rd_N_setFloat_23 (by decide) ?_
    refine lv_goto (tgt := 28) hx hb rd_N_setFloat_24 (by decide) ?_
    refine va_put (D := (dC, dI)) (ci := 4) (v := .int (iv (1))) (ty := .boolean) (C := rR4) (T := rT4) (N := 4) hx hb hts (fun w h => List.mem_cons_of_mem _ (rin4 w h)) rty4 rtyok4 rnm4 hown hK hP hD hS 1 rfl rfl 0 (by decide) (hts _ (List.mem_cons_of_mem _ rm_284)) (fun _ h9 => h9) rfl (by decide +kernel) rfl rfl (Nat.le_of_ble_eq_true rfl) rd_N_setFloat_28 (fun H locs hP hD hS => ?_)
    have hP : va_P (dC, dI) vwCl (rC cI r ((V 0)) ((V 1)) ((V 2)) ((V 3)) ((V 4)) ((V 5)) ((V 6)) (A1) (U1) (A2) (U2) ((J 0)) ((J 1)) ((J 2)) ((J 3)) ((J 4)) ((J 5)) ((J 6)) ((J 7)) ((J 8)) ((J 9)) ((J 10)) (1) (pe) (ob) (oe) (b1) (e1) (b2) (e2)) H := hP
    have hD : va_D (ef_A (rC cI r ((V 0)) ((V 1)) ((V 2)) ((V 3)) ((V 4)) ((V 5)) ((V 6)) (A1) (U1) (A2) (U2) ((J 0)) ((J 1)) ((J 2)) ((J 3)) ((J 4)) ((J 5)) ((J 6)) ((J 7)) ((J 8)) ((J 9)) ((J 10)) (pb) (pe) (ob) (oe) (b1) (e1) (b2) (e2))) (rC cI r ((V 0)) ((V 1)) ((V 2)) ((V 3)) ((V 4)) ((V 5)) ((V 6)) (A1) (U1) (A2) (U2) ((J 0)) ((J 1)) ((J 2)) ((J 3)) ((J 4)) ((J 5)) ((J 6)) ((J 7)) ((J 8)) ((J 9)) ((J 10)) (1) (pe) (ob) (oe) (b1) (e1) (b2) (e2)) := hD
    rcases Nat.eq_zero_or_pos E with hE0 | hE0
    ·
      have hfp : fp m0 = M := by unfold fp; rw [if_pos (by omega)]; omega
      have hfe : fe m0 = -1074 := by unfold fe; rw [if_pos (by omega)]
      have hfl := fp_lt m0
      refine lv_aload_n hx hb rd_N_setFloat_31 rfl (lv_at hl 2 rfl) ?_
      refine va_get (D := (dC, dI)) (ci := 4) (v := .ref (r 11)) (C := rR4) (T := rT4) (N := 4) hx hb hts (fun w h => List.mem_cons_of_mem _ (rin4 w h)) hown hK hP 1 rfl rfl 1 (by decide) (hts _ (List.mem_cons_of_mem _ rm_286)) (fun _ h9 => h9) rfl rd_N_setFloat_32 ?_
      refine lv_lload_n hx hb rd_N_setFloat_35 rfl (lv_at hl 1 rfl) ?_
      refine lv_lconst (v := jv (0)) hx hb rd_N_setFloat_36 (by decide) ?_
      refine iw_lcmp hx hb (⟨by omega, by omega⟩) (⟨by omega, by omega⟩) rd_N_setFloat_37 ?_
      refine iw_if_ne (tgt := 46) hx hb rd_N_setFloat_38 (by decide) (ir_zc _ _) (fun c2 => ?_) (fun c2 => ?_)
      ·
        exact absurd ((zc_0 _ _).2 (by omega)) c2
      ·
        refine lv_lload hx hb rd_N_setFloat_41 (lv_at hl 0 rfl) ?_
        refine lv_goto (tgt := 52) hx hb rd_N_setFloat_43 (by decide) ?_
        refine iw_topl (y := jv ((fp m0 : Int))) (congrArg jv (by rw [hfp] : (((M : Int)) : Int) = ((fp m0 : Int)))) ?_
        refine ef_callV (As := [.long (jv ((fp m0 : Int)))]) (rest := []) ⟨hx, hb, hml, hown, hts⟩ (b_set l dC dI ht (isB_c (X := (V 3)) (F := (J 3)) (ws := rC cI r ((V 0)) ((V 1)) ((V 2)) ((V 3)) ((V 4)) ((V 5)) ((V 6)) (A1) (U1) (A2) (U2) ((J 0)) ((J 1)) ((J 2)) ((J 3)) ((J 4)) ((J 5)) ((J 6)) ((J 7)) ((J 8)) ((J 9)) ((J 10)) (1) (pe) (ob) (oe) (b1) (e1) (b2) (e2)) (k0 := 11) (k1 := 12) (by decide) rfl rfl) (fp m0) (by omega)) (cwV 1 hts (ef_goodV rm_305 rm_306 rm_307 rm_25 rm_308) rfl rfl rfl (by decide +kernel) ⟨Nat.le_of_ble_eq_true rfl, Nat.le_of_ble_eq_true rfl⟩) hK hNX hP hD hS 11 rfl rfl rfl rfl hl.1 rfl (Nat.le_of_ble_eq_true rfl) rd_N_setFloat_52 ⟨Nat.zero_le _, Nat.zero_le _⟩ (fun o w1 H locs hq hP hD hS => ?_)
        obtain ⟨rfl, g_1, rfl, hg_2⟩ := hq
        have hP : va_P (dC, dI) vwCl (rC cI r ((V 0)) ((V 1)) ((V 2)) (fp m0) ((V 4)) ((V 5)) ((V 6)) (A1) (U1) (A2) (U2) ((J 0)) ((J 1)) ((J 2)) (g_1) ((J 4)) ((J 5)) ((J 6)) ((J 7)) ((J 8)) ((J 9)) ((J 10)) (1) (pe) (ob) (oe) (b1) (e1) (b2) (e2)) H := hP
        have hD : va_D (ef_A (rC cI r ((V 0)) ((V 1)) ((V 2)) ((V 3)) ((V 4)) ((V 5)) ((V 6)) (A1) (U1) (A2) (U2) ((J 0)) ((J 1)) ((J 2)) ((J 3)) ((J 4)) ((J 5)) ((J 6)) ((J 7)) ((J 8)) ((J 9)) ((J 10)) (pb) (pe) (ob) (oe) (b1) (e1) (b2) (e2))) (rC cI r ((V 0)) ((V 1)) ((V 2)) (fp m0) ((V 4)) ((V 5)) ((V 6)) (A1) (U1) (A2) (U2) ((J 0)) ((J 1)) ((J 2)) (g_1) ((J 4)) ((J 5)) ((J 6)) ((J 7)) ((J 8)) ((J 9)) ((J 10)) (1) (pe) (ob) (oe) (b1) (e1) (b2) (e2)) := hD
        have hg_2 : bk (fp m0) g_1 := ⟨hg_2, Nat.le_trans (dn_le (k := 4) (by show fp m0 < 2 ^ (16 * 4); omega)) (by decide)⟩
        refine W.eq (g2 := F0 m 55 ls []) rfl ?_
        refine lv_aload_n hx hb rd_N_setFloat_55 rfl (lv_at hl 2 rfl) ?_
        refine va_get (D := (dC, dI)) (ci := 4) (v := .ref (r 13)) (C := rR4) (T := rT4) (N := 4) hx hb hts (fun w h => List.mem_cons_of_mem _ (rin4 w h)) hown hK hP 1 rfl rfl 2 (by decide) (hts _ (List.mem_cons_of_mem _ rm_289)) (fun _ h9 => h9) rfl rd_N_setFloat_56 ?_
        refine lv_lconst (v := jv (1)) hx hb rd_N_setFloat_59 (by decide) ?_
        refine iw_topl (y := jv (((1 : Nat) : Int))) (congrArg jv (by rfl : ((1) : Int) = (((1 : Nat) : Int)))) ?_
        refine ef_callV (As := [.long (jv (((1 : Nat) : Int)))]) (rest := []) ⟨hx, hb, hml, hown, hts⟩ (b_set l dC dI ht (isB_c (X := (V 4)) (F := (J 4)) (ws := rC cI r ((V 0)) ((V 1)) ((V 2)) (fp m0) ((V 4)) ((V 5)) ((V 6)) (A1) (U1) (A2) (U2) ((J 0)) ((J 1)) ((J 2)) (g_1) ((J 4)) ((J 5)) ((J 6)) ((J 7)) ((J 8)) ((J 9)) ((J 10)) (1) (pe) (ob) (oe) (b1) (e1) (b2) (e2)) (k0 := 13) (k1 := 14) (by decide) rfl rfl) 1 (by decide)) (cwV 1 hts (ef_goodV rm_305 rm_306 rm_307 rm_25 rm_308) rfl rfl rfl (by decide +kernel) ⟨Nat.le_of_ble_eq_true rfl, Nat.le_of_ble_eq_true rfl⟩) hK hNX hP hD hS 13 rfl rfl rfl rfl hl.1 rfl (Nat.le_of_ble_eq_true rfl) rd_N_setFloat_60 ⟨Nat.zero_le _, Nat.zero_le _⟩ (fun o w1 H locs hq hP hD hS => ?_)
        obtain ⟨rfl, g_3, rfl, hg_4⟩ := hq
        have hP : va_P (dC, dI) vwCl (rC cI r ((V 0)) ((V 1)) ((V 2)) (fp m0) (1) ((V 5)) ((V 6)) (A1) (U1) (A2) (U2) ((J 0)) ((J 1)) ((J 2)) (g_1) (g_3) ((J 5)) ((J 6)) ((J 7)) ((J 8)) ((J 9)) ((J 10)) (1) (pe) (ob) (oe) (b1) (e1) (b2) (e2)) H := hP
        have hD : va_D (ef_A (rC cI r ((V 0)) ((V 1)) ((V 2)) ((V 3)) ((V 4)) ((V 5)) ((V 6)) (A1) (U1) (A2) (U2) ((J 0)) ((J 1)) ((J 2)) ((J 3)) ((J 4)) ((J 5)) ((J 6)) ((J 7)) ((J 8)) ((J 9)) ((J 10)) (pb) (pe) (ob) (oe) (b1) (e1) (b2) (e2))) (rC cI r ((V 0)) ((V 1)) ((V 2)) (fp m0) (1) ((V 5)) ((V 6)) (A1) (U1) (A2) (U2) ((J 0)) ((J 1)) ((J 2)) (g_1) (g_3) ((J 5)) ((J 6)) ((J 7)) ((J 8)) ((J 9)) ((J 10)) (1) (pe) (ob) (oe) (b1) (e1) (b2) (e2)) := hD
        have hg_4 : bk (1) g_3 := ⟨hg_4, by decide⟩
        refine W.eq (g2 := F0 m 63 ls []) rfl ?_
        refine lv_aload_n hx hb rd_N_setFloat_63 rfl (lv_at hl 2 rfl) ?_
        refine lv_lload_n hx hb rd_N_setFloat_64 rfl (lv_at hl 1 rfl) ?_
        refine lv_lconst (v := jv (0)) hx hb rd_N_setFloat_65 (by decide) ?_
        refine iw_lcmp hx hb (⟨by omega, by omega⟩) (⟨by omega, by omega⟩) rd_N_setFloat_66 ?_
        refine iw_if_ne (tgt := 76) hx hb rd_N_setFloat_67 (by decide) (ir_zc _ _) (fun c3 => ?_) (fun c3 => ?_)
        ·
          exact absurd ((zc_0 _ _).2 (by omega)) c3
        ·
          refine lv_sipush (v := iv (-1074)) hx hb rd_N_setFloat_70 (by decide) ?_
          refine lv_goto (tgt := 82) hx hb rd_N_setFloat_73 (by decide) ?_
          refine iw_topi (y := iv (fe m0)) (congrArg iv (by rw [hfe] : ((-1074) : Int) = (fe m0))) ?_
          refine va_put (D := (dC, dI)) (ci := 4) (v := .int (iv (fe m0))) (ty := .int) (C := rR4) (T := rT4) (N := 4) hx hb hts (fun w h => List.mem_cons_of_mem _ (rin4 w h)) rty4 rtyok4 rnm4 hown hK hP hD hS 1 rfl rfl 3 (by decide) (hts _ (List.mem_cons_of_mem _ rm_291)) (fun _ h9 => h9) rfl (by decide +kernel) rfl rfl (Nat.le_of_ble_eq_true rfl) rd_N_setFloat_82 (fun H locs hP hD hS => ?_)
          have hP : va_P (dC, dI) vwCl (rC cI r ((V 0)) ((V 1)) ((V 2)) (fp m0) (1) ((V 5)) ((V 6)) (A1) (U1) (A2) (U2) ((J 0)) ((J 1)) ((J 2)) (g_1) (g_3) ((J 5)) ((J 6)) ((J 7)) ((J 8)) ((J 9)) ((J 10)) (1) (fe m0) (ob) (oe) (b1) (e1) (b2) (e2)) H := hP
          have hD : va_D (ef_A (rC cI r ((V 0)) ((V 1)) ((V 2)) ((V 3)) ((V 4)) ((V 5)) ((V 6)) (A1) (U1) (A2) (U2) ((J 0)) ((J 1)) ((J 2)) ((J 3)) ((J 4)) ((J 5)) ((J 6)) ((J 7)) ((J 8)) ((J 9)) ((J 10)) (pb) (pe) (ob) (oe) (b1) (e1) (b2) (e2))) (rC cI r ((V 0)) ((V 1)) ((V 2)) (fp m0) (1) ((V 5)) ((V 6)) (A1) (U1) (A2) (U2) ((J 0)) ((J 1)) ((J 2)) (g_1) (g_3) ((J 5)) ((J 6)) ((J 7)) ((J 8)) ((J 9)) ((J 10)) (1) (fe m0) (ob) (oe) (b1) (e1) (b2) (e2)) := hD
          exact ef_vret hx hb hr hlocks hP hD hS rd_N_setFloat_85 (⟨fun i => [((V 0)), ((V 1)), ((V 2)), (fp m0), (1), ((V 5)), ((V 6))].getD i 0, fun i => [((J 0)), ((J 1)), ((J 2)), (g_1), (g_3), ((J 5)), ((J 6)), ((J 7)), ((J 8)), ((J 9)), ((J 10))].getD i (fun _ => 0), _, _, _, _, rfl, rfl, rfl, rfl, rfl, rfl, rfl, rfl, rfl, rfl, rJ_of (hJ 0 (by decide)) (hJ 1 (by decide)) (hJ 2 (by decide)) hg_2 hg_4 (hJ 5 (by decide)) (hJ 6 (by decide)), kA1, kU1, kA2, kU2⟩)
    ·
      have hfp : fp m0 = M + 4503599627370496 := by unfold fp; rw [if_neg (by omega)]; omega
      have hfe : fe m0 = (E : Int) - 1075 := by unfold fe; rw [if_neg (by omega), hE]
      have hfl := fp_lt m0
      refine lv_aload_n hx hb rd_N_setFloat_31 rfl (lv_at hl 2 rfl) ?_
      refine va_get (D := (dC, dI)) (ci := 4) (v := .ref (r 11)) (C := rR4) (T := rT4) (N := 4) hx hb hts (fun w h => List.mem_cons_of_mem _ (rin4 w h)) hown hK hP 1 rfl rfl 1 (by decide) (hts _ (List.mem_cons_of_mem _ rm_286)) (fun _ h9 => h9) rfl rd_N_setFloat_32 ?_
      refine lv_lload_n hx hb rd_N_setFloat_35 rfl (lv_at hl 1 rfl) ?_
      refine lv_lconst (v := jv (0)) hx hb rd_N_setFloat_36 (by decide) ?_
      refine iw_lcmp hx hb (⟨by omega, by omega⟩) (⟨by omega, by omega⟩) rd_N_setFloat_37 ?_
      refine iw_if_ne (tgt := 46) hx hb rd_N_setFloat_38 (by decide) (ir_zc _ _) (fun c2 => ?_) (fun c2 => ?_)
      ·
        refine lv_lload hx hb rd_N_setFloat_46 (lv_at hl 0 rfl) ?_
        refine lv_ldc2 (v := jv (4503599627370496)) hx hb hown (hts _ (List.mem_cons_of_mem _ rm_465)) rd_N_setFloat_48 ?_
        refine iw_lor52 (a := M) hx hb hMl rd_N_setFloat_51 ?_
        refine iw_topl (y := jv ((fp m0 : Int))) (congrArg jv (by rw [hfp] : ((((M + 4503599627370496 : Nat) : Int)) : Int) = ((fp m0 : Int)))) ?_
        refine ef_callV (As := [.long (jv ((fp m0 : Int)))]) (rest := []) ⟨hx, hb, hml, hown, hts⟩ (b_set l dC dI ht (isB_c (X := (V 3)) (F := (J 3)) (ws := rC cI r ((V 0)) ((V 1)) ((V 2)) ((V 3)) ((V 4)) ((V 5)) ((V 6)) (A1) (U1) (A2) (U2) ((J 0)) ((J 1)) ((J 2)) ((J 3)) ((J 4)) ((J 5)) ((J 6)) ((J 7)) ((J 8)) ((J 9)) ((J 10)) (1) (pe) (ob) (oe) (b1) (e1) (b2) (e2)) (k0 := 11) (k1 := 12) (by decide) rfl rfl) (fp m0) (by omega)) (cwV 1 hts (ef_goodV rm_305 rm_306 rm_307 rm_25 rm_308) rfl rfl rfl (by decide +kernel) ⟨Nat.le_of_ble_eq_true rfl, Nat.le_of_ble_eq_true rfl⟩) hK hNX hP hD hS 11 rfl rfl rfl rfl hl.1 rfl (Nat.le_of_ble_eq_true rfl) rd_N_setFloat_52 ⟨Nat.zero_le _, Nat.zero_le _⟩ (fun o w1 H locs hq hP hD hS => ?_)
        obtain ⟨rfl, g_5, rfl, hg_6⟩ := hq
        have hP : va_P (dC, dI) vwCl (rC cI r ((V 0)) ((V 1)) ((V 2)) (fp m0) ((V 4)) ((V 5)) ((V 6)) (A1) (U1) (A2) (U2) ((J 0)) ((J 1)) ((J 2)) (g_5) ((J 4)) ((J 5)) ((J 6)) ((J 7)) ((J 8)) ((J 9)) ((J 10)) (1) (pe) (ob) (oe) (b1) (e1) (b2) (e2)) H := hP
        have hD : va_D (ef_A (rC cI r ((V 0)) ((V 1)) ((V 2)) ((V 3)) ((V 4)) ((V 5)) ((V 6)) (A1) (U1) (A2) (U2) ((J 0)) ((J 1)) ((J 2)) ((J 3)) ((J 4)) ((J 5)) ((J 6)) ((J 7)) ((J 8)) ((J 9)) ((J 10)) (pb) (pe) (ob) (oe) (b1) (e1) (b2) (e2))) (rC cI r ((V 0)) ((V 1)) ((V 2)) (fp m0) ((V 4)) ((V 5)) ((V 6)) (A1) (U1) (A2) (U2) ((J 0)) ((J 1)) ((J 2)) (g_5) ((J 4)) ((J 5)) ((J 6)) ((J 7)) ((J 8)) ((J 9)) ((J 10)) (1) (pe) (ob) (oe) (b1) (e1) (b2) (e2)) := hD
        have hg_6 : bk (fp m0) g_5 := ⟨hg_6, Nat.le_trans (dn_le (k := 4) (by show fp m0 < 2 ^ (16 * 4); omega)) (by decide)⟩
        refine W.eq (g2 := F0 m 55 ls []) rfl ?_
        refine lv_aload_n hx hb rd_N_setFloat_55 rfl (lv_at hl 2 rfl) ?_
        refine va_get (D := (dC, dI)) (ci := 4) (v := .ref (r 13)) (C := rR4) (T := rT4) (N := 4) hx hb hts (fun w h => List.mem_cons_of_mem _ (rin4 w h)) hown hK hP 1 rfl rfl 2 (by decide) (hts _ (List.mem_cons_of_mem _ rm_289)) (fun _ h9 => h9) rfl rd_N_setFloat_56 ?_
        refine lv_lconst (v := jv (1)) hx hb rd_N_setFloat_59 (by decide) ?_
        refine iw_topl (y := jv (((1 : Nat) : Int))) (congrArg jv (by rfl : ((1) : Int) = (((1 : Nat) : Int)))) ?_
        refine ef_callV (As := [.long (jv (((1 : Nat) : Int)))]) (rest := []) ⟨hx, hb, hml, hown, hts⟩ (b_set l dC dI ht (isB_c (X := (V 4)) (F := (J 4)) (ws := rC cI r ((V 0)) ((V 1)) ((V 2)) (fp m0) ((V 4)) ((V 5)) ((V 6)) (A1) (U1) (A2) (U2) ((J 0)) ((J 1)) ((J 2)) (g_5) ((J 4)) ((J 5)) ((J 6)) ((J 7)) ((J 8)) ((J 9)) ((J 10)) (1) (pe) (ob) (oe) (b1) (e1) (b2) (e2)) (k0 := 13) (k1 := 14) (by decide) rfl rfl) 1 (by decide)) (cwV 1 hts (ef_goodV rm_305 rm_306 rm_307 rm_25 rm_308) rfl rfl rfl (by decide +kernel) ⟨Nat.le_of_ble_eq_true rfl, Nat.le_of_ble_eq_true rfl⟩) hK hNX hP hD hS 13 rfl rfl rfl rfl hl.1 rfl (Nat.le_of_ble_eq_true rfl) rd_N_setFloat_60 ⟨Nat.zero_le _, Nat.zero_le _⟩ (fun o w1 H locs hq hP hD hS => ?_)
        obtain ⟨rfl, g_7, rfl, hg_8⟩ := hq
        have hP : va_P (dC, dI) vwCl (rC cI r ((V 0)) ((V 1)) ((V 2)) (fp m0) (1) ((V 5)) ((V 6)) (A1) (U1) (A2) (U2) ((J 0)) ((J 1)) ((J 2)) (g_5) (g_7) ((J 5)) ((J 6)) ((J 7)) ((J 8)) ((J 9)) ((J 10)) (1) (pe) (ob) (oe) (b1) (e1) (b2) (e2)) H := hP
        have hD : va_D (ef_A (rC cI r ((V 0)) ((V 1)) ((V 2)) ((V 3)) ((V 4)) ((V 5)) ((V 6)) (A1) (U1) (A2) (U2) ((J 0)) ((J 1)) ((J 2)) ((J 3)) ((J 4)) ((J 5)) ((J 6)) ((J 7)) ((J 8)) ((J 9)) ((J 10)) (pb) (pe) (ob) (oe) (b1) (e1) (b2) (e2))) (rC cI r ((V 0)) ((V 1)) ((V 2)) (fp m0) (1) ((V 5)) ((V 6)) (A1) (U1) (A2) (U2) ((J 0)) ((J 1)) ((J 2)) (g_5) (g_7) ((J 5)) ((J 6)) ((J 7)) ((J 8)) ((J 9)) ((J 10)) (1) (pe) (ob) (oe) (b1) (e1) (b2) (e2)) := hD
        have hg_8 : bk (1) g_7 := ⟨hg_8, by decide⟩
        refine W.eq (g2 := F0 m 63 ls []) rfl ?_
        refine lv_aload_n hx hb rd_N_setFloat_63 rfl (lv_at hl 2 rfl) ?_
        refine lv_lload_n hx hb rd_N_setFloat_64 rfl (lv_at hl 1 rfl) ?_
        refine lv_lconst (v := jv (0)) hx hb rd_N_setFloat_65 (by decide) ?_
        refine iw_lcmp hx hb (⟨by omega, by omega⟩) (⟨by omega, by omega⟩) rd_N_setFloat_66 ?_
        refine iw_if_ne (tgt := 76) hx hb rd_N_setFloat_67 (by decide) (ir_zc _ _) (fun c3 => ?_) (fun c3 => ?_)
        ·
          refine lv_lload_n hx hb rd_N_setFloat_76 rfl (lv_at hl 1 rfl) ?_
          refine iw_l2i hx hb rd_N_setFloat_77 ?_
          refine lv_sipush (v := iv (1075)) hx hb rd_N_setFloat_78 (by decide) ?_
          refine iw_isub hx hb rd_N_setFloat_81 ?_
          refine iw_topi (y := iv (fe m0)) (congrArg iv (by rw [hfe] : ((((E : Int)) - (1075)) : Int) = (fe m0))) ?_
          refine va_put (D := (dC, dI)) (ci := 4) (v := .int (iv (fe m0))) (ty := .int) (C := rR4) (T := rT4) (N := 4) hx hb hts (fun w h => List.mem_cons_of_mem _ (rin4 w h)) rty4 rtyok4 rnm4 hown hK hP hD hS 1 rfl rfl 3 (by decide) (hts _ (List.mem_cons_of_mem _ rm_291)) (fun _ h9 => h9) rfl (by decide +kernel) rfl rfl (Nat.le_of_ble_eq_true rfl) rd_N_setFloat_82 (fun H locs hP hD hS => ?_)
          have hP : va_P (dC, dI) vwCl (rC cI r ((V 0)) ((V 1)) ((V 2)) (fp m0) (1) ((V 5)) ((V 6)) (A1) (U1) (A2) (U2) ((J 0)) ((J 1)) ((J 2)) (g_5) (g_7) ((J 5)) ((J 6)) ((J 7)) ((J 8)) ((J 9)) ((J 10)) (1) (fe m0) (ob) (oe) (b1) (e1) (b2) (e2)) H := hP
          have hD : va_D (ef_A (rC cI r ((V 0)) ((V 1)) ((V 2)) ((V 3)) ((V 4)) ((V 5)) ((V 6)) (A1) (U1) (A2) (U2) ((J 0)) ((J 1)) ((J 2)) ((J 3)) ((J 4)) ((J 5)) ((J 6)) ((J 7)) ((J 8)) ((J 9)) ((J 10)) (pb) (pe) (ob) (oe) (b1) (e1) (b2) (e2))) (rC cI r ((V 0)) ((V 1)) ((V 2)) (fp m0) (1) ((V 5)) ((V 6)) (A1) (U1) (A2) (U2) ((J 0)) ((J 1)) ((J 2)) (g_5) (g_7) ((J 5)) ((J 6)) ((J 7)) ((J 8)) ((J 9)) ((J 10)) (1) (fe m0) (ob) (oe) (b1) (e1) (b2) (e2)) := hD
          exact ef_vret hx hb hr hlocks hP hD hS rd_N_setFloat_85 (⟨fun i => [((V 0)), ((V 1)), ((V 2)), (fp m0), (1), ((V 5)), ((V 6))].getD i 0, fun i => [((J 0)), ((J 1)), ((J 2)), (g_5), (g_7), ((J 5)), ((J 6)), ((J 7)), ((J 8)), ((J 9)), ((J 10))].getD i (fun _ => 0), _, _, _, _, rfl, rfl, rfl, rfl, rfl, rfl, rfl, rfl, rfl, rfl, rJ_of (hJ 0 (by decide)) (hJ 1 (by decide)) (hJ 2 (by decide)) hg_6 hg_8 (hJ 5 (by decide)) (hJ 6 (by decide)), kA1, kU1, kA2, kU2⟩)
        ·
          exact absurd ((zc_0 _ _).1 c3) (by omega)
      ·
        exact absurd ((zc_0 _ _).1 c2) (by omega)

set_option maxRecDepth 100000 in
set_option maxHeartbeats 4000000 in
/-- opposite.copy -/
theorem r_ncopy0 (l : Launch) (dC : Nat → ClassId) (dI : Nat → Nat → Nat) {cI : ClassId} {tys : List (ClassId × FieldType)} (ht : tys[0]? = some (cI, .int)) (r : Nat → Nat) {V : Nat → Nat} {J : Nat → Nat → Nat} {A1 U1 A2 U2 : Nat} {pb pe ob oe b1 e1 b2 e2 : Int} (hJ : rJ V J) (kA1 : bk A1 (J 7)) (kU1 : bk U1 (J 8)) (kA2 : bk A2 (J 9)) (kU2 : bk U2 (J 10)) (mA1 : dn A1 ≤ 300) (mU1 : dn U1 ≤ 300) (mA2 : dn A2 ≤ 300) (mU2 : dn U2 ≤ 300) (hbo : b1 = 0 ∨ b1 = 1) : ef_C l ry_N_copy rw_N_copy ({ frames := 1, cells := 0, slots := 0, locals := 22 } : Room) [.ref (r 2), .ref (r 3)] (dC, dI) vwCl tys (rC cI r ((V 0)) ((V 1)) ((V 2)) ((V 3)) ((V 4)) ((V 5)) ((V 6)) (A1) (U1) (A2) (U2) ((J 0)) ((J 1)) ((J 2)) ((J 3)) ((J 4)) ((J 5)) ((J 6)) ((J 7)) ((J 8)) ((J 9)) ((J 10)) (pb) (pe) (ob) (oe) (b1) (e1) (b2) (e2)) (fun o w1 => ∃ (V2 : Nat → Nat) (J2 : Nat → Nat → Nat) (pb2 pe2 ob2 oe2 : Int), V2 5 = A1 ∧ V2 6 = U1 ∧ ob2 = b1 ∧ oe2 = e1 ∧ o = none ∧ w1 = rC cI r (V2 0) (V2 1) (V2 2) (V2 3) (V2 4) (V2 5) (V2 6) (A1) (U1) (A2) (U2) (J2 0) (J2 1) (J2 2) (J2 3) (J2 4) (J2 5) (J2 6) (J2 7) (J2 8) (J2 9) (J2 10) (pb2) (pe2) (ob2) (oe2) (b1) (e1) (b2) (e2) ∧ rJ V2 J2 ∧ bk (A1) (J2 7) ∧ bk (U1) (J2 8) ∧ bk (A2) (J2 9) ∧ bk (U2) (J2 10)) := by
  refine ef_C.of (cc := rc_N_copy) (maxL := 2) (ret := none) (by decide) rfl (Nat.le_of_ble_eq_true rfl) ?_
  intro p e s m below meth c ls hx hb hml hr hts hown hlocks hK hNX hP hD hS hl
  have hl : lv_has ls 2 [(0, .ref (r 2)), (1, .ref (r 3))] := hl
  have hown : s.vm.findClass rR4 = some m.cls := hown
  generalize hH : s.heap = H at hP ⊢
  have hS : va_S (ef_A (rC cI r ((V 0)) ((V 1)) ((V 2)) ((V 3)) ((V 4)) ((V 5)) ((V 6)) (A1) (U1) (A2) (U2) ((J 0)) ((J 1)) ((J 2)) ((J 3)) ((J 4)) ((J 5)) ((J 6)) ((J 7)) ((J 8)) ((J 9)) ((J 10)) (pb) (pe) (ob) (oe) (b1) (e1) (b2) (e2))) s.heap H [] := by rw [← hH]; exact hS
  generalize ([] : List Loc) = locs at hS ⊢
  refine lv_aload_n hx hb rd_N_copy_0 rfl (lv_at hl 0 rfl) ?_
  refine lv_aload_n hx hb rd_N_copy_1 rfl (lv_at hl 1 rfl) ?_
  refine va_get (D := (dC, dI)) (ci := 4) (v := .int (iv (b1))) (C := rR4) (T := rT4) (N := 4) hx hb hts (fun w h => List.mem_cons_of_mem _ (rin4 w h)) hown hK hP 3 rfl rfl 0 (by decide) (hts _ (List.mem_cons_of_mem _ rm_284)) (fun _ h9 => h9) rfl rd_N_copy_2 ?_
  refine va_put (D := (dC, dI)) (ci := 4) (v := .int (iv (b1))) (ty := .boolean) (C := rR4) (T := rT4) (N := 4) hx hb hts (fun w h => List.mem_cons_of_mem _ (rin4 w h)) rty4 rtyok4 rnm4 hown hK hP hD hS 2 rfl rfl 0 (by decide) (hts _ (List.mem_cons_of_mem _ rm_284)) (fun _ h9 => h9) rfl (by decide +kernel) (by rcases hbo with h9 | h9 <;> rw [h9] <;> rfl) (by rcases hbo with h9 | h9 <;> rw [h9] <;> rfl) (Nat.le_of_ble_eq_true rfl) rd_N_copy_5 (fun H locs hP hD hS => ?_)
  have hP : va_P (dC, dI) vwCl (rC cI r ((V 0)) ((V 1)) ((V 2)) ((V 3)) ((V 4)) ((V 5)) ((V 6)) (A1) (U1) (A2) (U2) ((J 0)) ((J 1)) ((J 2)) ((J 3)) ((J 4)) ((J 5)) ((J 6)) ((J 7)) ((J 8)) ((J 9)) ((J 10)) (pb) (pe) (b1) (oe) (b1) (e1) (b2) (e2)) H := hP
  have hD : va_D (ef_A (rC cI r ((V 0)) ((V 1)) ((V 2)) ((V 3)) ((V 4)) ((V 5)) ((V 6)) (A1) (U1) (A2) (U2) ((J 0)) ((J 1)) ((J 2)) ((J 3)) ((J 4)) ((J 5)) ((J 6)) ((J 7)) ((J 8)) ((J 9)) ((J 10)) (pb) (pe) (ob) (oe) (b1) (e1) (b2) (e2))) (rC cI r ((V 0)) ((V 1)) ((V 2)) ((V 3)) ((V 4)) ((V 5)) ((V 6)) (A1) (U1) (A2) (U2) ((J 0)) ((J 1)) ((J 2)) ((J 3)) ((J 4)) ((J 5)) ((J 6)) ((J 7)) ((J 8)) ((J 9)) ((J 10)) (pb) (pe) (b1) (oe) (b1) (e1) (b2) (e2)) := hD
  refine lv_aload_n hx hb rd_N_copy_8 rfl (lv_at hl 0 rfl) ?_
  refine va_get (D := (dC, dI)) (ci := 4) (v := .ref (r 15)) (C := rR4) (T := rT4) (N := 4) hx hb hts (fun w h => List.mem_cons_of_mem _ (rin4 w h)) hown hK hP 2 rfl rfl 1 (by decide) (hts _ (List.mem_cons_of_mem _ rm_286)) (fun _ h9 => h9) rfl rd_N_copy_9 ?_
  refine lv_aload_n hx hb rd_N_copy_12 rfl (lv_at hl 1 rfl) ?_
  refine va_get (D := (dC, dI)) (ci := 4) (v := .ref (r 19)) (C := rR4) (T := rT4) (N := 4) hx hb hts (fun w h => List.mem_cons_of_mem _ (rin4 w h)) hown hK hP 3 rfl rfl 1 (by decide) (hts _ (List.mem_cons_of_mem _ rm_286)) (fun _ h9 => h9) rfl rd_N_copy_13 ?_
  refine ef_callV (As := [.ref (r 19)]) (rest := []) ⟨hx, hb, hml, hown, hts⟩ (b_copy l dC dI ht (isB_c (X := (V 5)) (F := (J 5)) (ws := rC cI r ((V 0)) ((V 1)) ((V 2)) ((V 3)) ((V 4)) ((V 5)) ((V 6)) (A1) (U1) (A2) (U2) ((J 0)) ((J 1)) ((J 2)) ((J 3)) ((J 4)) ((J 5)) ((J 6)) ((J 7)) ((J 8)) ((J 9)) ((J 10)) (pb) (pe) (b1) (oe) (b1) (e1) (b2) (e2)) (k0 := 15) (k1 := 16) (by decide) rfl rfl) (isB_c (X := A1) (F := (J 7)) (ws := rC cI r ((V 0)) ((V 1)) ((V 2)) ((V 3)) ((V 4)) ((V 5)) ((V 6)) (A1) (U1) (A2) (U2) ((J 0)) ((J 1)) ((J 2)) ((J 3)) ((J 4)) ((J 5)) ((J 6)) ((J 7)) ((J 8)) ((J 9)) ((J 10)) (pb) (pe) (b1) (oe) (b1) (e1) (b2) (e2)) (k0 := 19) (k1 := 20) (by decide) rfl rfl) kA1.1 kA1.2 (apt_c (k0 := 15) (k1 := 16) (j0 := 19) (j1 := 20) rfl)) (cwV 1 hts (ef_goodV rm_448 rm_353 rm_354 rm_25 rm_355) rfl rfl rfl (by decide +kernel) ⟨Nat.le_of_ble_eq_true rfl, Nat.le_of_ble_eq_true rfl⟩) hK hNX hP hD hS 15 rfl rfl rfl rfl hl.1 rfl (Nat.le_of_ble_eq_true rfl) rd_N_copy_16 ⟨Nat.zero_le _, Nat.zero_le _⟩ (fun o w1 H locs hq hP hD hS => ?_)
  obtain ⟨rfl, g_1, rfl, hg_2⟩ := hq
  have hP : va_P (dC, dI) vwCl (rC cI r ((V 0)) ((V 1)) ((V 2)) ((V 3)) ((V 4)) (A1) ((V 6)) (A1) (U1) (A2) (U2) ((J 0)) ((J 1)) ((J 2)) ((J 3)) ((J 4)) (g_1) ((J 6)) ((J 7)) ((J 8)) ((J 9)) ((J 10)) (pb) (pe) (b1) (oe) (b1) (e1) (b2) (e2)) H := hP
  have hD : va_D (ef_A (rC cI r ((V 0)) ((V 1)) ((V 2)) ((V 3)) ((V 4)) ((V 5)) ((V 6)) (A1) (U1) (A2) (U2) ((J 0)) ((J 1)) ((J 2)) ((J 3)) ((J 4)) ((J 5)) ((J 6)) ((J 7)) ((J 8)) ((J 9)) ((J 10)) (pb) (pe) (ob) (oe) (b1) (e1) (b2) (e2))) (rC cI r ((V 0)) ((V 1)) ((V 2)) ((V 3)) ((V 4)) (A1) ((V 6)) (A1) (U1) (A2) (U2) ((J 0)) ((J 1)) ((J 2)) ((J 3)) ((J 4)) (g_1) ((J 6)) ((J 7)) ((J 8)) ((J 9)) ((J 10)) (pb) (pe) (b1) (oe) (b1) (e1) (b2) (e2)) := hD
  have hg_2 : bk (A1) g_1 := ⟨hg_2, kA1.2⟩
  refine W.eq (g2 := F0 m 19 ls []) rfl ?_
  refine lv_aload_n hx hb rd_N_copy_19 rfl (lv_at hl 0 rfl) ?_
  refine va_get (D := (dC, dI)) (ci := 4) (v := .ref (r 17)) (C := rR4) (T := rT4) (N := 4) hx hb hts (fun w h => List.mem_cons_of_mem _ (rin4 w h)) hown hK hP 2 rfl rfl 2 (by decide) (hts _ (List.mem_cons_of_mem _ rm_289)) (fun _ h9 => h9) rfl rd_N_copy_20 ?_
  refine lv_aload_n hx hb rd_N_copy_23 rfl (lv_at hl 1 rfl) ?_
  refine va_get (D := (dC, dI)) (ci := 4) (v := .ref (r 21)) (C := rR4) (T := rT4) (N := 4) hx hb hts (fun w h => List.mem_cons_of_mem _ (rin4 w h)) hown hK hP 3 rfl rfl 2 (by decide) (hts _ (List.mem_cons_of_mem _ rm_289)) (fun _ h9 => h9) rfl rd_N_copy_24 ?_
  refine ef_callV (As := [.ref (r 21)]) (rest := []) ⟨hx, hb, hml, hown, hts⟩ (b_copy l dC dI ht (isB_c (X := (V 6)) (F := (J 6)) (ws := rC cI r ((V 0)) ((V 1)) ((V 2)) ((V 3)) ((V 4)) (A1) ((V 6)) (A1) (U1) (A2) (U2) ((J 0)) ((J 1)) ((J 2)) ((J 3)) ((J 4)) (g_1) ((J 6)) ((J 7)) ((J 8)) ((J 9)) ((J 10)) (pb) (pe) (b1) (oe) (b1) (e1) (b2) (e2)) (k0 := 17) (k1 := 18) (by decide) rfl rfl) (isB_c (X := U1) (F := (J 8)) (ws := rC cI r ((V 0)) ((V 1)) ((V 2)) ((V 3)) ((V 4)) (A1) ((V 6)) (A1) (U1) (A2) (U2) ((J 0)) ((J 1)) ((J 2)) ((J 3)) ((J 4)) (g_1) ((J 6)) ((J 7)) ((J 8)) ((J 9)) ((J 10)) (pb) (pe) (b1) (oe) (b1) (e1) (b2) (e2)) (k0 := 21) (k1 := 22) (by decide) rfl rfl) kU1.1 kU1.2 (apt_c (k0 := 17) (k1 := 18) (j0 := 21) (j1 := 22) rfl)) (cwV 1 hts (ef_goodV rm_448 rm_353 rm_354 rm_25 rm_355) rfl rfl rfl (by decide +kernel) ⟨Nat.le_of_ble_eq_true rfl, Nat.le_of_ble_eq_true rfl⟩) hK hNX hP hD hS 17 rfl rfl rfl rfl hl.1 rfl (Nat.le_of_ble_eq_true rfl) rd_N_copy_27 ⟨Nat.zero_le _, Nat.zero_le _⟩ (fun o w1 H locs hq hP hD hS => ?_)
  obtain ⟨rfl, g_3, rfl, hg_4⟩ := hq
  have hP : va_P (dC, dI) vwCl (rC cI r ((V 0)) ((V 1)) ((V 2)) ((V 3)) ((V 4)) (A1) (U1) (A1) (U1) (A2) (U2) ((J 0)) ((J 1)) ((J 2)) ((J 3)) ((J 4)) (g_1) (g_3) ((J 7)) ((J 8)) ((J 9)) ((J 10)) (pb) (pe) (b1) (oe) (b1) (e1) (b2) (e2)) H := hP
  have hD : va_D (ef_A (rC cI r ((V 0)) ((V 1)) ((V 2)) ((V 3)) ((V 4)) ((V 5)) ((V 6)) (A1) (U1) (A2) (U2) ((J 0)) ((J 1)) ((J 2)) ((J 3)) ((J 4)) ((J 5)) ((J 6)) ((J 7)) ((J 8)) ((J 9)) ((J 10)) (pb) (pe) (ob) (oe) (b1) (e1) (b2) (e2))) (rC cI r ((V 0)) ((V 1)) ((V 2)) ((V 3)) ((V 4)) (A1) (U1) (A1) (U1) (A2) (U2) ((J 0)) ((J 1)) ((J 2)) ((J 3)) ((J 4)) (g_1) (g_3) ((J 7)) ((J 8)) ((J 9)) ((J 10)) (pb) (pe) (b1) (oe) (b1) (e1) (b2) (e2)) := hD
  have hg_4 : bk (U1) g_3 := ⟨hg_4, kU1.2⟩
  refine W.eq (g2 := F0 m 30 ls []) rfl ?_
  refine lv_aload_n hx hb rd_N_copy_30 rfl (lv_at hl 0 rfl) ?_
  refine lv_aload_n hx hb rd_N_copy_31 rfl (lv_at hl 1 rfl) ?_
  refine va_get (D := (dC, dI)) (ci := 4) (v := .int (iv (e1))) (C := rR4) (T := rT4) (N := 4) hx hb hts (fun w h => List.mem_cons_of_mem _ (rin4 w h)) hown hK hP 3 rfl rfl 3 (by decide) (hts _ (List.mem_cons_of_mem _ rm_291)) (fun _ h9 => h9) rfl rd_N_copy_32 ?_
  refine va_put (D := (dC, dI)) (ci := 4) (v := .int (iv (e1))) (ty := .int) (C := rR4) (T := rT4) (N := 4) hx hb hts (fun w h => List.mem_cons_of_mem _ (rin4 w h)) rty4 rtyok4 rnm4 hown hK hP hD hS 2 rfl rfl 3 (by decide) (hts _ (List.mem_cons_of_mem _ rm_291)) (fun _ h9 => h9) rfl (by decide +kernel) rfl rfl (Nat.le_of_ble_eq_true rfl) rd_N_copy_35 (fun H locs hP hD hS => ?_)
  have hP : va_P (dC, dI) vwCl (rC cI r ((V 0)) ((V 1)) ((V 2)) ((V 3)) ((V 4)) (A1) (U1) (A1) (U1) (A2) (U2) ((J 0)) ((J 1)) ((J 2)) ((J 3)) ((J 4)) (g_1) (g_3) ((J 7)) ((J 8)) ((J 9)) ((J 10)) (pb) (pe) (b1) (e1) (b1) (e1) (b2) (e2)) H := hP
  have hD : va_D (ef_A (rC cI r ((V 0)) ((V 1)) ((V 2)) ((V 3)) ((V 4)) ((V 5)) ((V 6)) (A1) (U1) (A2) (U2) ((J 0)) ((J 1)) ((J 2)) ((J 3)) ((J 4)) ((J 5)) ((J 6)) ((J 7)) ((J 8)) ((J 9)) ((J 10)) (pb) (pe) (ob) (oe) (b1) (e1) (b2) (e2))) (rC cI r ((V 0)) ((V 1)) ((V 2)) ((V 3)) ((V 4)) (A1) (U1) (A1) (U1) (A2) (U2) ((J 0)) ((J 1)) ((J 2)) ((J 3)) ((J 4)) (g_1) (g_3) ((J 7)) ((J 8)) ((J 9)) ((J 10)) (pb) (pe) (b1) (e1) (b1) (e1) (b2) (e2)) := hD
  exact ef_vret hx hb hr hlocks hP hD hS rd_N_copy_38 (⟨fun i => [((V 0)), ((V 1)), ((V 2)), ((V 3)), ((V 4)), (A1), (U1)].getD i 0, fun i => [((J 0)), ((J 1)), ((J 2)), ((J 3)), ((J 4)), (g_1), (g_3), ((J 7)), ((J 8)), ((J 9)), ((J 10))].getD i (fun _ => 0), _, _, _, _, rfl, rfl, rfl, rfl, rfl, rfl, rJ_of (hJ 0 (by decide)) (hJ 1 (by decide)) (hJ 2 (by decide)) (hJ 3 (by decide)) (hJ 4 (by decide)) hg_2 hg_4, kA1, kU1, kA2, kU2⟩)

set_option maxRecDepth 100000 in
set_option maxHeartbeats 4000000 in
/-- opposite.copy -/
theorem r_ncopy1 (l : Launch) (dC : Nat → ClassId) (dI : Nat → Nat → Nat) {cI : ClassId} {tys : List (ClassId × FieldType)} (ht : tys[0]? = some (cI, .int)) (r : Nat → Nat) {V : Nat → Nat} {J : Nat → Nat → Nat} {A1 U1 A2 U2 : Nat} {pb pe ob oe b1 e1 b2 e2 : Int} (hJ : rJ V J) (kA1 : bk A1 (J 7)) (kU1 : bk U1 (J 8)) (kA2 : bk A2 (J 9)) (kU2 : bk U2 (J 10)) (mA1 : dn A1 ≤ 300) (mU1 : dn U1 ≤ 300) (mA2 : dn A2 ≤ 300) (mU2 : dn U2 ≤ 300) (hbo : b2 = 0 ∨ b2 = 1) : ef_C l ry_N_copy rw_N_copy ({ frames := 1, cells := 0, slots := 0, locals := 22 } : Room) [.ref (r 2), .ref (r 4)] (dC, dI) vwCl tys (rC cI r ((V 0)) ((V 1)) ((V 2)) ((V 3)) ((V 4)) ((V 5)) ((V 6)) (A1) (U1) (A2) (U2) ((J 0)) ((J 1)) ((J 2)) ((J 3)) ((J 4)) ((J 5)) ((J 6)) ((J 7)) ((J 8)) ((J 9)) ((J 10)) (pb) (pe) (ob) (oe) (b1) (e1) (b2) (e2)) (fun o w1 => ∃ (V2 : Nat → Nat) (J2 : Nat → Nat → Nat) (pb2 pe2 ob2 oe2 : Int), V2 5 = A2 ∧ V2 6 = U2 ∧ ob2 = b2 ∧ oe2 = e2 ∧ o = none ∧ w1 = rC cI r (V2 0) (V2 1) (V2 2) (V2 3) (V2 4) (V2 5) (V2 6) (A1) (U1) (A2) (U2) (J2 0) (J2 1) (J2 2) (J2 3) (J2 4) (J2 5) (J2 6) (J2 7) (J2 8) (J2 9) (J2 10) (pb2) (pe2) (ob2) (oe2) (b1) (e1) (b2) (e2) ∧ rJ V2 J2 ∧ bk (A1) (J2 7) ∧ bk (U1) (J2 8) ∧ bk (A2) (J2 9) ∧ bk (U2) (J2 10)) := by
  refine ef_C.of (cc := rc_N_copy) (maxL := 2) (ret := none) (by decide) rfl (Nat.le_of_ble_eq_true rfl) ?_
  intro p e s m below meth c ls hx hb hml hr hts hown hlocks hK hNX hP hD hS hl
  have hl : lv_has ls 2 [(0, .ref (r 2)), (1, .ref (r 4))] := hl
  have hown : s.vm.findClass rR4 = some m.cls := hown
  generalize hH : s.heap = H at hP ⊢
  have hS : va_S (ef_A (rC cI r ((V 0)) ((V 1)) ((V 2)) ((V 3)) ((V 4)) ((V 5)) ((V 6)) (A1) (U1) (A2) (U2) ((J 0)) ((J 1)) ((J 2)) ((J 3)) ((J 4)) ((J 5)) ((J 6)) ((J 7)) ((J 8)) ((J 9)) ((J 10)) (pb) (pe) (ob) (oe) (b1) (e1) (b2) (e2))) s.heap H [] := by rw [← hH]; exact hS
  generalize ([] : List Loc) = locs at hS ⊢
  refine lv_aload_n hx hb rd_N_copy_0 rfl (lv_at hl 0 rfl) ?_
  refine lv_aload_n hx hb rd_N_copy_1 rfl (lv_at hl 1 rfl) ?_
  refine va_get (D := (dC, dI)) (ci := 4) (v := .int (iv (b2))) (C := rR4) (T := rT4) (N := 4) hx hb hts (fun w h => List.mem_cons_of_mem _ (rin4 w h)) hown hK hP 4 rfl rfl 0 (by decide) (hts _ (List.mem_cons_of_mem _ rm_284)) (fun _ h9 => h9) rfl rd_N_copy_2 ?_
  refine va_put (D := (dC, dI)) (ci := 4) (v := .int (iv (b2))) (ty := .boolean) (C := rR4) (T := rT4) (N := 4) hx hb hts (fun w h => List.mem_cons_of_mem _ (rin4 w h)) rty4 rtyok4 rnm4 hown hK hP hD hS 2 rfl rfl 0 (by decide) (hts _ (List.mem_cons_of_mem _ rm_284)) (fun _ h9 => h9) rfl (by decide +kernel) (by rcases hbo with h9 | h9 <;> rw [h9] <;> rfl) (by rcases hbo with h9 | h9 <;> rw [h9] <;> rfl) (Nat.le_of_ble_eq_true rfl) rd_N_copy_5 (fun H locs hP hD hS => ?_)
  have hP : va_P (dC, dI) vwCl (rC cI r ((V 0)) ((V 1)) ((V 2)) ((V 3)) ((V 4)) ((V 5)) ((V 6)) (A1) (U1) (A2) (U2) ((J 0)) ((J 1)) ((J 2)) ((J 3)) ((J 4)) ((J 5)) ((J 6)) ((J 7)) ((J 8)) ((J 9)) ((J 10)) (pb) (pe) (b2) (oe) (b1) (e1) (b2) (e2)) H := hP
  have hD : va_D (ef_A (rC cI r ((V 0)) ((V 1)) ((V 2)) ((V 3)) ((V 4)) ((V 5)) ((V 6)) (A1) (U1) (A2) (U2) ((J 0)) ((J 1)) ((J 2)) ((J 3)) ((J 4)) ((J 5)) ((J 6)) ((J 7)) ((J 8)) ((J 9)) ((J 10)) (pb) (pe) (ob) (oe) (b1) (e1) (b2) (e2))) (rC cI r ((V 0)) ((V 1)) ((V 2)) ((V 3)) ((V 4)) ((V 5)) ((V 6)) (A1) (U1) (A2) (U2) ((J 0)) ((J 1)) ((J 2)) ((J 3)) ((J 4)) ((J 5)) ((J 6)) ((J 7)) ((J 8)) ((J 9)) ((J 10)) (pb) (pe) (b2) (oe) (b1) (e1) (b2) (e2)) := hD
  refine lv_aload_n hx hb rd_N_copy_8 rfl (lv_at hl 0 rfl) ?_
  refine va_get (D := (dC, dI)) (ci := 4) (v := .ref (r 15)) (C := rR4) (T := rT4) (N := 4) hx hb hts (fun w h => List.mem_cons_of_mem _ (rin4 w h)) hown hK hP 2 rfl rfl 1 (by decide) (hts _ (List.mem_cons_of_mem _ rm_286)) (fun _ h9 => h9) rfl rd_N_copy_9 ?_
  refine lv_aload_n hx hb rd_N_copy_12 rfl (lv_at hl 1 rfl) ?_
  refine va_get (D := (dC, dI)) (ci := 4) (v := .ref (r 23)) (C := rR4) (T := rT4) (N := 4) hx hb hts (fun w h => List.mem_cons_of_mem _ (rin4 w h)) hown hK hP 4 rfl rfl 1 (by decide) (hts _ (List.mem_cons_of_mem _ rm_286)) (fun _ h9 => h9) rfl rd_N_copy_13 ?_
  refine ef_callV (As := [.ref (r 23)]) (rest := []) ⟨hx, hb, hml, hown, hts⟩ (b_copy l dC dI ht (isB_c (X := (V 5)) (F := (J 5)) (ws := rC cI r ((V 0)) ((V 1)) ((V 2)) ((V 3)) ((V 4)) ((V 5)) ((V 6)) (A1) (U1) (A2) (U2) ((J 0)) ((J 1)) ((J 2)) ((J 3)) ((J 4)) ((J 5)) ((J 6)) ((J 7)) ((J 8)) ((J 9)) ((J 10)) (pb) (pe) (b2) (oe) (b1) (e1) (b2) (e2)) (k0 := 15) (k1 := 16) (by decide) rfl rfl) (isB_c (X := A2) (F := (J 9)) (ws := rC cI r ((V 0)) ((V 1)) ((V 2)) ((V 3)) ((V 4)) ((V 5)) ((V 6)) (A1) (U1) (A2) (U2) ((J 0)) ((J 1)) ((J 2)) ((J 3)) ((J 4)) ((J 5)) ((J 6)) ((J 7)) ((J 8)) ((J 9)) ((J 10)) (pb) (pe) (b2) (oe) (b1) (e1) (b2) (e2)) (k0 := 23) (k1 := 24) (by decide) rfl rfl) kA2.1 kA2.2 (apt_c (k0 := 15) (k1 := 16) (j0 := 23) (j1 := 24) rfl)) (cwV 1 hts (ef_goodV rm_448 rm_353 rm_354 rm_25 rm_355) rfl rfl rfl (by decide +kernel) ⟨Nat.le_of_ble_eq_true rfl, Nat.le_of_ble_eq_true rfl⟩) hK hNX hP hD hS 15 rfl rfl rfl rfl hl.1 rfl (Nat.le_of_ble_eq_true rfl) rd_N_copy_16 ⟨Nat.zero_le _, Nat.zero_le _⟩ (fun o w1 H locs hq hP hD hS => ?_)
  obtain ⟨rfl, g_1, rfl, hg_2⟩ := hq
  have hP : va_P (dC, dI) vwCl (rC cI r ((V 0)) ((V 1)) ((V 2)) ((V 3)) ((V 4)) (A2) ((V 6)) (A1) (U1) (A2) (U2) ((J 0)) ((J 1)) ((J 2)) ((J 3)) ((J 4)) (g_1) ((J 6)) ((J 7)) ((J 8)) ((J 9)) ((J 10)) (pb) (pe) (b2) (oe) (b1) (e1) (b2) (e2)) H := hP
  have hD : va_D (ef_A (rC cI r ((V 0)) ((V 1)) ((V 2)) ((V 3)) ((V 4)) ((V 5)) ((V 6)) (A1) (U1) (A2) (U2) ((J 0)) ((J 1)) ((J 2)) ((J 3)) ((J 4)) ((J 5)) ((J 6)) ((J 7)) ((J 8)) ((J 9)) ((J 10)) (pb) (pe) (ob) (oe) (b1) (e1) (b2) (e2))) (rC cI r ((V 0)) ((V 1)) ((V 2)) ((V 3)) ((V 4)) (A2) ((V 6)) (A1) (U1) (A2) (U2) ((J 0)) ((J 1)) ((J 2)) ((J 3)) ((J 4)) (g_1) ((J 6)) ((J 7)) ((J 8)) ((J 9)) ((J 10)) (pb) (pe) (b2) (oe) (b1) (e1) (b2) (e2)) := hD
  have hg_2 : bk (A2) g_1 := ⟨hg_2, kA2.2⟩
  refine W.eq (g2 := F0 m 19 ls []) rfl ?_
  refine lv_aload_n hx hb rd_N_copy_19 rfl (lv_at hl 0 rfl) ?_
  refine va_get (D := (dC, dI)) (ci := 4) (v := .ref (r 17)) (C := rR4) (T := rT4) (N := 4) hx hb hts (fun w h => List.mem_cons_of_mem _ (rin4 w h)) hown hK hP 2 rfl rfl 2 (by decide) (hts _ (List.mem_cons_of_mem _ rm_289)) (fun _ h9 => h9) rfl rd_N_copy_20 ?_
  refine lv_aload_n hx hb rd_N_copy_23 rfl (lv_at hl 1 rfl) ?_
  refine va_get (D := (dC, dI)) (ci := 4) (v := .ref (r 25)) (C := rR4) (T := rT4) (N := 4) hx hb hts (fun w h => List.mem_cons_of_mem _ (rin4 w h)) hown hK hP 4 rfl rfl 2 (by decide) (hts _ (List.mem_cons_of_mem _ rm_289)) (fun _ h9 => h9) rfl rd_N_copy_24 ?_
  refine ef_callV (As := [.ref (r 25)]) (rest := []) ⟨hx, hb, hml, hown, hts⟩ (b_copy l dC dI ht (isB_c (X := (V 6)) (F := (J 6)) (ws := rC cI r ((V 0)) ((V 1)) ((V 2)) ((V 3)) ((V 4)) (A2) ((V 6)) (A1) (U1) (A2) (U2) ((J 0)) ((J 1)) ((J 2)) ((J 3)) ((J 4)) (g_1) ((J 6)) ((J 7)) ((J 8)) ((J 9)) ((J 10)) (pb) (pe) (b2) (oe) (b1) (e1) (b2) (e2)) (k0 := 17) (k1 := 18) (by decide) rfl rfl) (isB_c (X := U2) (F := (J 10)) (ws := rC cI r ((V 0)) ((V 1)) ((V 2)) ((V 3)) ((V 4)) (A2) ((V 6)) (A1) (U1) (A2) (U2) ((J 0)) ((J 1)) ((J 2)) ((J 3)) ((J 4)) (g_1) ((J 6)) ((J 7)) ((J 8)) ((J 9)) ((J 10)) (pb) (pe) (b2) (oe) (b1) (e1) (b2) (e2)) (k0 := 25) (k1 := 26) (by decide) rfl rfl) kU2.1 kU2.2 (apt_c (k0 := 17) (k1 := 18) (j0 := 25) (j1 := 26) rfl)) (cwV 1 hts (ef_goodV rm_448 rm_353 rm_354 rm_25 rm_355) rfl rfl rfl (by decide +kernel) ⟨Nat.le_of_ble_eq_true rfl, Nat.le_of_ble_eq_true rfl⟩) hK hNX hP hD hS 17 rfl rfl rfl rfl hl.1 rfl (Nat.le_of_ble_eq_true rfl) rd_N_copy_27 ⟨Nat.zero_le _, Nat.zero_le _⟩ (fun o w1 H locs hq hP hD hS => ?_)
  obtain ⟨rfl, g_3, rfl, hg_4⟩ := hq
  have hP : va_P (dC, dI) vwCl (rC cI r ((V 0)) ((V 1)) ((V 2)) ((V 3)) ((V 4)) (A2) (U2) (A1) (U1) (A2) (U2) ((J 0)) ((J 1)) ((J 2)) ((J 3)) ((J 4)) (g_1) (g_3) ((J 7)) ((J 8)) ((J 9)) ((J 10)) (pb) (pe) (b2) (oe) (b1) (e1) (b2) (e2)) H := hP
  have hD : va_D (ef_A (rC cI r ((V 0)) ((V 1)) ((V 2)) ((V 3)) ((V 4)) ((V 5)) ((V 6)) (A1) (U1) (A2) (U2) ((J 0)) ((J 1)) ((J 2)) ((J 3)) ((J 4)) ((J 5)) ((J 6)) ((J 7)) ((J 8)) ((J 9)) ((J 10)) (pb) (pe) (ob) (oe) (b1) (e1) (b2) (e2))) (rC cI r ((V 0)) ((V 1)) ((V 2)) ((V 3)) ((V 4)) (A2) (U2) (A1) (U1) (A2) (U2) ((J 0)) ((J 1)) ((J 2)) ((J 3)) ((J 4)) (g_1) (g_3) ((J 7)) ((J 8)) ((J 9)) ((J 10)) (pb) (pe) (b2) (oe) (b1) (e1) (b2) (e2)) := hD
  have hg_4 : bk (U2) g_3 := ⟨hg_4, kU2.2⟩
  refine W.eq (g2 := F0 m 30 ls []) rfl ?_
  refine lv_aload_n hx hb rd_N_copy_30 rfl (lv_at hl 0 rfl) ?_
  refine lv_aload_n hx hb rd_N_copy_31 rfl (lv_at hl 1 rfl) ?_
  refine va_get (D := (dC, dI)) (ci := 4) (v := .int (iv (e2))) (C := rR4) (T := rT4) (N := 4) hx hb hts (fun w h => List.mem_cons_of_mem _ (rin4 w h)) hown hK hP 4 rfl rfl 3 (by decide) (hts _ (List.mem_cons_of_mem _ rm_291)) (fun _ h9 => h9) rfl rd_N_copy_32 ?_
  refine va_put (D := (dC, dI)) (ci := 4) (v := .int (iv (e2))) (ty := .int) (C := rR4) (T := rT4) (N := 4) hx hb hts (fun w h => List.mem_cons_of_mem _ (rin4 w h)) rty4 rtyok4 rnm4 hown hK hP hD hS 2 rfl rfl 3 (by decide) (hts _ (List.mem_cons_of_mem _ rm_291)) (fun _ h9 => h9) rfl (by decide +kernel) rfl rfl (Nat.le_of_ble_eq_true rfl) rd_N_copy_35 (fun H locs hP hD hS => ?_)
  have hP : va_P (dC, dI) vwCl (rC cI r ((V 0)) ((V 1)) ((V 2)) ((V 3)) ((V 4)) (A2) (U2) (A1) (U1) (A2) (U2) ((J 0)) ((J 1)) ((J 2)) ((J 3)) ((J 4)) (g_1) (g_3) ((J 7)) ((J 8)) ((J 9)) ((J 10)) (pb) (pe) (b2) (e2) (b1) (e1) (b2) (e2)) H := hP
  have hD : va_D (ef_A (rC cI r ((V 0)) ((V 1)) ((V 2)) ((V 3)) ((V 4)) ((V 5)) ((V 6)) (A1) (U1) (A2) (U2) ((J 0)) ((J 1)) ((J 2)) ((J 3)) ((J 4)) ((J 5)) ((J 6)) ((J 7)) ((J 8)) ((J 9)) ((J 10)) (pb) (pe) (ob) (oe) (b1) (e1) (b2) (e2))) (rC cI r ((V 0)) ((V 1)) ((V 2)) ((V 3)) ((V 4)) (A2) (U2) (A1) (U1) (A2) (U2) ((J 0)) ((J 1)) ((J 2)) ((J 3)) ((J 4)) (g_1) (g_3) ((J 7)) ((J 8)) ((J 9)) ((J 10)) (pb) (pe) (b2) (e2) (b1) (e1) (b2) (e2)) := hD
  exact ef_vret hx hb hr hlocks hP hD hS rd_N_copy_38 (⟨fun i => [((V 0)), ((V 1)), ((V 2)), ((V 3)), ((V 4)), (A2), (U2)].getD i 0, fun i => [((J 0)), ((J 1)), ((J 2)), ((J 3)), ((J 4)), (g_1), (g_3), ((J 7)), ((J 8)), ((J 9)), ((J 10))].getD i (fun _ => 0), _, _, _, _, rfl, rfl, rfl, rfl, rfl, rfl, rJ_of (hJ 0 (by decide)) (hJ 1 (by decide)) (hJ 2 (by decide)) (hJ 3 (by decide)) (hJ 4 (by decide)) hg_2 hg_4, kA1, kU1, kA2, kU2⟩)
