theorem ccmp_r (A1 U1 : Nat) (b1 e1 : Int) (A2 U2 : Nat) (b2 e2 : Int) : ir (ccmp A1 U1 b1 e1 A2 U2 b2 e2) := by
  have h1 := sgn_r A1 b1
  have h2 : -1 ≤ scmp A1 U1 e1 A2 U2 e2 ∧ scmp A1 U1 e1 A2 U2 e2 ≤ 1 := by unfold scmp zc; (repeat split) <;> omega
  unfold ccmp
  generalize scmp A1 U1 e1 A2 U2 e2 = y at h2 ⊢
  generalize sgn A1 b1 = x at h1 ⊢
  have h3 : -1 ≤ x * y ∧ x * y ≤ 1 := by
    have hx : x = -1 ∨ x = 0 ∨ x = 1 := by omega
    rcases hx with rfl | rfl | rfl <;> omega
  (repeat split) <;> exact ⟨by omega, by omega⟩
theorem fp_bl (m : Nat) : bl (fp m) ≤ 4800 := bl_le (Nat.lt_of_lt_of_le (fp_lt m) (show 2 ^ 53 ≤ 2 ^ 4800 from Nat.pow_le_pow_right (by decide) (by decide)))
theorem bl_1 : bl 1 ≤ 4800 := by decide
theorem rsz_big {A U : Nat} {e : Int} (h : ¬ A * pw e ≤ fv 9218868437227405311 * U * pw (-1074)) : rsz A U e 1 9218868437227405312 :=
  ⟨9218868437227405311, ⟨Nat.le_refl _, by unfold fle; omega, fun h => absurd h (Nat.lt_irrefl _)⟩, Or.inr ⟨⟨by decide, by unfold feq; omega⟩, rfl⟩⟩

set_option maxRecDepth 100000 in
set_option maxHeartbeats 4000000 in
/-- down -/
theorem r_down0P (l : Launch) (dC : Nat → ClassId) (dI : Nat → Nat → Nat) {cI : ClassId} {tys : List (ClassId × FieldType)} (ht : tys[0]? = some (cI, .int)) (r : Nat → Nat) {V : Nat → Nat} {J : Nat → Nat → Nat} {A1 U1 A2 U2 : Nat} {pb pe ob oe b1 e1 b2 e2 : Int} (hJ : rJ V J) (kA1 : bk A1 (J 7)) (kU1 : bk U1 (J 8)) (kA2 : bk A2 (J 9)) (kU2 : bk U2 (J 10)) (mA1 : dn A1 ≤ 300) (mU1 : dn U1 ≤ 300) (mA2 : dn A2 ≤ 300) (mU2 : dn U2 ≤ 300) (nU : U1 ≠ 0) (bA : bl A1 ≤ 4800) (bU : bl U1 ≤ 4800) (lee : -12000 ≤ e1) (gee : e1 ≤ 12000) (hbr : b1 = 0 ∨ b1 = 1) (hpos : A1 = 0 ∨ b1 = 0) : ef_C l ry_M_down rw_M_down ({ frames := 4, cells := 0, slots := 0, locals := 99 } : Room) [.ref (r 0), .ref (r 3)] (dC, dI) vwCl tys (rC cI r ((V 0)) ((V 1)) ((V 2)) ((V 3)) ((V 4)) ((V 5)) ((V 6)) (A1) (U1) (A2) (U2) ((J 0)) ((J 1)) ((J 2)) ((J 3)) ((J 4)) ((J 5)) ((J 6)) ((J 7)) ((J 8)) ((J 9)) ((J 10)) (pb) (pe) (ob) (oe) (b1) (e1) (b2) (e2)) (fun o w1 => ∃ z : Nat, isFl z A1 U1 e1 ∧ ∃ (V2 : Nat → Nat) (J2 : Nat → Nat → Nat) (pb2 pe2 ob2 oe2 : Int), o = some (.long (jv (z : Int))) ∧ w1 = rC cI r (V2 0) (V2 1) (V2 2) (V2 3) (V2 4) (V2 5) (V2 6) (A1) (U1) (A2) (U2) (J2 0) (J2 1) (J2 2) (J2 3) (J2 4) (J2 5) (J2 6) (J2 7) (J2 8) (J2 9) (J2 10) (pb2) (pe2) (ob2) (oe2) (b1) (e1) (b2) (e2) ∧ rJ V2 J2 ∧ bk (A1) (J2 7) ∧ bk (U1) (J2 8) ∧ bk (A2) (J2 9) ∧ bk (U2) (J2 10)) := by
  refine ef_C.of (cc := rc_M_down) (maxL := 9) (ret := (some .long)) (by decide) rfl (Nat.le_of_ble_eq_true rfl) ?_
  intro p e s m below meth c ls hx hb hml hr hts hown hlocks hK hNX hP hD hS hl
  have hl : lv_has ls 9 [(0, .ref (r 0)), (1, .ref (r 3))] := hl
  have hown : s.vm.findClass rR5 = some m.cls := hown
  generalize hH : s.heap = H at hP ⊢
  have hS : va_S (ef_A (rC cI r ((V 0)) ((V 1)) ((V 2)) ((V 3)) ((V 4)) ((V 5)) ((V 6)) (A1) (U1) (A2) (U2) ((J 0)) ((J 1)) ((J 2)) ((J 3)) ((J 4)) ((J 5)) ((J 6)) ((J 7)) ((J 8)) ((J 9)) ((J 10)) (pb) (pe) (ob) (oe) (b1) (e1) (b2) (e2))) s.heap H [] := by rw [← hH]; exact hS
  generalize ([] : List Loc) = locs at hS ⊢
  have hsg : sgn A1 b1 ≥ 0 := by
    unfold sgn
    rcases hpos with h | h
    · rw [if_pos h]; omega
    · (repeat split) <;> omega
  refine lv_aload_n hx hb rd_M_down_0 rfl (lv_at hl 1 rfl) ?_
  refine ef_callV (As := []) (rest := []) ⟨hx, hb, hml, hown, hts⟩ (r_sign0 l dC dI ht r hJ kA1 kU1 kA2 kU2 mA1 mU1 mA2 mU2 hbr) (cwV 0 hts (ef_goodV rm_414 rm_415 rm_416 rm_26 rm_417) rfl rfl rfl (by decide +kernel) ⟨Nat.le_of_ble_eq_true rfl, Nat.le_of_ble_eq_true rfl⟩) hK hNX hP hD hS 3 rfl rfl rfl rfl hl.1 rfl (Nat.le_of_ble_eq_true rfl) rd_M_down_1 ⟨Nat.zero_le _, Nat.zero_le _⟩ (fun o w1 H locs hq hP hD hS => ?_)
  obtain ⟨rfl, e9⟩ := hq
  rw [e9] at hP hD
  refine W.eq (g2 := F0 m 4 ls [.int (iv (sgn A1 b1))]) rfl ?_
  refine iw_if_ge (tgt := 11) hx hb rd_M_down_4 (by decide) (sgn_ir A1 b1) (fun c1 => ?_) (fun c1 => ?_)
  ·
    refine lv_iconst (v := iv (0)) hx hb rd_M_down_11 (by decide) ?_
    refine lv_istore_n (lv' := [(2, .int (iv (0))), (0, .ref (r 0)), (1, .ref (r 3))]) hx hb rd_M_down_12 rfl hl (by decide) rfl (fun ls hl => ?_)
    refine lv_iload_n hx hb rd_M_down_13 rfl (lv_at hl 0 rfl) ?_
    refine iw_if_eq (tgt := 23) hx hb rd_M_down_14 (by decide) ⟨by omega, by omega⟩ (fun c2 => ?_) (fun c2 => ?_)
    ·
      refine lv_lconst (v := jv (0)) hx hb rd_M_down_23 (by decide) ?_
      refine iw_topl (y := jv (((0 : Nat) : Int))) (congrArg jv (by rfl : ((0) : Int) = (((0 : Nat) : Int)))) ?_
      refine lv_lstore_n (lv' := [(3, .long (jv (((0 : Nat) : Int)))), (2, .int (iv (0))), (0, .ref (r 0)), (1, .ref (r 3))]) hx hb rd_M_down_24 rfl hl (by decide) rfl (fun ls hl => ?_)
      refine lv_iload_n hx hb rd_M_down_25 rfl (lv_at hl 1 rfl) ?_
      refine iw_if_eq (tgt := 33) hx hb rd_M_down_26 (by decide) ⟨by omega, by omega⟩ (fun c3 => ?_) (fun c3 => ?_)
      ·
        refine lv_ldc2 (v := jv (9218868437227405312)) hx hb hown (hts _ (List.mem_cons_of_mem _ rm_454)) rd_M_down_33 ?_
        refine iw_topl (y := jv (((9218868437227405312 : Nat) : Int))) (congrArg jv (by rfl : ((9218868437227405312) : Int) = (((9218868437227405312 : Nat) : Int)))) ?_
        refine lv_lstore (lv' := [(5, .long (jv (((9218868437227405312 : Nat) : Int)))), (3, .long (jv (((0 : Nat) : Int)))), (2, .int (iv (0))), (0, .ref (r 0)), (1, .ref (r 3))]) hx hb rd_M_down_36 hl (by decide) rfl (fun ls hl => ?_)
        refine lv_aload_n hx hb rd_M_down_38 rfl (lv_at hl 3 rfl) ?_
        refine va_get (D := (dC, dI)) (ci := 5) (v := .ref (r 1)) (C := rR5) (T := rT5) (N := 7) hx hb hts (fun w h => List.mem_cons_of_mem _ (rin5 w h)) hown hK hP 0 rfl rfl 2 (by decide) (hts _ (List.mem_cons_of_mem _ rm_312)) (fun _ h9 => h9) rfl rd_M_down_39 ?_
        refine lv_ldc2 (v := jv (-9218868437227405311)) hx hb hown (by have h9 := (hts _ (List.mem_cons_of_mem _ rm_453)); rw [show (-9218868437227405311 : Int64) = jv (-9218868437227405311) by decide] at h9; exact h9) rd_M_down_42 ?_
        refine iw_topl (y := jv (-((9218868437227405311 : Nat) : Int))) (congrArg jv (by rfl : ((-9218868437227405311) : Int) = (-((9218868437227405311 : Nat) : Int)))) ?_
        refine ef_callS (As := [.long (jv (-((9218868437227405311 : Nat) : Int)))]) (rest := [.ref (r 1)]) ⟨hx, hb, hml, hown, hts⟩ (r_floatN l dC dI ht r 9218868437227405311 (by decide) (by decide)) (cwS 1 hts (ef_goodS rm_455 rm_456 rm_24 rm_457) rfl rfl rfl (by decide +kernel) ⟨Nat.le_of_ble_eq_true rfl, Nat.le_of_ble_eq_true rfl⟩) hK hNX hP hD hS rfl hl.1 rfl (Nat.le_of_ble_eq_true rfl) rd_M_down_45 ⟨Nat.zero_le _, Nat.zero_le _⟩ (fun o w1 H locs hq hP hD hS => ?_)
        obtain ⟨rfl, e9⟩ := hq
        rw [e9] at hP hD
        refine W.eq (g2 := F0 m 48 ls [.long (jv (((9218868437227405311 : Nat) : Int) - 9223372036854775808)), .ref (r 1)]) rfl ?_
        refine ef_callV (As := [.long (jv (((9218868437227405311 : Nat) : Int) - 9223372036854775808))]) (rest := []) ⟨hx, hb, hml, hown, hts⟩ (r_setFloat1 l dC dI ht r hJ kA1 kU1 kA2 kU2 mA1 mU1 mA2 mU2 (9218868437227405311) (by decide)) (cwV 1 hts (ef_goodV rm_459 rm_460 rm_461 rm_26 rm_462) rfl rfl rfl (by decide +kernel) ⟨Nat.le_of_ble_eq_true rfl, Nat.le_of_ble_eq_true rfl⟩) hK hNX hP hD hS 1 rfl rfl rfl rfl hl.1 rfl (Nat.le_of_ble_eq_true rfl) rd_M_down_48 ⟨Nat.zero_le _, Nat.zero_le _⟩ (fun o w1 H locs hq hP hD hS => ?_)
        obtain ⟨Vv_1, Jv_1, pbv_1, pev_1, obv_1, oev_1, a5v_1, a6v_1, aobv_1, aoev_1, a3v_1, a4v_1, apbv_1, apev_1, rfl, rfl, hJv_1, kA1v_1, kU1v_1, kA2v_1, kU2v_1⟩ := hq
        have hP : va_P (dC, dI) vwCl (rC cI r ((Vv_1 0)) ((Vv_1 1)) ((Vv_1 2)) ((Vv_1 3)) ((Vv_1 4)) ((Vv_1 5)) ((Vv_1 6)) (A1) (U1) (A2) (U2) ((Jv_1 0)) ((Jv_1 1)) ((Jv_1 2)) ((Jv_1 3)) ((Jv_1 4)) ((Jv_1 5)) ((Jv_1 6)) ((Jv_1 7)) ((Jv_1 8)) ((Jv_1 9)) ((Jv_1 10)) (pbv_1) (pev_1) (obv_1) (oev_1) (b1) (e1) (b2) (e2)) H := hP
        have hD : va_D (ef_A (rC cI r ((V 0)) ((V 1)) ((V 2)) ((V 3)) ((V 4)) ((V 5)) ((V 6)) (A1) (U1) (A2) (U2) ((J 0)) ((J 1)) ((J 2)) ((J 3)) ((J 4)) ((J 5)) ((J 6)) ((J 7)) ((J 8)) ((J 9)) ((J 10)) (pb) (pe) (ob) (oe) (b1) (e1) (b2) (e2))) (rC cI r ((Vv_1 0)) ((Vv_1 1)) ((Vv_1 2)) ((Vv_1 3)) ((Vv_1 4)) ((Vv_1 5)) ((Vv_1 6)) (A1) (U1) (A2) (U2) ((Jv_1 0)) ((Jv_1 1)) ((Jv_1 2)) ((Jv_1 3)) ((Jv_1 4)) ((Jv_1 5)) ((Jv_1 6)) ((Jv_1 7)) ((Jv_1 8)) ((Jv_1 9)) ((Jv_1 10)) (pbv_1) (pev_1) (obv_1) (oev_1) (b1) (e1) (b2) (e2)) := hD
        have e5v_1 : Vv_1 5 = V 5 := a5v_1.trans rfl
        have e6v_1 : Vv_1 6 = V 6 := a6v_1.trans rfl
        have eobv_1 : obv_1 = ob := aobv_1.trans rfl
        have eoev_1 : oev_1 = oe := aoev_1.trans rfl
        refine W.eq (g2 := F0 m 51 ls []) rfl ?_
        refine lv_iload_n hx hb rd_M_down_51 rfl (lv_at hl 2 rfl) ?_
        refine iw_if_eq (tgt := 71) hx hb rd_M_down_52 (by decide) ⟨by omega, by omega⟩ (fun c4 => ?_) (fun c4 => ?_)
        ·
          have loop : ∀ (fuel : Nat) (lo : Nat) (hi : Nat) (Vq : Nat → Nat) (Jq : Nat → Nat → Nat) (pbq : Int) (peq : Int) (obq : Int) (oeq : Int), (rJ Vq Jq) → (bk A1 (Jq 7)) → (bk U1 (Jq 8)) → (bk A2 (Jq 9)) → (bk U2 (Jq 10)) → (Vq 5 = V 5) → (Vq 6 = V 6) → (obq = ob) → (oeq = oe) → (lo < hi) → (hi ≤ 9218868437227405312) → (fle lo A1 U1 e1) → (hi ≤ 9218868437227405311 → ¬ fle hi A1 U1 e1) → (hi < lo + fuel) → ∀ (H : Heap) (locs : List Loc) (ls : Array Slot), va_P (dC, dI) vwCl (rC cI r ((Vq 0)) ((Vq 1)) ((Vq 2)) ((Vq 3)) ((Vq 4)) ((Vq 5)) ((Vq 6)) (A1) (U1) (A2) (U2) ((Jq 0)) ((Jq 1)) ((Jq 2)) ((Jq 3)) ((Jq 4)) ((Jq 5)) ((Jq 6)) ((Jq 7)) ((Jq 8)) ((Jq 9)) ((Jq 10)) (pbq) (peq) (obq) (oeq) (b1) (e1) (b2) (e2)) H → va_D (ef_A (rC cI r ((V 0)) ((V 1)) ((V 2)) ((V 3)) ((V 4)) ((V 5)) ((V 6)) (A1) (U1) (A2) (U2) ((J 0)) ((J 1)) ((J 2)) ((J 3)) ((J 4)) ((J 5)) ((J 6)) ((J 7)) ((J 8)) ((J 9)) ((J 10)) (pb) (pe) (ob) (oe) (b1) (e1) (b2) (e2))) (rC cI r ((Vq 0)) ((Vq 1)) ((Vq 2)) ((Vq 3)) ((Vq 4)) ((Vq 5)) ((Vq 6)) (A1) (U1) (A2) (U2) ((Jq 0)) ((Jq 1)) ((Jq 2)) ((Jq 3)) ((Jq 4)) ((Jq 5)) ((Jq 6)) ((Jq 7)) ((Jq 8)) ((Jq 9)) ((Jq 10)) (pbq) (peq) (obq) (oeq) (b1) (e1) (b2) (e2)) → va_S (ef_A (rC cI r ((V 0)) ((V 1)) ((V 2)) ((V 3)) ((V 4)) ((V 5)) ((V 6)) (A1) (U1) (A2) (U2) ((J 0)) ((J 1)) ((J 2)) ((J 3)) ((J 4)) ((J 5)) ((J 6)) ((J 7)) ((J 8)) ((J 9)) ((J 10)) (pb) (pe) (ob) (oe) (b1) (e1) (b2) (e2))) s.heap H locs → lv_has ls 9 [(0, .ref (r 0)), (1, .ref (r 3)), (2, .int (iv (0))), (3, .long (jv ((lo : Int)))), (5, .long (jv ((hi : Int))))] → W p l e ({ frames := 4, cells := 0, slots := 0, locals := 99 } : Room) s m ([.ref (r 0), .ref (r 3)] : List Value).toArray below meth c H locs 0 0 (ef_R below (dC, dI) vwCl (rC cI r ((V 0)) ((V 1)) ((V 2)) ((V 3)) ((V 4)) ((V 5)) ((V 6)) (A1) (U1) (A2) (U2) ((J 0)) ((J 1)) ((J 2)) ((J 3)) ((J 4)) ((J 5)) ((J 6)) ((J 7)) ((J 8)) ((J 9)) ((J 10)) (pb) (pe) (ob) (oe) (b1) (e1) (b2) (e2)) (fun o w1 => ∃ z : Nat, isFl z A1 U1 e1 ∧ ∃ (V2 : Nat → Nat) (J2 : Nat → Nat → Nat) (pb2 pe2 ob2 oe2 : Int), o = some (.long (jv (z : Int))) ∧ w1 = rC cI r (V2 0) (V2 1) (V2 2) (V2 3) (V2 4) (V2 5) (V2 6) (A1) (U1) (A2) (U2) (J2 0) (J2 1) (J2 2) (J2 3) (J2 4) (J2 5) (J2 6) (J2 7) (J2 8) (J2 9) (J2 10) (pb2) (pe2) (ob2) (oe2) (b1) (e1) (b2) (e2) ∧ rJ V2 J2 ∧ bk (A1) (J2 7) ∧ bk (U1) (J2 8) ∧ bk (A2) (J2 9) ∧ bk (U2) (J2 10)) [.ref (r 0), .ref (r 3)] s) (F0 m 71 ls []) := by
            intro fuel
            induction fuel with
            | zero => intro lo hi Vq Jq pbq peq obq oeq hJq kA1q kU1q kA2q kU2q e5q e6q eobq eoeq g1 g2 g3 g4 g5; exfalso; omega
            | succ fuel ih =>
              intro lo hi Vq Jq pbq peq obq oeq hJq kA1q kU1q kA2q kU2q e5q e6q eobq eoeq g1 g2 g3 g4 g5 H locs ls hP hD hS hl
              refine lv_lload hx hb rd_M_down_71 (lv_at hl 4 rfl) ?_
              refine lv_lload_n hx hb rd_M_down_73 rfl (lv_at hl 3 rfl) ?_
              refine iw_lsub hx hb rd_M_down_74 ?_
              refine iw_topl (y := jv (((hi - lo : Nat) : Int))) (congrArg jv (by omega : ((((hi : Int)) - ((lo : Int))) : Int) = (((hi - lo : Nat) : Int)))) ?_
              refine lv_lconst (v := jv (1)) hx hb rd_M_down_75 (by decide) ?_
              refine iw_lcmp hx hb (⟨by omega, by omega⟩) (⟨by omega, by omega⟩) rd_M_down_76 ?_
              refine iw_if_le (tgt := 129) hx hb rd_M_down_77 (by decide) (ir_zc _ _) (fun c6 => ?_) (fun c6 => ?_)
              ·
                have c7 := (zc_le _ _).1 c6
                obtain rfl : hi = lo + 1 := by omega
                refine lv_lload_n hx hb rd_M_down_129 rfl (lv_at hl 3 rfl) ?_
                refine ef_callS (As := [.long (jv ((lo : Int)))]) (rest := []) ⟨hx, hb, hml, hown, hts⟩ (r_floatP l dC dI ht r lo (by omega)) (cwS 1 hts (ef_goodS rm_455 rm_456 rm_24 rm_457) rfl rfl rfl (by decide +kernel) ⟨Nat.le_of_ble_eq_true rfl, Nat.le_of_ble_eq_true rfl⟩) hK hNX hP hD hS rfl hl.1 rfl (Nat.le_of_ble_eq_true rfl) rd_M_down_130 ⟨Nat.zero_le _, Nat.zero_le _⟩ (fun o w1 H locs hq hP hD hS => ?_)
                obtain ⟨rfl, e9⟩ := hq
                rw [e9] at hP hD
                refine W.eq (g2 := F0 m 133 ls [.long (jv ((lo : Int)))]) rfl ?_
                exact ef_lret hx hb hr hlocks hP hD hS rd_M_down_133 (⟨lo, ⟨by omega, g3, fun q => g4 (by omega)⟩, fun i => [((Vq 0)), ((Vq 1)), ((Vq 2)), ((Vq 3)), ((Vq 4)), ((Vq 5)), ((Vq 6))].getD i 0, fun i => [((Jq 0)), ((Jq 1)), ((Jq 2)), ((Jq 3)), ((Jq 4)), ((Jq 5)), ((Jq 6)), ((Jq 7)), ((Jq 8)), ((Jq 9)), ((Jq 10))].getD i (fun _ => 0), _, _, _, _, rfl, rfl, rJ_of (hJq 0 (by decide)) (hJq 1 (by decide)) (hJq 2 (by decide)) (hJq 3 (by decide)) (hJq 4 (by decide)) (hJq 5 (by decide)) (hJq 6 (by decide)), kA1q, kU1q, kA2q, kU2q⟩)
              ·
                have c7 : ¬ ((hi - lo : Nat) : Int) ≤ 1 := fun q => absurd ((zc_le _ _).2 q) (by omega)
                refine lv_lload_n hx hb rd_M_down_80 rfl (lv_at hl 3 rfl) ?_
                refine lv_lload hx hb rd_M_down_81 (lv_at hl 4 rfl) ?_
                refine lv_lload_n hx hb rd_M_down_83 rfl (lv_at hl 3 rfl) ?_
                refine iw_lsub hx hb rd_M_down_84 ?_
                refine iw_topl (y := jv (((hi - lo : Nat) : Int))) (congrArg jv (by omega : ((((hi : Int)) - ((lo : Int))) : Int) = (((hi - lo : Nat) : Int)))) ?_
                refine lv_ldc2 (v := jv (2)) hx hb hown (hts _ (List.mem_cons_of_mem _ rm_467)) rd_M_down_85 ?_
                refine iw_ldiv2 (a := hi - lo) hx hb (by omega) rd_M_down_88 ?_
                obtain ⟨mi, hmi⟩ : ∃ mi, mi = lo + (hi - lo) / 2 := ⟨_, rfl⟩
                refine iw_ladd hx hb rd_M_down_89 ?_
                refine iw_topl (y := jv ((mi : Int))) (congrArg jv (by omega : ((((lo : Int)) + ((((hi - lo) / 2 : Nat) : Int))) : Int) = ((mi : Int)))) ?_
                refine lv_lstore (lv' := [(7, .long (jv ((mi : Int)))), (0, .ref (r 0)), (1, .ref (r 3)), (2, .int (iv (0))), (3, .long (jv ((lo : Int)))), (5, .long (jv ((hi : Int))))]) hx hb rd_M_down_90 hl (by decide) rfl (fun ls hl => ?_)
                refine lv_aload_n hx hb rd_M_down_92 rfl (lv_at hl 1 rfl) ?_
                refine va_get (D := (dC, dI)) (ci := 5) (v := .ref (r 1)) (C := rR5) (T := rT5) (N := 7) hx hb hts (fun w h => List.mem_cons_of_mem _ (rin5 w h)) hown hK hP 0 rfl rfl 2 (by decide) (hts _ (List.mem_cons_of_mem _ rm_312)) (fun _ h9 => h9) rfl rd_M_down_93 ?_
                refine lv_lload hx hb rd_M_down_96 (lv_at hl 0 rfl) ?_
                refine ef_callS (As := [.long (jv ((mi : Int)))]) (rest := [.ref (r 1)]) ⟨hx, hb, hml, hown, hts⟩ (r_floatP l dC dI ht r mi (by omega)) (cwS 1 hts (ef_goodS rm_455 rm_456 rm_24 rm_457) rfl rfl rfl (by decide +kernel) ⟨Nat.le_of_ble_eq_true rfl, Nat.le_of_ble_eq_true rfl⟩) hK hNX hP hD hS rfl hl.1 rfl (Nat.le_of_ble_eq_true rfl) rd_M_down_98 ⟨Nat.zero_le _, Nat.zero_le _⟩ (fun o w1 H locs hq hP hD hS => ?_)
                obtain ⟨rfl, e9⟩ := hq
                rw [e9] at hP hD
                refine W.eq (g2 := F0 m 101 ls [.long (jv ((mi : Int))), .ref (r 1)]) rfl ?_
                refine ef_callV (As := [.long (jv ((mi : Int)))]) (rest := []) ⟨hx, hb, hml, hown, hts⟩ (r_setFloat0 l dC dI ht r hJq kA1q kU1q kA2q kU2q mA1 mU1 mA2 mU2 (mi) (by omega)) (cwV 1 hts (ef_goodV rm_459 rm_460 rm_461 rm_26 rm_462) rfl rfl rfl (by decide +kernel) ⟨Nat.le_of_ble_eq_true rfl, Nat.le_of_ble_eq_true rfl⟩) hK hNX hP hD hS 1 rfl rfl rfl rfl hl.1 rfl (Nat.le_of_ble_eq_true rfl) rd_M_down_101 ⟨Nat.zero_le _, Nat.zero_le _⟩ (fun o w1 H locs hq hP hD hS => ?_)
                obtain ⟨Vv_2, Jv_2, pbv_2, pev_2, obv_2, oev_2, a5v_2, a6v_2, aobv_2, aoev_2, a3v_2, a4v_2, apbv_2, apev_2, rfl, rfl, hJv_2, kA1v_2, kU1v_2, kA2v_2, kU2v_2⟩ := hq
                have hP : va_P (dC, dI) vwCl (rC cI r ((Vv_2 0)) ((Vv_2 1)) ((Vv_2 2)) ((Vv_2 3)) ((Vv_2 4)) ((Vv_2 5)) ((Vv_2 6)) (A1) (U1) (A2) (U2) ((Jv_2 0)) ((Jv_2 1)) ((Jv_2 2)) ((Jv_2 3)) ((Jv_2 4)) ((Jv_2 5)) ((Jv_2 6)) ((Jv_2 7)) ((Jv_2 8)) ((Jv_2 9)) ((Jv_2 10)) (pbv_2) (pev_2) (obv_2) (oev_2) (b1) (e1) (b2) (e2)) H := hP
                have hD : va_D (ef_A (rC cI r ((V 0)) ((V 1)) ((V 2)) ((V 3)) ((V 4)) ((V 5)) ((V 6)) (A1) (U1) (A2) (U2) ((J 0)) ((J 1)) ((J 2)) ((J 3)) ((J 4)) ((J 5)) ((J 6)) ((J 7)) ((J 8)) ((J 9)) ((J 10)) (pb) (pe) (ob) (oe) (b1) (e1) (b2) (e2))) (rC cI r ((Vv_2 0)) ((Vv_2 1)) ((Vv_2 2)) ((Vv_2 3)) ((Vv_2 4)) ((Vv_2 5)) ((Vv_2 6)) (A1) (U1) (A2) (U2) ((Jv_2 0)) ((Jv_2 1)) ((Jv_2 2)) ((Jv_2 3)) ((Jv_2 4)) ((Jv_2 5)) ((Jv_2 6)) ((Jv_2 7)) ((Jv_2 8)) ((Jv_2 9)) ((Jv_2 10)) (pbv_2) (pev_2) (obv_2) (oev_2) (b1) (e1) (b2) (e2)) := hD
                have e5v_2 : Vv_2 5 = V 5 := a5v_2.trans e5q
                have e6v_2 : Vv_2 6 = V 6 := a6v_2.trans e6q
                have eobv_2 : obv_2 = ob := aobv_2.trans eobq
                have eoev_2 : oev_2 = oe := aoev_2.trans eoeq
                refine W.eq (g2 := F0 m 104 ls []) rfl ?_
                refine lv_aload_n hx hb rd_M_down_104 rfl (lv_at hl 1 rfl) ?_
                refine lv_aload_n hx hb rd_M_down_105 rfl (lv_at hl 1 rfl) ?_
                refine va_get (D := (dC, dI)) (ci := 5) (v := .ref (r 1)) (C := rR5) (T := rT5) (N := 7) hx hb hts (fun w h => List.mem_cons_of_mem _ (rin5 w h)) hown hK hP 0 rfl rfl 2 (by decide) (hts _ (List.mem_cons_of_mem _ rm_312)) (fun _ h9 => h9) rfl rd_M_down_106 ?_
                refine lv_aload_n hx hb rd_M_down_109 rfl (lv_at hl 2 rfl) ?_
                refine ef_callV (As := [.ref (r 1), .ref (r 3)]) (rest := []) ⟨hx, hb, hml, hown, hts⟩ (r_orderP0 l dC dI ht r hJv_2 kA1v_2 kU1v_2 kA2v_2 kU2v_2 mA1 mU1 mA2 mU2 (by rw [a4v_2]; decide) nU (by rw [a3v_2]; exact fp_bl _) (by rw [a4v_2]; exact bl_1) bA bU (by rw [apev_2]; exact (fe_r (by omega)).1) (by rw [apev_2]; exact (fe_r (by omega)).2) lee gee (Or.inl apbv_2) hbr) (cwV 2 hts (ef_goodV rm_410 rm_412 rm_15 rm_24 rm_413) rfl rfl rfl (by decide +kernel) ⟨Nat.le_of_ble_eq_true rfl, Nat.le_of_ble_eq_true rfl⟩) hK hNX hP hD hS 0 rfl rfl rfl rfl hl.1 rfl (Nat.le_of_ble_eq_true rfl) rd_M_down_110 ⟨Nat.zero_le _, Nat.zero_le _⟩ (fun o w1 H locs hq hP hD hS => ?_)
                obtain ⟨Vv_3, Jv_3, pbv_3, pev_3, obv_3, oev_3, a5v_3, a6v_3, aobv_3, aoev_3, rfl, rfl, hJv_3, kA1v_3, kU1v_3, kA2v_3, kU2v_3⟩ := hq
                have hP : va_P (dC, dI) vwCl (rC cI r ((Vv_3 0)) ((Vv_3 1)) ((Vv_3 2)) ((Vv_3 3)) ((Vv_3 4)) ((Vv_3 5)) ((Vv_3 6)) (A1) (U1) (A2) (U2) ((Jv_3 0)) ((Jv_3 1)) ((Jv_3 2)) ((Jv_3 3)) ((Jv_3 4)) ((Jv_3 5)) ((Jv_3 6)) ((Jv_3 7)) ((Jv_3 8)) ((Jv_3 9)) ((Jv_3 10)) (pbv_3) (pev_3) (obv_3) (oev_3) (b1) (e1) (b2) (e2)) H := hP
                have hD : va_D (ef_A (rC cI r ((V 0)) ((V 1)) ((V 2)) ((V 3)) ((V 4)) ((V 5)) ((V 6)) (A1) (U1) (A2) (U2) ((J 0)) ((J 1)) ((J 2)) ((J 3)) ((J 4)) ((J 5)) ((J 6)) ((J 7)) ((J 8)) ((J 9)) ((J 10)) (pb) (pe) (ob) (oe) (b1) (e1) (b2) (e2))) (rC cI r ((Vv_3 0)) ((Vv_3 1)) ((Vv_3 2)) ((Vv_3 3)) ((Vv_3 4)) ((Vv_3 5)) ((Vv_3 6)) (A1) (U1) (A2) (U2) ((Jv_3 0)) ((Jv_3 1)) ((Jv_3 2)) ((Jv_3 3)) ((Jv_3 4)) ((Jv_3 5)) ((Jv_3 6)) ((Jv_3 7)) ((Jv_3 8)) ((Jv_3 9)) ((Jv_3 10)) (pbv_3) (pev_3) (obv_3) (oev_3) (b1) (e1) (b2) (e2)) := hD
                have e5v_3 : Vv_3 5 = V 5 := a5v_3.trans e5v_2
                have e6v_3 : Vv_3 6 = V 6 := a6v_3.trans e6v_2
                have eobv_3 : obv_3 = ob := aobv_3.trans eobv_2
                have eoev_3 : oev_3 = oe := aoev_3.trans eoev_2
                refine W.eq (g2 := F0 m 113 ls [.int (iv (ccmp (Vv_2 3) (Vv_2 4) pbv_2 pev_2 (A1) (U1) (b1) (e1)))]) rfl ?_
                refine iw_topi (y := iv (ccmp (fp (mi)) 1 0 (fe (mi)) A1 U1 b1 e1)) (congrArg iv (by rw [a3v_2, a4v_2, apbv_2, apev_2] : ((ccmp (Vv_2 3) (Vv_2 4) pbv_2 pev_2 (A1) (U1) (b1) (e1)) : Int) = (ccmp (fp (mi)) 1 0 (fe (mi)) A1 U1 b1 e1))) ?_
                have hcm := ccmp_pos (m := mi) (e := e1) nU hpos
                refine iw_if_gt (tgt := 122) hx hb rd_M_down_113 (by decide) (ccmp_r _ _ _ _ _ _ _ _) (fun c8 => ?_) (fun c8 => ?_)
                ·
                  refine lv_lload hx hb rd_M_down_122 (lv_at hl 0 rfl) ?_
                  refine lv_lstore (lv' := [(5, .long (jv ((mi : Int)))), (7, .long (jv ((mi : Int)))), (0, .ref (r 0)), (1, .ref (r 3)), (2, .int (iv (0))), (3, .long (jv ((lo : Int))))]) hx hb rd_M_down_124 hl (by decide) rfl (fun ls hl => ?_)
                  refine lv_goto (tgt := 71) hx hb rd_M_down_126 (by decide) ?_
                  exact ih (lo) (mi) (Vv_3) (Jv_3) (pbv_3) (pev_3) (obv_3) (oev_3) (hJv_3) (kA1v_3) (kU1v_3) (kA2v_3) (kU2v_3) (e5v_3) (e6v_3) (eobv_3) (eoev_3) (by omega) (by omega) (g3) (fun _ q => absurd (hcm.2 q) (by omega)) (by omega) H locs ls hP hD hS (lv_sub hl [2, 3, 4, 5, 0] rfl)
                ·
                  refine lv_lload hx hb rd_M_down_116 (lv_at hl 0 rfl) ?_
                  refine lv_lstore_n (lv' := [(3, .long (jv ((mi : Int)))), (7, .long (jv ((mi : Int)))), (0, .ref (r 0)), (1, .ref (r 3)), (2, .int (iv (0))), (5, .long (jv ((hi : Int))))]) hx hb rd_M_down_118 rfl hl (by decide) rfl (fun ls hl => ?_)
                  refine lv_goto (tgt := 126) hx hb rd_M_down_119 (by decide) ?_
                  refine lv_goto (tgt := 71) hx hb rd_M_down_126 (by decide) ?_
                  exact ih (mi) (hi) (Vv_3) (Jv_3) (pbv_3) (pev_3) (obv_3) (oev_3) (hJv_3) (kA1v_3) (kU1v_3) (kA2v_3) (kU2v_3) (e5v_3) (e6v_3) (eobv_3) (eoev_3) (by omega) (by omega) (hcm.1 c8) (g4) (by omega) H locs ls hP hD hS (lv_sub hl [2, 3, 4, 0, 5] rfl)
          exact loop (9218868437227405313) (0) (9218868437227405312) (Vv_1) (Jv_1) (pbv_1) (pev_1) (obv_1) (oev_1) (hJv_1) (kA1v_1) (kU1v_1) (kA2v_1) (kU2v_1) (e5v_1) (e6v_1) (eobv_1) (eoev_1) (by decide) (by decide) (by unfold fle; rw [fv_0.2 rfl, Nat.zero_mul, Nat.zero_mul]; exact Nat.zero_le _) (fun q => absurd q (by decide)) (by decide) H locs ls hP hD hS (lv_sub hl [3, 4, 2, 1, 0] rfl)
        ·
          exact absurd rfl c4
      ·
        exact absurd rfl c3
    ·
      exact absurd rfl c2
  ·
    exact absurd c1 (by omega)

set_option maxRecDepth 100000 in
set_option maxHeartbeats 4000000 in
/-- down -/
theorem r_down0N (l : Launch) (dC : Nat → ClassId) (dI : Nat → Nat → Nat) {cI : ClassId} {tys : List (ClassId × FieldType)} (ht : tys[0]? = some (cI, .int)) (r : Nat → Nat) {V : Nat → Nat} {J : Nat → Nat → Nat} {A1 U1 A2 U2 : Nat} {pb pe ob oe b1 e1 b2 e2 : Int} (hJ : rJ V J) (kA1 : bk A1 (J 7)) (kU1 : bk U1 (J 8)) (kA2 : bk A2 (J 9)) (kU2 : bk U2 (J 10)) (mA1 : dn A1 ≤ 300) (mU1 : dn U1 ≤ 300) (mA2 : dn A2 ≤ 300) (mU2 : dn U2 ≤ 300) (nU : U1 ≠ 0) (bA : bl A1 ≤ 4800) (bU : bl U1 ≤ 4800) (lee : -12000 ≤ e1) (gee : e1 ≤ 12000) (hbr : b1 = 0 ∨ b1 = 1) (nA : A1 ≠ 0) (hb1 : b1 = 1) : ef_C l ry_M_down rw_M_down ({ frames := 4, cells := 0, slots := 0, locals := 99 } : Room) [.ref (r 0), .ref (r 3)] (dC, dI) vwCl tys (rC cI r ((V 0)) ((V 1)) ((V 2)) ((V 3)) ((V 4)) ((V 5)) ((V 6)) (A1) (U1) (A2) (U2) ((J 0)) ((J 1)) ((J 2)) ((J 3)) ((J 4)) ((J 5)) ((J 6)) ((J 7)) ((J 8)) ((J 9)) ((J 10)) (pb) (pe) (ob) (oe) (b1) (e1) (b2) (e2)) (fun o w1 => ∃ z : Nat, (rsz A1 U1 e1 1 z ∧ z ≠ 0) ∧ ∃ (V2 : Nat → Nat) (J2 : Nat → Nat → Nat) (pb2 pe2 ob2 oe2 : Int), o = some (.long (jv ((z : Int) - 9223372036854775808))) ∧ w1 = rC cI r (V2 0) (V2 1) (V2 2) (V2 3) (V2 4) (V2 5) (V2 6) (A1) (U1) (A2) (U2) (J2 0) (J2 1) (J2 2) (J2 3) (J2 4) (J2 5) (J2 6) (J2 7) (J2 8) (J2 9) (J2 10) (pb2) (pe2) (ob2) (oe2) (b1) (e1) (b2) (e2) ∧ rJ V2 J2 ∧ bk (A1) (J2 7) ∧ bk (U1) (J2 8) ∧ bk (A2) (J2 9) ∧ bk (U2) (J2 10)) := by
  refine ef_C.of (cc := rc_M_down) (maxL := 9) (ret := (some .long)) (by decide) rfl (Nat.le_of_ble_eq_true rfl) ?_
  intro p e s m below meth c ls hx hb hml hr hts hown hlocks hK hNX hP hD hS hl
  have hl : lv_has ls 9 [(0, .ref (r 0)), (1, .ref (r 3))] := hl
  have hown : s.vm.findClass rR5 = some m.cls := hown
  generalize hH : s.heap = H at hP ⊢
  have hS : va_S (ef_A (rC cI r ((V 0)) ((V 1)) ((V 2)) ((V 3)) ((V 4)) ((V 5)) ((V 6)) (A1) (U1) (A2) (U2) ((J 0)) ((J 1)) ((J 2)) ((J 3)) ((J 4)) ((J 5)) ((J 6)) ((J 7)) ((J 8)) ((J 9)) ((J 10)) (pb) (pe) (ob) (oe) (b1) (e1) (b2) (e2))) s.heap H [] := by rw [← hH]; exact hS
  generalize ([] : List Loc) = locs at hS ⊢
  have hsg : sgn A1 b1 = -1 := by unfold sgn; rw [if_neg nA, if_neg (by omega)]
  refine lv_aload_n hx hb rd_M_down_0 rfl (lv_at hl 1 rfl) ?_
  refine ef_callV (As := []) (rest := []) ⟨hx, hb, hml, hown, hts⟩ (r_sign0 l dC dI ht r hJ kA1 kU1 kA2 kU2 mA1 mU1 mA2 mU2 hbr) (cwV 0 hts (ef_goodV rm_414 rm_415 rm_416 rm_26 rm_417) rfl rfl rfl (by decide +kernel) ⟨Nat.le_of_ble_eq_true rfl, Nat.le_of_ble_eq_true rfl⟩) hK hNX hP hD hS 3 rfl rfl rfl rfl hl.1 rfl (Nat.le_of_ble_eq_true rfl) rd_M_down_1 ⟨Nat.zero_le _, Nat.zero_le _⟩ (fun o w1 H locs hq hP hD hS => ?_)
  obtain ⟨rfl, e9⟩ := hq
  rw [e9] at hP hD
  refine W.eq (g2 := F0 m 4 ls [.int (iv (sgn A1 b1))]) rfl ?_
  refine iw_if_ge (tgt := 11) hx hb rd_M_down_4 (by decide) (sgn_ir A1 b1) (fun c1 => ?_) (fun c1 => ?_)
  ·
    exact absurd c1 (by omega)
  ·
    refine lv_iconst (v := iv (1)) hx hb rd_M_down_7 (by decide) ?_
    refine lv_goto (tgt := 12) hx hb rd_M_down_8 (by decide) ?_
    refine lv_istore_n (lv' := [(2, .int (iv (1))), (0, .ref (r 0)), (1, .ref (r 3))]) hx hb rd_M_down_12 rfl hl (by decide) rfl (fun ls hl => ?_)
    refine lv_iload_n hx hb rd_M_down_13 rfl (lv_at hl 0 rfl) ?_
    refine iw_if_eq (tgt := 23) hx hb rd_M_down_14 (by decide) ⟨by omega, by omega⟩ (fun c2 => ?_) (fun c2 => ?_)
    ·
      exact absurd c2 (by decide)
    ·
      refine lv_ldc2 (v := jv (-9218868437227405311)) hx hb hown (by have h9 := (hts _ (List.mem_cons_of_mem _ rm_453)); rw [show (-9218868437227405311 : Int64) = jv (-9218868437227405311) by decide] at h9; exact h9) rd_M_down_17 ?_
      refine lv_goto (tgt := 24) hx hb rd_M_down_20 (by decide) ?_
      refine iw_topl (y := jv (-((9218868437227405311 : Nat) : Int))) (congrArg jv (by rfl : ((-9218868437227405311) : Int) = (-((9218868437227405311 : Nat) : Int)))) ?_
      refine lv_lstore_n (lv' := [(3, .long (jv (-((9218868437227405311 : Nat) : Int)))), (2, .int (iv (1))), (0, .ref (r 0)), (1, .ref (r 3))]) hx hb rd_M_down_24 rfl hl (by decide) rfl (fun ls hl => ?_)
      refine lv_iload_n hx hb rd_M_down_25 rfl (lv_at hl 1 rfl) ?_
      refine iw_if_eq (tgt := 33) hx hb rd_M_down_26 (by decide) ⟨by omega, by omega⟩ (fun c3 => ?_) (fun c3 => ?_)
      ·
        exact absurd c3 (by decide)
      ·
        refine lv_lconst (v := jv (0)) hx hb rd_M_down_29 (by decide) ?_
        refine lv_goto (tgt := 36) hx hb rd_M_down_30 (by decide) ?_
        refine iw_topl (y := jv (-((0 : Nat) : Int))) (congrArg jv (by rfl : ((0) : Int) = (-((0 : Nat) : Int)))) ?_
        refine lv_lstore (lv' := [(5, .long (jv (-((0 : Nat) : Int)))), (3, .long (jv (-((9218868437227405311 : Nat) : Int)))), (2, .int (iv (1))), (0, .ref (r 0)), (1, .ref (r 3))]) hx hb rd_M_down_36 hl (by decide) rfl (fun ls hl => ?_)
        refine lv_aload_n hx hb rd_M_down_38 rfl (lv_at hl 3 rfl) ?_
        refine va_get (D := (dC, dI)) (ci := 5) (v := .ref (r 1)) (C := rR5) (T := rT5) (N := 7) hx hb hts (fun w h => List.mem_cons_of_mem _ (rin5 w h)) hown hK hP 0 rfl rfl 2 (by decide) (hts _ (List.mem_cons_of_mem _ rm_312)) (fun _ h9 => h9) rfl rd_M_down_39 ?_
        refine lv_ldc2 (v := jv (-9218868437227405311)) hx hb hown (by have h9 := (hts _ (List.mem_cons_of_mem _ rm_453)); rw [show (-9218868437227405311 : Int64) = jv (-9218868437227405311) by decide] at h9; exact h9) rd_M_down_42 ?_
        refine iw_topl (y := jv (-((9218868437227405311 : Nat) : Int))) (congrArg jv (by rfl : ((-9218868437227405311) : Int) = (-((9218868437227405311 : Nat) : Int)))) ?_
        refine ef_callS (As := [.long (jv (-((9218868437227405311 : Nat) : Int)))]) (rest := [.ref (r 1)]) ⟨hx, hb, hml, hown, hts⟩ (r_floatN l dC dI ht r 9218868437227405311 (by decide) (by decide)) (cwS 1 hts (ef_goodS rm_455 rm_456 rm_24 rm_457) rfl rfl rfl (by decide +kernel) ⟨Nat.le_of_ble_eq_true rfl, Nat.le_of_ble_eq_true rfl⟩) hK hNX hP hD hS rfl hl.1 rfl (Nat.le_of_ble_eq_true rfl) rd_M_down_45 ⟨Nat.zero_le _, Nat.zero_le _⟩ (fun o w1 H locs hq hP hD hS => ?_)
        obtain ⟨rfl, e9⟩ := hq
        rw [e9] at hP hD
        refine W.eq (g2 := F0 m 48 ls [.long (jv (((9218868437227405311 : Nat) : Int) - 9223372036854775808)), .ref (r 1)]) rfl ?_
        refine ef_callV (As := [.long (jv (((9218868437227405311 : Nat) : Int) - 9223372036854775808))]) (rest := []) ⟨hx, hb, hml, hown, hts⟩ (r_setFloat1 l dC dI ht r hJ kA1 kU1 kA2 kU2 mA1 mU1 mA2 mU2 (9218868437227405311) (by decide)) (cwV 1 hts (ef_goodV rm_459 rm_460 rm_461 rm_26 rm_462) rfl rfl rfl (by decide +kernel) ⟨Nat.le_of_ble_eq_true rfl, Nat.le_of_ble_eq_true rfl⟩) hK hNX hP hD hS 1 rfl rfl rfl rfl hl.1 rfl (Nat.le_of_ble_eq_true rfl) rd_M_down_48 ⟨Nat.zero_le _, Nat.zero_le _⟩ (fun o w1 H locs hq hP hD hS => ?_)
        obtain ⟨Vv_1, Jv_1, pbv_1, pev_1, obv_1, oev_1, a5v_1, a6v_1, aobv_1, aoev_1, a3v_1, a4v_1, apbv_1, apev_1, rfl, rfl, hJv_1, kA1v_1, kU1v_1, kA2v_1, kU2v_1⟩ := hq
        have hP : va_P (dC, dI) vwCl (rC cI r ((Vv_1 0)) ((Vv_1 1)) ((Vv_1 2)) ((Vv_1 3)) ((Vv_1 4)) ((Vv_1 5)) ((Vv_1 6)) (A1) (U1) (A2) (U2) ((Jv_1 0)) ((Jv_1 1)) ((Jv_1 2)) ((Jv_1 3)) ((Jv_1 4)) ((Jv_1 5)) ((Jv_1 6)) ((Jv_1 7)) ((Jv_1 8)) ((Jv_1 9)) ((Jv_1 10)) (pbv_1) (pev_1) (obv_1) (oev_1) (b1) (e1) (b2) (e2)) H := hP
        have hD : va_D (ef_A (rC cI r ((V 0)) ((V 1)) ((V 2)) ((V 3)) ((V 4)) ((V 5)) ((V 6)) (A1) (U1) (A2) (U2) ((J 0)) ((J 1)) ((J 2)) ((J 3)) ((J 4)) ((J 5)) ((J 6)) ((J 7)) ((J 8)) ((J 9)) ((J 10)) (pb) (pe) (ob) (oe) (b1) (e1) (b2) (e2))) (rC cI r ((Vv_1 0)) ((Vv_1 1)) ((Vv_1 2)) ((Vv_1 3)) ((Vv_1 4)) ((Vv_1 5)) ((Vv_1 6)) (A1) (U1) (A2) (U2) ((Jv_1 0)) ((Jv_1 1)) ((Jv_1 2)) ((Jv_1 3)) ((Jv_1 4)) ((Jv_1 5)) ((Jv_1 6)) ((Jv_1 7)) ((Jv_1 8)) ((Jv_1 9)) ((Jv_1 10)) (pbv_1) (pev_1) (obv_1) (oev_1) (b1) (e1) (b2) (e2)) := hD
        have e5v_1 : Vv_1 5 = V 5 := a5v_1.trans rfl
        have e6v_1 : Vv_1 6 = V 6 := a6v_1.trans rfl
        have eobv_1 : obv_1 = ob := aobv_1.trans rfl
        have eoev_1 : oev_1 = oe := aoev_1.trans rfl
        refine W.eq (g2 := F0 m 51 ls []) rfl ?_
        refine lv_iload_n hx hb rd_M_down_51 rfl (lv_at hl 2 rfl) ?_
        refine iw_if_eq (tgt := 71) hx hb rd_M_down_52 (by decide) ⟨by omega, by omega⟩ (fun c4 => ?_) (fun c4 => ?_)
        ·
          exact absurd c4 (by decide)
        ·
          refine lv_aload_n hx hb rd_M_down_55 rfl (lv_at hl 3 rfl) ?_
          refine lv_aload_n hx hb rd_M_down_56 rfl (lv_at hl 3 rfl) ?_
          refine va_get (D := (dC, dI)) (ci := 5) (v := .ref (r 1)) (C := rR5) (T := rT5) (N := 7) hx hb hts (fun w h => List.mem_cons_of_mem _ (rin5 w h)) hown hK hP 0 rfl rfl 2 (by decide) (hts _ (List.mem_cons_of_mem _ rm_312)) (fun _ h9 => h9) rfl rd_M_down_57 ?_
          refine lv_aload_n hx hb rd_M_down_60 rfl (lv_at hl 4 rfl) ?_
          refine ef_callV (As := [.ref (r 1), .ref (r 3)]) (rest := []) ⟨hx, hb, hml, hown, hts⟩ (r_orderP0 l dC dI ht r hJv_1 kA1v_1 kU1v_1 kA2v_1 kU2v_1 mA1 mU1 mA2 mU2 (by rw [a4v_1]; decide) nU (by rw [a3v_1]; exact fp_bl _) (by rw [a4v_1]; exact bl_1) bA bU (by rw [apev_1]; exact (fe_r (by omega)).1) (by rw [apev_1]; exact (fe_r (by omega)).2) lee gee (Or.inr apbv_1) hbr) (cwV 2 hts (ef_goodV rm_410 rm_412 rm_15 rm_24 rm_413) rfl rfl rfl (by decide +kernel) ⟨Nat.le_of_ble_eq_true rfl, Nat.le_of_ble_eq_true rfl⟩) hK hNX hP hD hS 0 rfl rfl rfl rfl hl.1 rfl (Nat.le_of_ble_eq_true rfl) rd_M_down_61 ⟨Nat.zero_le _, Nat.zero_le _⟩ (fun o w1 H locs hq hP hD hS => ?_)
          obtain ⟨Vv_2, Jv_2, pbv_2, pev_2, obv_2, oev_2, a5v_2, a6v_2, aobv_2, aoev_2, rfl, rfl, hJv_2, kA1v_2, kU1v_2, kA2v_2, kU2v_2⟩ := hq
          have hP : va_P (dC, dI) vwCl (rC cI r ((Vv_2 0)) ((Vv_2 1)) ((Vv_2 2)) ((Vv_2 3)) ((Vv_2 4)) ((Vv_2 5)) ((Vv_2 6)) (A1) (U1) (A2) (U2) ((Jv_2 0)) ((Jv_2 1)) ((Jv_2 2)) ((Jv_2 3)) ((Jv_2 4)) ((Jv_2 5)) ((Jv_2 6)) ((Jv_2 7)) ((Jv_2 8)) ((Jv_2 9)) ((Jv_2 10)) (pbv_2) (pev_2) (obv_2) (oev_2) (b1) (e1) (b2) (e2)) H := hP
          have hD : va_D (ef_A (rC cI r ((V 0)) ((V 1)) ((V 2)) ((V 3)) ((V 4)) ((V 5)) ((V 6)) (A1) (U1) (A2) (U2) ((J 0)) ((J 1)) ((J 2)) ((J 3)) ((J 4)) ((J 5)) ((J 6)) ((J 7)) ((J 8)) ((J 9)) ((J 10)) (pb) (pe) (ob) (oe) (b1) (e1) (b2) (e2))) (rC cI r ((Vv_2 0)) ((Vv_2 1)) ((Vv_2 2)) ((Vv_2 3)) ((Vv_2 4)) ((Vv_2 5)) ((Vv_2 6)) (A1) (U1) (A2) (U2) ((Jv_2 0)) ((Jv_2 1)) ((Jv_2 2)) ((Jv_2 3)) ((Jv_2 4)) ((Jv_2 5)) ((Jv_2 6)) ((Jv_2 7)) ((Jv_2 8)) ((Jv_2 9)) ((Jv_2 10)) (pbv_2) (pev_2) (obv_2) (oev_2) (b1) (e1) (b2) (e2)) := hD
          have e5v_2 : Vv_2 5 = V 5 := a5v_2.trans e5v_1
          have e6v_2 : Vv_2 6 = V 6 := a6v_2.trans e6v_1
          have eobv_2 : obv_2 = ob := aobv_2.trans eobv_1
          have eoev_2 : oev_2 = oe := aoev_2.trans eoev_1
          refine W.eq (g2 := F0 m 64 ls [.int (iv (ccmp (Vv_1 3) (Vv_1 4) pbv_1 pev_1 (A1) (U1) (b1) (e1)))]) rfl ?_
          refine iw_topi (y := iv (ccmp (fp (9218868437227405311)) 1 1 (fe (9218868437227405311)) A1 U1 1 e1)) (congrArg iv (by rw [a3v_1, a4v_1, apbv_1, apev_1, hb1] : ((ccmp (Vv_1 3) (Vv_1 4) pbv_1 pev_1 (A1) (U1) (b1) (e1)) : Int) = (ccmp (fp (9218868437227405311)) 1 1 (fe (9218868437227405311)) A1 U1 1 e1))) ?_
          refine iw_if_le (tgt := 71) hx hb rd_M_down_64 (by decide) (ccmp_r _ _ _ _ _ _ _ _) (fun c5 => ?_) (fun c5 => ?_)
          ·
            have hG := (ccmp_neg (U := U1) (e := e1) nA (show (9218868437227405311 : Nat) ≠ 0 by decide)).1 c5
            have loop : ∀ (fuel : Nat) (lo : Nat) (hi : Nat) (Vq : Nat → Nat) (Jq : Nat → Nat → Nat) (pbq : Int) (peq : Int) (obq : Int) (oeq : Int), (rJ Vq Jq) → (bk A1 (Jq 7)) → (bk U1 (Jq 8)) → (bk A2 (Jq 9)) → (bk U2 (Jq 10)) → (Vq 5 = V 5) → (Vq 6 = V 6) → (obq = ob) → (oeq = oe) → (hi < lo) → (lo ≤ 9218868437227405311) → (A1 * pw e1 ≤ fv lo * U1 * pw (-1074)) → (¬ A1 * pw e1 ≤ fv hi * U1 * pw (-1074)) → (lo < hi + fuel) → ∀ (H : Heap) (locs : List Loc) (ls : Array Slot), va_P (dC, dI) vwCl (rC cI r ((Vq 0)) ((Vq 1)) ((Vq 2)) ((Vq 3)) ((Vq 4)) ((Vq 5)) ((Vq 6)) (A1) (U1) (A2) (U2) ((Jq 0)) ((Jq 1)) ((Jq 2)) ((Jq 3)) ((Jq 4)) ((Jq 5)) ((Jq 6)) ((Jq 7)) ((Jq 8)) ((Jq 9)) ((Jq 10)) (pbq) (peq) (obq) (oeq) (b1) (e1) (b2) (e2)) H → va_D (ef_A (rC cI r ((V 0)) ((V 1)) ((V 2)) ((V 3)) ((V 4)) ((V 5)) ((V 6)) (A1) (U1) (A2) (U2) ((J 0)) ((J 1)) ((J 2)) ((J 3)) ((J 4)) ((J 5)) ((J 6)) ((J 7)) ((J 8)) ((J 9)) ((J 10)) (pb) (pe) (ob) (oe) (b1) (e1) (b2) (e2))) (rC cI r ((Vq 0)) ((Vq 1)) ((Vq 2)) ((Vq 3)) ((Vq 4)) ((Vq 5)) ((Vq 6)) (A1) (U1) (A2) (U2) ((Jq 0)) ((Jq 1)) ((Jq 2)) ((Jq 3)) ((Jq 4)) ((Jq 5)) ((Jq 6)) ((Jq 7)) ((Jq 8)) ((Jq 9)) ((Jq 10)) (pbq) (peq) (obq) (oeq) (b1) (e1) (b2) (e2)) → va_S (ef_A (rC cI r ((V 0)) ((V 1)) ((V 2)) ((V 3)) ((V 4)) ((V 5)) ((V 6)) (A1) (U1) (A2) (U2) ((J 0)) ((J 1)) ((J 2)) ((J 3)) ((J 4)) ((J 5)) ((J 6)) ((J 7)) ((J 8)) ((J 9)) ((J 10)) (pb) (pe) (ob) (oe) (b1) (e1) (b2) (e2))) s.heap H locs → lv_has ls 9 [(0, .ref (r 0)), (1, .ref (r 3)), (2, .int (iv (1))), (3, .long (jv (-(lo : Int)))), (5, .long (jv (-(hi : Int))))] → W p l e ({ frames := 4, cells := 0, slots := 0, locals := 99 } : Room) s m ([.ref (r 0), .ref (r 3)] : List Value).toArray below meth c H locs 0 0 (ef_R below (dC, dI) vwCl (rC cI r ((V 0)) ((V 1)) ((V 2)) ((V 3)) ((V 4)) ((V 5)) ((V 6)) (A1) (U1) (A2) (U2) ((J 0)) ((J 1)) ((J 2)) ((J 3)) ((J 4)) ((J 5)) ((J 6)) ((J 7)) ((J 8)) ((J 9)) ((J 10)) (pb) (pe) (ob) (oe) (b1) (e1) (b2) (e2)) (fun o w1 => ∃ z : Nat, (rsz A1 U1 e1 1 z ∧ z ≠ 0) ∧ ∃ (V2 : Nat → Nat) (J2 : Nat → Nat → Nat) (pb2 pe2 ob2 oe2 : Int), o = some (.long (jv ((z : Int) - 9223372036854775808))) ∧ w1 = rC cI r (V2 0) (V2 1) (V2 2) (V2 3) (V2 4) (V2 5) (V2 6) (A1) (U1) (A2) (U2) (J2 0) (J2 1) (J2 2) (J2 3) (J2 4) (J2 5) (J2 6) (J2 7) (J2 8) (J2 9) (J2 10) (pb2) (pe2) (ob2) (oe2) (b1) (e1) (b2) (e2) ∧ rJ V2 J2 ∧ bk (A1) (J2 7) ∧ bk (U1) (J2 8) ∧ bk (A2) (J2 9) ∧ bk (U2) (J2 10)) [.ref (r 0), .ref (r 3)] s) (F0 m 71 ls []) := by
              intro fuel
              induction fuel with
              | zero => intro lo hi Vq Jq pbq peq obq oeq hJq kA1q kU1q kA2q kU2q e5q e6q eobq eoeq g1 g2 g3 g4 g5; exfalso; omega
              | succ fuel ih =>
                intro lo hi Vq Jq pbq peq obq oeq hJq kA1q kU1q kA2q kU2q e5q e6q eobq eoeq g1 g2 g3 g4 g5 H locs ls hP hD hS hl
                refine lv_lload hx hb rd_M_down_71 (lv_at hl 4 rfl) ?_
                refine lv_lload_n hx hb rd_M_down_73 rfl (lv_at hl 3 rfl) ?_
                refine iw_lsub hx hb rd_M_down_74 ?_
                refine iw_topl (y := jv (((lo - hi : Nat) : Int))) (congrArg jv (by omega : (((-(hi : Int)) - (-(lo : Int))) : Int) = (((lo - hi : Nat) : Int)))) ?_
                refine lv_lconst (v := jv (1)) hx hb rd_M_down_75 (by decide) ?_
                refine iw_lcmp hx hb (⟨by omega, by omega⟩) (⟨by omega, by omega⟩) rd_M_down_76 ?_
                refine iw_if_le (tgt := 129) hx hb rd_M_down_77 (by decide) (ir_zc _ _) (fun c6 => ?_) (fun c6 => ?_)
                ·
                  have c7 := (zc_le _ _).1 c6
                  obtain rfl : lo = hi + 1 := by omega
                  refine lv_lload_n hx hb rd_M_down_129 rfl (lv_at hl 3 rfl) ?_
                  refine ef_callS (As := [.long (jv (-((hi + 1 : Nat) : Int)))]) (rest := []) ⟨hx, hb, hml, hown, hts⟩ (r_floatN l dC dI ht r (hi + 1) (by omega) (by omega)) (cwS 1 hts (ef_goodS rm_455 rm_456 rm_24 rm_457) rfl rfl rfl (by decide +kernel) ⟨Nat.le_of_ble_eq_true rfl, Nat.le_of_ble_eq_true rfl⟩) hK hNX hP hD hS rfl hl.1 rfl (Nat.le_of_ble_eq_true rfl) rd_M_down_130 ⟨Nat.zero_le _, Nat.zero_le _⟩ (fun o w1 H locs hq hP hD hS => ?_)
                  obtain ⟨rfl, e9⟩ := hq
                  rw [e9] at hP hD
                  refine W.eq (g2 := F0 m 133 ls [.long (jv (((hi + 1 : Nat) : Int) - 9223372036854775808))]) rfl ?_
                  exact ef_lret hx hb hr hlocks hP hD hS rd_M_down_133 (⟨hi + 1, ⟨rsz_neg g2 g3 g4, by omega⟩, fun i => [((Vq 0)), ((Vq 1)), ((Vq 2)), ((Vq 3)), ((Vq 4)), ((Vq 5)), ((Vq 6))].getD i 0, fun i => [((Jq 0)), ((Jq 1)), ((Jq 2)), ((Jq 3)), ((Jq 4)), ((Jq 5)), ((Jq 6)), ((Jq 7)), ((Jq 8)), ((Jq 9)), ((Jq 10))].getD i (fun _ => 0), _, _, _, _, rfl, rfl, rJ_of (hJq 0 (by decide)) (hJq 1 (by decide)) (hJq 2 (by decide)) (hJq 3 (by decide)) (hJq 4 (by decide)) (hJq 5 (by decide)) (hJq 6 (by decide)), kA1q, kU1q, kA2q, kU2q⟩)
                ·
                  have c7 : ¬ ((lo - hi : Nat) : Int) ≤ 1 := fun q => absurd ((zc_le _ _).2 q) (by omega)
                  refine lv_lload_n hx hb rd_M_down_80 rfl (lv_at hl 3 rfl) ?_
                  refine lv_lload hx hb rd_M_down_81 (lv_at hl 4 rfl) ?_
                  refine lv_lload_n hx hb rd_M_down_83 rfl (lv_at hl 3 rfl) ?_
                  refine iw_lsub hx hb rd_M_down_84 ?_
                  refine iw_topl (y := jv (((lo - hi : Nat) : Int))) (congrArg jv (by omega : (((-(hi : Int)) - (-(lo : Int))) : Int) = (((lo - hi : Nat) : Int)))) ?_
                  refine lv_ldc2 (v := jv (2)) hx hb hown (hts _ (List.mem_cons_of_mem _ rm_467)) rd_M_down_85 ?_
                  refine iw_ldiv2 (a := lo - hi) hx hb (by omega) rd_M_down_88 ?_
                  obtain ⟨mi, hmi⟩ : ∃ mi, mi = lo - (lo - hi) / 2 := ⟨_, rfl⟩
                  refine iw_ladd hx hb rd_M_down_89 ?_
                  refine iw_topl (y := jv (-(mi : Int))) (congrArg jv (by omega : (((-(lo : Int)) + ((((lo - hi) / 2 : Nat) : Int))) : Int) = (-(mi : Int)))) ?_
                  refine lv_lstore (lv' := [(7, .long (jv (-(mi : Int)))), (0, .ref (r 0)), (1, .ref (r 3)), (2, .int (iv (1))), (3, .long (jv (-(lo : Int)))), (5, .long (jv (-(hi : Int))))]) hx hb rd_M_down_90 hl (by decide) rfl (fun ls hl => ?_)
                  refine lv_aload_n hx hb rd_M_down_92 rfl (lv_at hl 1 rfl) ?_
                  refine va_get (D := (dC, dI)) (ci := 5) (v := .ref (r 1)) (C := rR5) (T := rT5) (N := 7) hx hb hts (fun w h => List.mem_cons_of_mem _ (rin5 w h)) hown hK hP 0 rfl rfl 2 (by decide) (hts _ (List.mem_cons_of_mem _ rm_312)) (fun _ h9 => h9) rfl rd_M_down_93 ?_
                  refine lv_lload hx hb rd_M_down_96 (lv_at hl 0 rfl) ?_
                  refine ef_callS (As := [.long (jv (-(mi : Int)))]) (rest := [.ref (r 1)]) ⟨hx, hb, hml, hown, hts⟩ (r_floatN l dC dI ht r mi (by omega) (by omega)) (cwS 1 hts (ef_goodS rm_455 rm_456 rm_24 rm_457) rfl rfl rfl (by decide +kernel) ⟨Nat.le_of_ble_eq_true rfl, Nat.le_of_ble_eq_true rfl⟩) hK hNX hP hD hS rfl hl.1 rfl (Nat.le_of_ble_eq_true rfl) rd_M_down_98 ⟨Nat.zero_le _, Nat.zero_le _⟩ (fun o w1 H locs hq hP hD hS => ?_)
                  obtain ⟨rfl, e9⟩ := hq
                  rw [e9] at hP hD
                  refine W.eq (g2 := F0 m 101 ls [.long (jv ((mi : Int) - 9223372036854775808)), .ref (r 1)]) rfl ?_
                  refine ef_callV (As := [.long (jv ((mi : Int) - 9223372036854775808))]) (rest := []) ⟨hx, hb, hml, hown, hts⟩ (r_setFloat1 l dC dI ht r hJq kA1q kU1q kA2q kU2q mA1 mU1 mA2 mU2 (mi) (by omega)) (cwV 1 hts (ef_goodV rm_459 rm_460 rm_461 rm_26 rm_462) rfl rfl rfl (by decide +kernel) ⟨Nat.le_of_ble_eq_true rfl, Nat.le_of_ble_eq_true rfl⟩) hK hNX hP hD hS 1 rfl rfl rfl rfl hl.1 rfl (Nat.le_of_ble_eq_true rfl) rd_M_down_101 ⟨Nat.zero_le _, Nat.zero_le _⟩ (fun o w1 H locs hq hP hD hS => ?_)
                  obtain ⟨Vv_3, Jv_3, pbv_3, pev_3, obv_3, oev_3, a5v_3, a6v_3, aobv_3, aoev_3, a3v_3, a4v_3, apbv_3, apev_3, rfl, rfl, hJv_3, kA1v_3, kU1v_3, kA2v_3, kU2v_3⟩ := hq
                  have hP : va_P (dC, dI) vwCl (rC cI r ((Vv_3 0)) ((Vv_3 1)) ((Vv_3 2)) ((Vv_3 3)) ((Vv_3 4)) ((Vv_3 5)) ((Vv_3 6)) (A1) (U1) (A2) (U2) ((Jv_3 0)) ((Jv_3 1)) ((Jv_3 2)) ((Jv_3 3)) ((Jv_3 4)) ((Jv_3 5)) ((Jv_3 6)) ((Jv_3 7)) ((Jv_3 8)) ((Jv_3 9)) ((Jv_3 10)) (pbv_3) (pev_3) (obv_3) (oev_3) (b1) (e1) (b2) (e2)) H := hP
                  have hD : va_D (ef_A (rC cI r ((V 0)) ((V 1)) ((V 2)) ((V 3)) ((V 4)) ((V 5)) ((V 6)) (A1) (U1) (A2) (U2) ((J 0)) ((J 1)) ((J 2)) ((J 3)) ((J 4)) ((J 5)) ((J 6)) ((J 7)) ((J 8)) ((J 9)) ((J 10)) (pb) (pe) (ob) (oe) (b1) (e1) (b2) (e2))) (rC cI r ((Vv_3 0)) ((Vv_3 1)) ((Vv_3 2)) ((Vv_3 3)) ((Vv_3 4)) ((Vv_3 5)) ((Vv_3 6)) (A1) (U1) (A2) (U2) ((Jv_3 0)) ((Jv_3 1)) ((Jv_3 2)) ((Jv_3 3)) ((Jv_3 4)) ((Jv_3 5)) ((Jv_3 6)) ((Jv_3 7)) ((Jv_3 8)) ((Jv_3 9)) ((Jv_3 10)) (pbv_3) (pev_3) (obv_3) (oev_3) (b1) (e1) (b2) (e2)) := hD
                  have e5v_3 : Vv_3 5 = V 5 := a5v_3.trans e5q
                  have e6v_3 : Vv_3 6 = V 6 := a6v_3.trans e6q
                  have eobv_3 : obv_3 = ob := aobv_3.trans eobq
                  have eoev_3 : oev_3 = oe := aoev_3.trans eoeq
                  refine W.eq (g2 := F0 m 104 ls []) rfl ?_
                  refine lv_aload_n hx hb rd_M_down_104 rfl (lv_at hl 1 rfl) ?_
                  refine lv_aload_n hx hb rd_M_down_105 rfl (lv_at hl 1 rfl) ?_
                  refine va_get (D := (dC, dI)) (ci := 5) (v := .ref (r 1)) (C := rR5) (T := rT5) (N := 7) hx hb hts (fun w h => List.mem_cons_of_mem _ (rin5 w h)) hown hK hP 0 rfl rfl 2 (by decide) (hts _ (List.mem_cons_of_mem _ rm_312)) (fun _ h9 => h9) rfl rd_M_down_106 ?_
                  refine lv_aload_n hx hb rd_M_down_109 rfl (lv_at hl 2 rfl) ?_
                  refine ef_callV (As := [.ref (r 1), .ref (r 3)]) (rest := []) ⟨hx, hb, hml, hown, hts⟩ (r_orderP0 l dC dI ht r hJv_3 kA1v_3 kU1v_3 kA2v_3 kU2v_3 mA1 mU1 mA2 mU2 (by rw [a4v_3]; decide) nU (by rw [a3v_3]; exact fp_bl _) (by rw [a4v_3]; exact bl_1) bA bU (by rw [apev_3]; exact (fe_r (by omega)).1) (by rw [apev_3]; exact (fe_r (by omega)).2) lee gee (Or.inr apbv_3) hbr) (cwV 2 hts (ef_goodV rm_410 rm_412 rm_15 rm_24 rm_413) rfl rfl rfl (by decide +kernel) ⟨Nat.le_of_ble_eq_true rfl, Nat.le_of_ble_eq_true rfl⟩) hK hNX hP hD hS 0 rfl rfl rfl rfl hl.1 rfl (Nat.le_of_ble_eq_true rfl) rd_M_down_110 ⟨Nat.zero_le _, Nat.zero_le _⟩ (fun o w1 H locs hq hP hD hS => ?_)
                  obtain ⟨Vv_4, Jv_4, pbv_4, pev_4, obv_4, oev_4, a5v_4, a6v_4, aobv_4, aoev_4, rfl, rfl, hJv_4, kA1v_4, kU1v_4, kA2v_4, kU2v_4⟩ := hq
                  have hP : va_P (dC, dI) vwCl (rC cI r ((Vv_4 0)) ((Vv_4 1)) ((Vv_4 2)) ((Vv_4 3)) ((Vv_4 4)) ((Vv_4 5)) ((Vv_4 6)) (A1) (U1) (A2) (U2) ((Jv_4 0)) ((Jv_4 1)) ((Jv_4 2)) ((Jv_4 3)) ((Jv_4 4)) ((Jv_4 5)) ((Jv_4 6)) ((Jv_4 7)) ((Jv_4 8)) ((Jv_4 9)) ((Jv_4 10)) (pbv_4) (pev_4) (obv_4) (oev_4) (b1) (e1) (b2) (e2)) H := hP
                  have hD : va_D (ef_A (rC cI r ((V 0)) ((V 1)) ((V 2)) ((V 3)) ((V 4)) ((V 5)) ((V 6)) (A1) (U1) (A2) (U2) ((J 0)) ((J 1)) ((J 2)) ((J 3)) ((J 4)) ((J 5)) ((J 6)) ((J 7)) ((J 8)) ((J 9)) ((J 10)) (pb) (pe) (ob) (oe) (b1) (e1) (b2) (e2))) (rC cI r ((Vv_4 0)) ((Vv_4 1)) ((Vv_4 2)) ((Vv_4 3)) ((Vv_4 4)) ((Vv_4 5)) ((Vv_4 6)) (A1) (U1) (A2) (U2) ((Jv_4 0)) ((Jv_4 1)) ((Jv_4 2)) ((Jv_4 3)) ((Jv_4 4)) ((Jv_4 5)) ((Jv_4 6)) ((Jv_4 7)) ((Jv_4 8)) ((Jv_4 9)) ((Jv_4 10)) (pbv_4) (pev_4) (obv_4) (oev_4) (b1) (e1) (b2) (e2)) := hD
                  have e5v_4 : Vv_4 5 = V 5 := a5v_4.trans e5v_3
                  have e6v_4 : Vv_4 6 = V 6 := a6v_4.trans e6v_3
                  have eobv_4 : obv_4 = ob := aobv_4.trans eobv_3
                  have eoev_4 : oev_4 = oe := aoev_4.trans eoev_3
                  refine W.eq (g2 := F0 m 113 ls [.int (iv (ccmp (Vv_3 3) (Vv_3 4) pbv_3 pev_3 (A1) (U1) (b1) (e1)))]) rfl ?_
                  refine iw_topi (y := iv (ccmp (fp (mi)) 1 1 (fe (mi)) A1 U1 1 e1)) (congrArg iv (by rw [a3v_3, a4v_3, apbv_3, apev_3, hb1] : ((ccmp (Vv_3 3) (Vv_3 4) pbv_3 pev_3 (A1) (U1) (b1) (e1)) : Int) = (ccmp (fp (mi)) 1 1 (fe (mi)) A1 U1 1 e1))) ?_
                  have hcm := ccmp_neg (U := U1) (e := e1) (k := mi) nA (by omega)
                  refine iw_if_gt (tgt := 122) hx hb rd_M_down_113 (by decide) (ccmp_r _ _ _ _ _ _ _ _) (fun c8 => ?_) (fun c8 => ?_)
                  ·
                    refine lv_lload hx hb rd_M_down_122 (lv_at hl 0 rfl) ?_
                    refine lv_lstore (lv' := [(5, .long (jv (-(mi : Int)))), (7, .long (jv (-(mi : Int)))), (0, .ref (r 0)), (1, .ref (r 3)), (2, .int (iv (1))), (3, .long (jv (-(lo : Int))))]) hx hb rd_M_down_124 hl (by decide) rfl (fun ls hl => ?_)
                    refine lv_goto (tgt := 71) hx hb rd_M_down_126 (by decide) ?_
                    exact ih (lo) (mi) (Vv_4) (Jv_4) (pbv_4) (pev_4) (obv_4) (oev_4) (hJv_4) (kA1v_4) (kU1v_4) (kA2v_4) (kU2v_4) (e5v_4) (e6v_4) (eobv_4) (eoev_4) (by omega) (by omega) (g3) (fun q => absurd (hcm.2 q) (by omega)) (by omega) H locs ls hP hD hS (lv_sub hl [2, 3, 4, 5, 0] rfl)
                  ·
                    refine lv_lload hx hb rd_M_down_116 (lv_at hl 0 rfl) ?_
                    refine lv_lstore_n (lv' := [(3, .long (jv (-(mi : Int)))), (7, .long (jv (-(mi : Int)))), (0, .ref (r 0)), (1, .ref (r 3)), (2, .int (iv (1))), (5, .long (jv (-(hi : Int))))]) hx hb rd_M_down_118 rfl hl (by decide) rfl (fun ls hl => ?_)
                    refine lv_goto (tgt := 126) hx hb rd_M_down_119 (by decide) ?_
                    refine lv_goto (tgt := 71) hx hb rd_M_down_126 (by decide) ?_
                    exact ih (mi) (hi) (Vv_4) (Jv_4) (pbv_4) (pev_4) (obv_4) (oev_4) (hJv_4) (kA1v_4) (kU1v_4) (kA2v_4) (kU2v_4) (e5v_4) (e6v_4) (eobv_4) (eoev_4) (by omega) (by omega) (hcm.1 c8) (g4) (by omega) H locs ls hP hD hS (lv_sub hl [2, 3, 4, 0, 5] rfl)
            exact loop (9218868437227405312) (9218868437227405311) (0) (Vv_2) (Jv_2) (pbv_2) (pev_2) (obv_2) (oev_2) (hJv_2) (kA1v_2) (kU1v_2) (kA2v_2) (kU2v_2) (e5v_2) (e6v_2) (eobv_2) (eoev_2) (by decide) (by decide) (hG) (by rw [fv_0.2 rfl, Nat.zero_mul, Nat.zero_mul]; have := Nat.mul_pos (show 0 < A1 by omega) (pw_pos e1); omega) (by decide) H locs ls hP hD hS (lv_sub hl [3, 4, 2, 1, 0] rfl)
          ·
            have hG : ¬ _ := fun q => absurd ((ccmp_neg (U := U1) (e := e1) nA (show (9218868437227405311 : Nat) ≠ 0 by decide)).2 q) (by omega)
            refine lv_ldc2 (v := jv (-4503599627370496)) hx hb hown (by have h9 := (hts _ (List.mem_cons_of_mem _ rm_466)); rw [show (-4503599627370496 : Int64) = jv (-4503599627370496) by decide] at h9; exact h9) rd_M_down_67 ?_
            refine iw_topl (y := jv (((9218868437227405312 : Nat) : Int) - 9223372036854775808)) (congrArg jv (by rfl : ((-4503599627370496) : Int) = (((9218868437227405312 : Nat) : Int) - 9223372036854775808))) ?_
            exact ef_lret hx hb hr hlocks hP hD hS rd_M_down_70 (⟨9218868437227405312, ⟨rsz_big hG, by decide⟩, fun i => [((Vv_2 0)), ((Vv_2 1)), ((Vv_2 2)), ((Vv_2 3)), ((Vv_2 4)), ((Vv_2 5)), ((Vv_2 6))].getD i 0, fun i => [((Jv_2 0)), ((Jv_2 1)), ((Jv_2 2)), ((Jv_2 3)), ((Jv_2 4)), ((Jv_2 5)), ((Jv_2 6)), ((Jv_2 7)), ((Jv_2 8)), ((Jv_2 9)), ((Jv_2 10))].getD i (fun _ => 0), _, _, _, _, rfl, rfl, rJ_of (hJv_2 0 (by decide)) (hJv_2 1 (by decide)) (hJv_2 2 (by decide)) (hJv_2 3 (by decide)) (hJv_2 4 (by decide)) (hJv_2 5 (by decide)) (hJv_2 6 (by decide)), kA1v_2, kU1v_2, kA2v_2, kU2v_2⟩)

set_option maxRecDepth 100000 in
set_option maxHeartbeats 4000000 in
/-- down -/
theorem r_down1P (l : Launch) (dC : Nat → ClassId) (dI : Nat → Nat → Nat) {cI : ClassId} {tys : List (ClassId × FieldType)} (ht : tys[0]? = some (cI, .int)) (r : Nat → Nat) {V : Nat → Nat} {J : Nat → Nat → Nat} {A1 U1 A2 U2 : Nat} {pb pe ob oe b1 e1 b2 e2 : Int} (hJ : rJ V J) (kA1 : bk A1 (J 7)) (kU1 : bk U1 (J 8)) (kA2 : bk A2 (J 9)) (kU2 : bk U2 (J 10)) (mA1 : dn A1 ≤ 300) (mU1 : dn U1 ≤ 300) (mA2 : dn A2 ≤ 300) (mU2 : dn U2 ≤ 300) (nU : U2 ≠ 0) (bA : bl A2 ≤ 4800) (bU : bl U2 ≤ 4800) (lee : -12000 ≤ e2) (gee : e2 ≤ 12000) (hbr : b2 = 0 ∨ b2 = 1) (hpos : A2 = 0 ∨ b2 = 0) : ef_C l ry_M_down rw_M_down ({ frames := 4, cells := 0, slots := 0, locals := 99 } : Room) [.ref (r 0), .ref (r 4)] (dC, dI) vwCl tys (rC cI r ((V 0)) ((V 1)) ((V 2)) ((V 3)) ((V 4)) ((V 5)) ((V 6)) (A1) (U1) (A2) (U2) ((J 0)) ((J 1)) ((J 2)) ((J 3)) ((J 4)) ((J 5)) ((J 6)) ((J 7)) ((J 8)) ((J 9)) ((J 10)) (pb) (pe) (ob) (oe) (b1) (e1) (b2) (e2)) (fun o w1 => ∃ z : Nat, isFl z A2 U2 e2 ∧ ∃ (V2 : Nat → Nat) (J2 : Nat → Nat → Nat) (pb2 pe2 ob2 oe2 : Int), o = some (.long (jv (z : Int))) ∧ w1 = rC cI r (V2 0) (V2 1) (V2 2) (V2 3) (V2 4) (V2 5) (V2 6) (A1) (U1) (A2) (U2) (J2 0) (J2 1) (J2 2) (J2 3) (J2 4) (J2 5) (J2 6) (J2 7) (J2 8) (J2 9) (J2 10) (pb2) (pe2) (ob2) (oe2) (b1) (e1) (b2) (e2) ∧ rJ V2 J2 ∧ bk (A1) (J2 7) ∧ bk (U1) (J2 8) ∧ bk (A2) (J2 9) ∧ bk (U2) (J2 10)) := by
  refine ef_C.of (cc := rc_M_down) (maxL := 9) (ret := (some .long)) (by decide) rfl (Nat.le_of_ble_eq_true rfl) ?_
  intro p e s m below meth c ls hx hb hml hr hts hown hlocks hK hNX hP hD hS hl
  have hl : lv_has ls 9 [(0, .ref (r 0)), (1, .ref (r 4))] := hl
  have hown : s.vm.findClass rR5 = some m.cls := hown
  generalize hH : s.heap = H at hP ⊢
  have hS : va_S (ef_A (rC cI r ((V 0)) ((V 1)) ((V 2)) ((V 3)) ((V 4)) ((V 5)) ((V 6)) (A1) (U1) (A2) (U2) ((J 0)) ((J 1)) ((J 2)) ((J 3)) ((J 4)) ((J 5)) ((J 6)) ((J 7)) ((J 8)) ((J 9)) ((J 10)) (pb) (pe) (ob) (oe) (b1) (e1) (b2) (e2))) s.heap H [] := by rw [← hH]; exact hS
  generalize ([] : List Loc) = locs at hS ⊢
  have hsg : sgn A2 b2 ≥ 0 := by
    unfold sgn
    rcases hpos with h | h
    · rw [if_pos h]; omega
    · (repeat split) <;> omega
  refine lv_aload_n hx hb rd_M_down_0 rfl (lv_at hl 1 rfl) ?_
  refine ef_callV (As := []) (rest := []) ⟨hx, hb, hml, hown, hts⟩ (r_sign1 l dC dI ht r hJ kA1 kU1 kA2 kU2 mA1 mU1 mA2 mU2 hbr) (cwV 0 hts (ef_goodV rm_414 rm_415 rm_416 rm_26 rm_417) rfl rfl rfl (by decide +kernel) ⟨Nat.le_of_ble_eq_true rfl, Nat.le_of_ble_eq_true rfl⟩) hK hNX hP hD hS 4 rfl rfl rfl rfl hl.1 rfl (Nat.le_of_ble_eq_true rfl) rd_M_down_1 ⟨Nat.zero_le _, Nat.zero_le _⟩ (fun o w1 H locs hq hP hD hS => ?_)
  obtain ⟨rfl, e9⟩ := hq
  rw [e9] at hP hD
  refine W.eq (g2 := F0 m 4 ls [.int (iv (sgn A2 b2))]) rfl ?_
  refine iw_if_ge (tgt := 11) hx hb rd_M_down_4 (by decide) (sgn_ir A2 b2) (fun c1 => ?_) (fun c1 => ?_)
  ·
    refine lv_iconst (v := iv (0)) hx hb rd_M_down_11 (by decide) ?_
    refine lv_istore_n (lv' := [(2, .int (iv (0))), (0, .ref (r 0)), (1, .ref (r 4))]) hx hb rd_M_down_12 rfl hl (by decide) rfl (fun ls hl => ?_)
    refine lv_iload_n hx hb rd_M_down_13 rfl (lv_at hl 0 rfl) ?_
    refine iw_if_eq (tgt := 23) hx hb rd_M_down_14 (by decide) ⟨by omega, by omega⟩ (fun c2 => ?_) (fun c2 => ?_)
    ·
      refine lv_lconst (v := jv (0)) hx hb rd_M_down_23 (by decide) ?_
      refine iw_topl (y := jv (((0 : Nat) : Int))) (congrArg jv (by rfl : ((0) : Int) = (((0 : Nat) : Int)))) ?_
      refine lv_lstore_n (lv' := [(3, .long (jv (((0 : Nat) : Int)))), (2, .int (iv (0))), (0, .ref (r 0)), (1, .ref (r 4))]) hx hb rd_M_down_24 rfl hl (by decide) rfl (fun ls hl => ?_)
      refine lv_iload_n hx hb rd_M_down_25 rfl (lv_at hl 1 rfl) ?_
      refine iw_if_eq (tgt := 33) hx hb rd_M_down_26 (by decide) ⟨by omega, by omega⟩ (fun c3 => ?_) (fun c3 => ?_)
      ·
        refine lv_ldc2 (v := jv (9218868437227405312)) hx hb hown (hts _ (List.mem_cons_of_mem _ rm_454)) rd_M_down_33 ?_
        refine iw_topl (y := jv (((9218868437227405312 : Nat) : Int))) (congrArg jv (by rfl : ((9218868437227405312) : Int) = (((9218868437227405312 : Nat) : Int)))) ?_
        refine lv_lstore (lv' := [(5, .long (jv (((9218868437227405312 : Nat) : Int)))), (3, .long (jv (((0 : Nat) : Int)))), (2, .int (iv (0))), (0, .ref (r 0)), (1, .ref (r 4))]) hx hb rd_M_down_36 hl (by decide) rfl (fun ls hl => ?_)
        refine lv_aload_n hx hb rd_M_down_38 rfl (lv_at hl 3 rfl) ?_
        refine va_get (D := (dC, dI)) (ci := 5) (v := .ref (r 1)) (C := rR5) (T := rT5) (N := 7) hx hb hts (fun w h => List.mem_cons_of_mem _ (rin5 w h)) hown hK hP 0 rfl rfl 2 (by decide) (hts _ (List.mem_cons_of_mem _ rm_312)) (fun _ h9 => h9) rfl rd_M_down_39 ?_
        refine lv_ldc2 (v := jv (-9218868437227405311)) hx hb hown (by have h9 := (hts _ (List.mem_cons_of_mem _ rm_453)); rw [show (-9218868437227405311 : Int64) = jv (-9218868437227405311) by decide] at h9; exact h9) rd_M_down_42 ?_
        refine iw_topl (y := jv (-((9218868437227405311 : Nat) : Int))) (congrArg jv (by rfl : ((-9218868437227405311) : Int) = (-((9218868437227405311 : Nat) : Int)))) ?_
        refine ef_callS (As := [.long (jv (-((9218868437227405311 : Nat) : Int)))]) (rest := [.ref (r 1)]) ⟨hx, hb, hml, hown, hts⟩ (r_floatN l dC dI ht r 9218868437227405311 (by decide) (by decide)) (cwS 1 hts (ef_goodS rm_455 rm_456 rm_24 rm_457) rfl rfl rfl (by decide +kernel) ⟨Nat.le_of_ble_eq_true rfl, Nat.le_of_ble_eq_true rfl⟩) hK hNX hP hD hS rfl hl.1 rfl (Nat.le_of_ble_eq_true rfl) rd_M_down_45 ⟨Nat.zero_le _, Nat.zero_le _⟩ (fun o w1 H locs hq hP hD hS => ?_)
        obtain ⟨rfl, e9⟩ := hq
        rw [e9] at hP hD
        refine W.eq (g2 := F0 m 48 ls [.long (jv (((9218868437227405311 : Nat) : Int) - 9223372036854775808)), .ref (r 1)]) rfl ?_
        refine ef_callV (As := [.long (jv (((9218868437227405311 : Nat) : Int) - 9223372036854775808))]) (rest := []) ⟨hx, hb, hml, hown, hts⟩ (r_setFloat1 l dC dI ht r hJ kA1 kU1 kA2 kU2 mA1 mU1 mA2 mU2 (9218868437227405311) (by decide)) (cwV 1 hts (ef_goodV rm_459 rm_460 rm_461 rm_26 rm_462) rfl rfl rfl (by decide +kernel) ⟨Nat.le_of_ble_eq_true rfl, Nat.le_of_ble_eq_true rfl⟩) hK hNX hP hD hS 1 rfl rfl rfl rfl hl.1 rfl (Nat.le_of_ble_eq_true rfl) rd_M_down_48 ⟨Nat.zero_le _, Nat.zero_le _⟩ (fun o w1 H locs hq hP hD hS => ?_)
        obtain ⟨Vv_1, Jv_1, pbv_1, pev_1, obv_1, oev_1, a5v_1, a6v_1, aobv_1, aoev_1, a3v_1, a4v_1, apbv_1, apev_1, rfl, rfl, hJv_1, kA1v_1, kU1v_1, kA2v_1, kU2v_1⟩ := hq
        have hP : va_P (dC, dI) vwCl (rC cI r ((Vv_1 0)) ((Vv_1 1)) ((Vv_1 2)) ((Vv_1 3)) ((Vv_1 4)) ((Vv_1 5)) ((Vv_1 6)) (A1) (U1) (A2) (U2) ((Jv_1 0)) ((Jv_1 1)) ((Jv_1 2)) ((Jv_1 3)) ((Jv_1 4)) ((Jv_1 5)) ((Jv_1 6)) ((Jv_1 7)) ((Jv_1 8)) ((Jv_1 9)) ((Jv_1 10)) (pbv_1) (pev_1) (obv_1) (oev_1) (b1) (e1) (b2) (e2)) H := hP
        have hD : va_D (ef_A (rC cI r ((V 0)) ((V 1)) ((V 2)) ((V 3)) ((V 4)) ((V 5)) ((V 6)) (A1) (U1) (A2) (U2) ((J 0)) ((J 1)) ((J 2)) ((J 3)) ((J 4)) ((J 5)) ((J 6)) ((J 7)) ((J 8)) ((J 9)) ((J 10)) (pb) (pe) (ob) (oe) (b1) (e1) (b2) (e2))) (rC cI r ((Vv_1 0)) ((Vv_1 1)) ((Vv_1 2)) ((Vv_1 3)) ((Vv_1 4)) ((Vv_1 5)) ((Vv_1 6)) (A1) (U1) (A2) (U2) ((Jv_1 0)) ((Jv_1 1)) ((Jv_1 2)) ((Jv_1 3)) ((Jv_1 4)) ((Jv_1 5)) ((Jv_1 6)) ((Jv_1 7)) ((Jv_1 8)) ((Jv_1 9)) ((Jv_1 10)) (pbv_1) (pev_1) (obv_1) (oev_1) (b1) (e1) (b2) (e2)) := hD
        have e5v_1 : Vv_1 5 = V 5 := a5v_1.trans rfl
        have e6v_1 : Vv_1 6 = V 6 := a6v_1.trans rfl
        have eobv_1 : obv_1 = ob := aobv_1.trans rfl
        have eoev_1 : oev_1 = oe := aoev_1.trans rfl
        refine W.eq (g2 := F0 m 51 ls []) rfl ?_
        refine lv_iload_n hx hb rd_M_down_51 rfl (lv_at hl 2 rfl) ?_
        refine iw_if_eq (tgt := 71) hx hb rd_M_down_52 (by decide) ⟨by omega, by omega⟩ (fun c4 => ?_) (fun c4 => ?_)
        ·
          have loop : ∀ (fuel : Nat) (lo : Nat) (hi : Nat) (Vq : Nat → Nat) (Jq : Nat → Nat → Nat) (pbq : Int) (peq : Int) (obq : Int) (oeq : Int), (rJ Vq Jq) → (bk A1 (Jq 7)) → (bk U1 (Jq 8)) → (bk A2 (Jq 9)) → (bk U2 (Jq 10)) → (Vq 5 = V 5) → (Vq 6 = V 6) → (obq = ob) → (oeq = oe) → (lo < hi) → (hi ≤ 9218868437227405312) → (fle lo A2 U2 e2) → (hi ≤ 9218868437227405311 → ¬ fle hi A2 U2 e2) → (hi < lo + fuel) → ∀ (H : Heap) (locs : List Loc) (ls : Array Slot), va_P (dC, dI) vwCl (rC cI r ((Vq 0)) ((Vq 1)) ((Vq 2)) ((Vq 3)) ((Vq 4)) ((Vq 5)) ((Vq 6)) (A1) (U1) (A2) (U2) ((Jq 0)) ((Jq 1)) ((Jq 2)) ((Jq 3)) ((Jq 4)) ((Jq 5)) ((Jq 6)) ((Jq 7)) ((Jq 8)) ((Jq 9)) ((Jq 10)) (pbq) (peq) (obq) (oeq) (b1) (e1) (b2) (e2)) H → va_D (ef_A (rC cI r ((V 0)) ((V 1)) ((V 2)) ((V 3)) ((V 4)) ((V 5)) ((V 6)) (A1) (U1) (A2) (U2) ((J 0)) ((J 1)) ((J 2)) ((J 3)) ((J 4)) ((J 5)) ((J 6)) ((J 7)) ((J 8)) ((J 9)) ((J 10)) (pb) (pe) (ob) (oe) (b1) (e1) (b2) (e2))) (rC cI r ((Vq 0)) ((Vq 1)) ((Vq 2)) ((Vq 3)) ((Vq 4)) ((Vq 5)) ((Vq 6)) (A1) (U1) (A2) (U2) ((Jq 0)) ((Jq 1)) ((Jq 2)) ((Jq 3)) ((Jq 4)) ((Jq 5)) ((Jq 6)) ((Jq 7)) ((Jq 8)) ((Jq 9)) ((Jq 10)) (pbq) (peq) (obq) (oeq) (b1) (e1) (b2) (e2)) → va_S (ef_A (rC cI r ((V 0)) ((V 1)) ((V 2)) ((V 3)) ((V 4)) ((V 5)) ((V 6)) (A1) (U1) (A2) (U2) ((J 0)) ((J 1)) ((J 2)) ((J 3)) ((J 4)) ((J 5)) ((J 6)) ((J 7)) ((J 8)) ((J 9)) ((J 10)) (pb) (pe) (ob) (oe) (b1) (e1) (b2) (e2))) s.heap H locs → lv_has ls 9 [(0, .ref (r 0)), (1, .ref (r 4)), (2, .int (iv (0))), (3, .long (jv ((lo : Int)))), (5, .long (jv ((hi : Int))))] → W p l e ({ frames := 4, cells := 0, slots := 0, locals := 99 } : Room) s m ([.ref (r 0), .ref (r 4)] : List Value).toArray below meth c H locs 0 0 (ef_R below (dC, dI) vwCl (rC cI r ((V 0)) ((V 1)) ((V 2)) ((V 3)) ((V 4)) ((V 5)) ((V 6)) (A1) (U1) (A2) (U2) ((J 0)) ((J 1)) ((J 2)) ((J 3)) ((J 4)) ((J 5)) ((J 6)) ((J 7)) ((J 8)) ((J 9)) ((J 10)) (pb) (pe) (ob) (oe) (b1) (e1) (b2) (e2)) (fun o w1 => ∃ z : Nat, isFl z A2 U2 e2 ∧ ∃ (V2 : Nat → Nat) (J2 : Nat → Nat → Nat) (pb2 pe2 ob2 oe2 : Int), o = some (.long (jv (z : Int))) ∧ w1 = rC cI r (V2 0) (V2 1) (V2 2) (V2 3) (V2 4) (V2 5) (V2 6) (A1) (U1) (A2) (U2) (J2 0) (J2 1) (J2 2) (J2 3) (J2 4) (J2 5) (J2 6) (J2 7) (J2 8) (J2 9) (J2 10) (pb2) (pe2) (ob2) (oe2) (b1) (e1) (b2) (e2) ∧ rJ V2 J2 ∧ bk (A1) (J2 7) ∧ bk (U1) (J2 8) ∧ bk (A2) (J2 9) ∧ bk (U2) (J2 10)) [.ref (r 0), .ref (r 4)] s) (F0 m 71 ls []) := by
            intro fuel
            induction fuel with
            | zero => intro lo hi Vq Jq pbq peq obq oeq hJq kA1q kU1q kA2q kU2q e5q e6q eobq eoeq g1 g2 g3 g4 g5; exfalso; omega
            | succ fuel ih =>
              intro lo hi Vq Jq pbq peq obq oeq hJq kA1q kU1q kA2q kU2q e5q e6q eobq eoeq g1 g2 g3 g4 g5 H locs ls hP hD hS hl
              refine lv_lload hx hb rd_M_down_71 (lv_at hl 4 rfl) ?_
              refine lv_lload_n hx hb rd_M_down_73 rfl (lv_at hl 3 rfl) ?_
              refine iw_lsub hx hb rd_M_down_74 ?_
              refine iw_topl (y := jv (((hi - lo : Nat) : Int))) (congrArg jv (by omega : ((((hi : Int)) - ((lo : Int))) : Int) = (((hi - lo : Nat) : Int)))) ?_
              refine lv_lconst (v := jv (1)) hx hb rd_M_down_75 (by decide) ?_
              refine iw_lcmp hx hb (⟨by omega, by omega⟩) (⟨by omega, by omega⟩) rd_M_down_76 ?_
              refine iw_if_le (tgt := 129) hx hb rd_M_down_77 (by decide) (ir_zc _ _) (fun c6 => ?_) (fun c6 => ?_)
              ·
                have c7 := (zc_le _ _).1 c6
                obtain rfl : hi = lo + 1 := by omega
                refine lv_lload_n hx hb rd_M_down_129 rfl (lv_at hl 3 rfl) ?_
                refine ef_callS (As := [.long (jv ((lo : Int)))]) (rest := []) ⟨hx, hb, hml, hown, hts⟩ (r_floatP l dC dI ht r lo (by omega)) (cwS 1 hts (ef_goodS rm_455 rm_456 rm_24 rm_457) rfl rfl rfl (by decide +kernel) ⟨Nat.le_of_ble_eq_true rfl, Nat.le_of_ble_eq_true rfl⟩) hK hNX hP hD hS rfl hl.1 rfl (Nat.le_of_ble_eq_true rfl) rd_M_down_130 ⟨Nat.zero_le _, Nat.zero_le _⟩ (fun o w1 H locs hq hP hD hS => ?_)
                obtain ⟨rfl, e9⟩ := hq
                rw [e9] at hP hD
                refine W.eq (g2 := F0 m 133 ls [.long (jv ((lo : Int)))]) rfl ?_
                exact ef_lret hx hb hr hlocks hP hD hS rd_M_down_133 (⟨lo, ⟨by omega, g3, fun q => g4 (by omega)⟩, fun i => [((Vq 0)), ((Vq 1)), ((Vq 2)), ((Vq 3)), ((Vq 4)), ((Vq 5)), ((Vq 6))].getD i 0, fun i => [((Jq 0)), ((Jq 1)), ((Jq 2)), ((Jq 3)), ((Jq 4)), ((Jq 5)), ((Jq 6)), ((Jq 7)), ((Jq 8)), ((Jq 9)), ((Jq 10))].getD i (fun _ => 0), _, _, _, _, rfl, rfl, rJ_of (hJq 0 (by decide)) (hJq 1 (by decide)) (hJq 2 (by decide)) (hJq 3 (by decide)) (hJq 4 (by decide)) (hJq 5 (by decide)) (hJq 6 (by decide)), kA1q, kU1q, kA2q, kU2q⟩)
              ·
                have c7 : ¬ ((hi - lo : Nat) : Int) ≤ 1 := fun q => absurd ((zc_le _ _).2 q) (by omega)
                refine lv_lload_n hx hb rd_M_down_80 rfl (lv_at hl 3 rfl) ?_
                refine lv_lload hx hb rd_M_down_81 (lv_at hl 4 rfl) ?_
                refine lv_lload_n hx hb rd_M_down_83 rfl (lv_at hl 3 rfl) ?_
                refine iw_lsub hx hb rd_M_down_84 ?_
                refine iw_topl (y := jv (((hi - lo : Nat) : Int))) (congrArg jv (by omega : ((((hi : Int)) - ((lo : Int))) : Int) = (((hi - lo : Nat) : Int)))) ?_
                refine lv_ldc2 (v := jv (2)) hx hb hown (hts _ (List.mem_cons_of_mem _ rm_467)) rd_M_down_85 ?_
                refine iw_ldiv2 (a := hi - lo) hx hb (by omega) rd_M_down_88 ?_
                obtain ⟨mi, hmi⟩ : ∃ mi, mi = lo + (hi - lo) / 2 := ⟨_, rfl⟩
                refine iw_ladd hx hb rd_M_down_89 ?_
                refine iw_topl (y := jv ((mi : Int))) (congrArg jv (by omega : ((((lo : Int)) + ((((hi - lo) / 2 : Nat) : Int))) : Int) = ((mi : Int)))) ?_
                refine lv_lstore (lv' := [(7, .long (jv ((mi : Int)))), (0, .ref (r 0)), (1, .ref (r 4)), (2, .int (iv (0))), (3, .long (jv ((lo : Int)))), (5, .long (jv ((hi : Int))))]) hx hb rd_M_down_90 hl (by decide) rfl (fun ls hl => ?_)
                refine lv_aload_n hx hb rd_M_down_92 rfl (lv_at hl 1 rfl) ?_
                refine va_get (D := (dC, dI)) (ci := 5) (v := .ref (r 1)) (C := rR5) (T := rT5) (N := 7) hx hb hts (fun w h => List.mem_cons_of_mem _ (rin5 w h)) hown hK hP 0 rfl rfl 2 (by decide) (hts _ (List.mem_cons_of_mem _ rm_312)) (fun _ h9 => h9) rfl rd_M_down_93 ?_
                refine lv_lload hx hb rd_M_down_96 (lv_at hl 0 rfl) ?_
                refine ef_callS (As := [.long (jv ((mi : Int)))]) (rest := [.ref (r 1)]) ⟨hx, hb, hml, hown, hts⟩ (r_floatP l dC dI ht r mi (by omega)) (cwS 1 hts (ef_goodS rm_455 rm_456 rm_24 rm_457) rfl rfl rfl (by decide +kernel) ⟨Nat.le_of_ble_eq_true rfl, Nat.le_of_ble_eq_true rfl⟩) hK hNX hP hD hS rfl hl.1 rfl (Nat.le_of_ble_eq_true rfl) rd_M_down_98 ⟨Nat.zero_le _, Nat.zero_le _⟩ (fun o w1 H locs hq hP hD hS => ?_)
                obtain ⟨rfl, e9⟩ := hq
                rw [e9] at hP hD
                refine W.eq (g2 := F0 m 101 ls [.long (jv ((mi : Int))), .ref (r 1)]) rfl ?_
                refine ef_callV (As := [.long (jv ((mi : Int)))]) (rest := []) ⟨hx, hb, hml, hown, hts⟩ (r_setFloat0 l dC dI ht r hJq kA1q kU1q kA2q kU2q mA1 mU1 mA2 mU2 (mi) (by omega)) (cwV 1 hts (ef_goodV rm_459 rm_460 rm_461 rm_26 rm_462) rfl rfl rfl (by decide +kernel) ⟨Nat.le_of_ble_eq_true rfl, Nat.le_of_ble_eq_true rfl⟩) hK hNX hP hD hS 1 rfl rfl rfl rfl hl.1 rfl (Nat.le_of_ble_eq_true rfl) rd_M_down_101 ⟨Nat.zero_le _, Nat.zero_le _⟩ (fun o w1 H locs hq hP hD hS => ?_)
                obtain ⟨Vv_2, Jv_2, pbv_2, pev_2, obv_2, oev_2, a5v_2, a6v_2, aobv_2, aoev_2, a3v_2, a4v_2, apbv_2, apev_2, rfl, rfl, hJv_2, kA1v_2, kU1v_2, kA2v_2, kU2v_2⟩ := hq
                have hP : va_P (dC, dI) vwCl (rC cI r ((Vv_2 0)) ((Vv_2 1)) ((Vv_2 2)) ((Vv_2 3)) ((Vv_2 4)) ((Vv_2 5)) ((Vv_2 6)) (A1) (U1) (A2) (U2) ((Jv_2 0)) ((Jv_2 1)) ((Jv_2 2)) ((Jv_2 3)) ((Jv_2 4)) ((Jv_2 5)) ((Jv_2 6)) ((Jv_2 7)) ((Jv_2 8)) ((Jv_2 9)) ((Jv_2 10)) (pbv_2) (pev_2) (obv_2) (oev_2) (b1) (e1) (b2) (e2)) H := hP
                have hD : va_D (ef_A (rC cI r ((V 0)) ((V 1)) ((V 2)) ((V 3)) ((V 4)) ((V 5)) ((V 6)) (A1) (U1) (A2) (U2) ((J 0)) ((J 1)) ((J 2)) ((J 3)) ((J 4)) ((J 5)) ((J 6)) ((J 7)) ((J 8)) ((J 9)) ((J 10)) (pb) (pe) (ob) (oe) (b1) (e1) (b2) (e2))) (rC cI r ((Vv_2 0)) ((Vv_2 1)) ((Vv_2 2)) ((Vv_2 3)) ((Vv_2 4)) ((Vv_2 5)) ((Vv_2 6)) (A1) (U1) (A2) (U2) ((Jv_2 0)) ((Jv_2 1)) ((Jv_2 2)) ((Jv_2 3)) ((Jv_2 4)) ((Jv_2 5)) ((Jv_2 6)) ((Jv_2 7)) ((Jv_2 8)) ((Jv_2 9)) ((Jv_2 10)) (pbv_2) (pev_2) (obv_2) (oev_2) (b1) (e1) (b2) (e2)) := hD
                have e5v_2 : Vv_2 5 = V 5 := a5v_2.trans e5q
                have e6v_2 : Vv_2 6 = V 6 := a6v_2.trans e6q
                have eobv_2 : obv_2 = ob := aobv_2.trans eobq
                have eoev_2 : oev_2 = oe := aoev_2.trans eoeq
                refine W.eq (g2 := F0 m 104 ls []) rfl ?_
                refine lv_aload_n hx hb rd_M_down_104 rfl (lv_at hl 1 rfl) ?_
                refine lv_aload_n hx hb rd_M_down_105 rfl (lv_at hl 1 rfl) ?_
                refine va_get (D := (dC, dI)) (ci := 5) (v := .ref (r 1)) (C := rR5) (T := rT5) (N := 7) hx hb hts (fun w h => List.mem_cons_of_mem _ (rin5 w h)) hown hK hP 0 rfl rfl 2 (by decide) (hts _ (List.mem_cons_of_mem _ rm_312)) (fun _ h9 => h9) rfl rd_M_down_106 ?_
                refine lv_aload_n hx hb rd_M_down_109 rfl (lv_at hl 2 rfl) ?_
                refine ef_callV (As := [.ref (r 1), .ref (r 4)]) (rest := []) ⟨hx, hb, hml, hown, hts⟩ (r_orderP1 l dC dI ht r hJv_2 kA1v_2 kU1v_2 kA2v_2 kU2v_2 mA1 mU1 mA2 mU2 (by rw [a4v_2]; decide) nU (by rw [a3v_2]; exact fp_bl _) (by rw [a4v_2]; exact bl_1) bA bU (by rw [apev_2]; exact (fe_r (by omega)).1) (by rw [apev_2]; exact (fe_r (by omega)).2) lee gee (Or.inl apbv_2) hbr) (cwV 2 hts (ef_goodV rm_410 rm_412 rm_15 rm_24 rm_413) rfl rfl rfl (by decide +kernel) ⟨Nat.le_of_ble_eq_true rfl, Nat.le_of_ble_eq_true rfl⟩) hK hNX hP hD hS 0 rfl rfl rfl rfl hl.1 rfl (Nat.le_of_ble_eq_true rfl) rd_M_down_110 ⟨Nat.zero_le _, Nat.zero_le _⟩ (fun o w1 H locs hq hP hD hS => ?_)
                obtain ⟨Vv_3, Jv_3, pbv_3, pev_3, obv_3, oev_3, a5v_3, a6v_3, aobv_3, aoev_3, rfl, rfl, hJv_3, kA1v_3, kU1v_3, kA2v_3, kU2v_3⟩ := hq
                have hP : va_P (dC, dI) vwCl (rC cI r ((Vv_3 0)) ((Vv_3 1)) ((Vv_3 2)) ((Vv_3 3)) ((Vv_3 4)) ((Vv_3 5)) ((Vv_3 6)) (A1) (U1) (A2) (U2) ((Jv_3 0)) ((Jv_3 1)) ((Jv_3 2)) ((Jv_3 3)) ((Jv_3 4)) ((Jv_3 5)) ((Jv_3 6)) ((Jv_3 7)) ((Jv_3 8)) ((Jv_3 9)) ((Jv_3 10)) (pbv_3) (pev_3) (obv_3) (oev_3) (b1) (e1) (b2) (e2)) H := hP
                have hD : va_D (ef_A (rC cI r ((V 0)) ((V 1)) ((V 2)) ((V 3)) ((V 4)) ((V 5)) ((V 6)) (A1) (U1) (A2) (U2) ((J 0)) ((J 1)) ((J 2)) ((J 3)) ((J 4)) ((J 5)) ((J 6)) ((J 7)) ((J 8)) ((J 9)) ((J 10)) (pb) (pe) (ob) (oe) (b1) (e1) (b2) (e2))) (rC cI r ((Vv_3 0)) ((Vv_3 1)) ((Vv_3 2)) ((Vv_3 3)) ((Vv_3 4)) ((Vv_3 5)) ((Vv_3 6)) (A1) (U1) (A2) (U2) ((Jv_3 0)) ((Jv_3 1)) ((Jv_3 2)) ((Jv_3 3)) ((Jv_3 4)) ((Jv_3 5)) ((Jv_3 6)) ((Jv_3 7)) ((Jv_3 8)) ((Jv_3 9)) ((Jv_3 10)) (pbv_3) (pev_3) (obv_3) (oev_3) (b1) (e1) (b2) (e2)) := hD
                have e5v_3 : Vv_3 5 = V 5 := a5v_3.trans e5v_2
                have e6v_3 : Vv_3 6 = V 6 := a6v_3.trans e6v_2
                have eobv_3 : obv_3 = ob := aobv_3.trans eobv_2
                have eoev_3 : oev_3 = oe := aoev_3.trans eoev_2
                refine W.eq (g2 := F0 m 113 ls [.int (iv (ccmp (Vv_2 3) (Vv_2 4) pbv_2 pev_2 (A2) (U2) (b2) (e2)))]) rfl ?_
                refine iw_topi (y := iv (ccmp (fp (mi)) 1 0 (fe (mi)) A2 U2 b2 e2)) (congrArg iv (by rw [a3v_2, a4v_2, apbv_2, apev_2] : ((ccmp (Vv_2 3) (Vv_2 4) pbv_2 pev_2 (A2) (U2) (b2) (e2)) : Int) = (ccmp (fp (mi)) 1 0 (fe (mi)) A2 U2 b2 e2))) ?_
                have hcm := ccmp_pos (m := mi) (e := e2) nU hpos
                refine iw_if_gt (tgt := 122) hx hb rd_M_down_113 (by decide) (ccmp_r _ _ _ _ _ _ _ _) (fun c8 => ?_) (fun c8 => ?_)
                ·
                  refine lv_lload hx hb rd_M_down_122 (lv_at hl 0 rfl) ?_
                  refine lv_lstore (lv' := [(5, .long (jv ((mi : Int)))), (7, .long (jv ((mi : Int)))), (0, .ref (r 0)), (1, .ref (r 4)), (2, .int (iv (0))), (3, .long (jv ((lo : Int))))]) hx hb rd_M_down_124 hl (by decide) rfl (fun ls hl => ?_)
                  refine lv_goto (tgt := 71) hx hb rd_M_down_126 (by decide) ?_
                  exact ih (lo) (mi) (Vv_3) (Jv_3) (pbv_3) (pev_3) (obv_3) (oev_3) (hJv_3) (kA1v_3) (kU1v_3) (kA2v_3) (kU2v_3) (e5v_3) (e6v_3) (eobv_3) (eoev_3) (by omega) (by omega) (g3) (fun _ q => absurd (hcm.2 q) (by omega)) (by omega) H locs ls hP hD hS (lv_sub hl [2, 3, 4, 5, 0] rfl)
                ·
                  refine lv_lload hx hb rd_M_down_116 (lv_at hl 0 rfl) ?_
                  refine lv_lstore_n (lv' := [(3, .long (jv ((mi : Int)))), (7, .long (jv ((mi : Int)))), (0, .ref (r 0)), (1, .ref (r 4)), (2, .int (iv (0))), (5, .long (jv ((hi : Int))))]) hx hb rd_M_down_118 rfl hl (by decide) rfl (fun ls hl => ?_)
                  refine lv_goto (tgt := 126) hx hb rd_M_down_119 (by decide) ?_
                  refine lv_goto (tgt := 71) hx hb rd_M_down_126 (by decide) ?_
                  exact ih (mi) (hi) (Vv_3) (Jv_3) (pbv_3) (pev_3) (obv_3) (oev_3) (hJv_3) (kA1v_3) (kU1v_3) (kA2v_3) (kU2v_3) (e5v_3) (e6v_3) (eobv_3) (eoev_3) (by omega) (by omega) (hcm.1 c8) (g4) (by omega) H locs ls hP hD hS (lv_sub hl [2, 3, 4, 0, 5] rfl)
          exact loop (9218868437227405313) (0) (9218868437227405312) (Vv_1) (Jv_1) (pbv_1) (pev_1) (obv_1) (oev_1) (hJv_1) (kA1v_1) (kU1v_1) (kA2v_1) (kU2v_1) (e5v_1) (e6v_1) (eobv_1) (eoev_1) (by decide) (by decide) (by unfold fle; rw [fv_0.2 rfl, Nat.zero_mul, Nat.zero_mul]; exact Nat.zero_le _) (fun q => absurd q (by decide)) (by decide) H locs ls hP hD hS (lv_sub hl [3, 4, 2, 1, 0] rfl)
        ·
          exact absurd rfl c4
      ·
        exact absurd rfl c3
    ·
      exact absurd rfl c2
  ·
    exact absurd c1 (by omega)

set_option maxRecDepth 100000 in
set_option maxHeartbeats 4000000 in
/-- down -/
theorem r_down1N (l : Launch) (dC : Nat → ClassId) (dI : Nat → Nat → Nat) {cI : ClassId} {tys : List (ClassId × FieldType)} (ht : tys[0]? = some (cI, .int)) (r : Nat → Nat) {V : Nat → Nat} {J : Nat → Nat → Nat} {A1 U1 A2 U2 : Nat} {pb pe ob oe b1 e1 b2 e2 : Int} (hJ : rJ V J) (kA1 : bk A1 (J 7)) (kU1 : bk U1 (J 8)) (kA2 : bk A2 (J 9)) (kU2 : bk U2 (J 10)) (mA1 : dn A1 ≤ 300) (mU1 : dn U1 ≤ 300) (mA2 : dn A2 ≤ 300) (mU2 : dn U2 ≤ 300) (nU : U2 ≠ 0) (bA : bl A2 ≤ 4800) (bU : bl U2 ≤ 4800) (lee : -12000 ≤ e2) (gee : e2 ≤ 12000) (hbr : b2 = 0 ∨ b2 = 1) (nA : A2 ≠ 0) (hb1 : b2 = 1) : ef_C l ry_M_down rw_M_down ({ frames := 4, cells := 0, slots := 0, locals := 99 } : Room) [.ref (r 0), .ref (r 4)] (dC, dI) vwCl tys (rC cI r ((V 0)) ((V 1)) ((V 2)) ((V 3)) ((V 4)) ((V 5)) ((V 6)) (A1) (U1) (A2) (U2) ((J 0)) ((J 1)) ((J 2)) ((J 3)) ((J 4)) ((J 5)) ((J 6)) ((J 7)) ((J 8)) ((J 9)) ((J 10)) (pb) (pe) (ob) (oe) (b1) (e1) (b2) (e2)) (fun o w1 => ∃ z : Nat, (rsz A2 U2 e2 1 z ∧ z ≠ 0) ∧ ∃ (V2 : Nat → Nat) (J2 : Nat → Nat → Nat) (pb2 pe2 ob2 oe2 : Int), o = some (.long (jv ((z : Int) - 9223372036854775808))) ∧ w1 = rC cI r (V2 0) (V2 1) (V2 2) (V2 3) (V2 4) (V2 5) (V2 6) (A1) (U1) (A2) (U2) (J2 0) (J2 1) (J2 2) (J2 3) (J2 4) (J2 5) (J2 6) (J2 7) (J2 8) (J2 9) (J2 10) (pb2) (pe2) (ob2) (oe2) (b1) (e1) (b2) (e2) ∧ rJ V2 J2 ∧ bk (A1) (J2 7) ∧ bk (U1) (J2 8) ∧ bk (A2) (J2 9) ∧ bk (U2) (J2 10)) := by
  refine ef_C.of (cc := rc_M_down) (maxL := 9) (ret := (some .long)) (by decide) rfl (Nat.le_of_ble_eq_true rfl) ?_
  intro p e s m below meth c ls hx hb hml hr hts hown hlocks hK hNX hP hD hS hl
  have hl : lv_has ls 9 [(0, .ref (r 0)), (1, .ref (r 4))] := hl
  have hown : s.vm.findClass rR5 = some m.cls := hown
  generalize hH : s.heap = H at hP ⊢
  have hS : va_S (ef_A (rC cI r ((V 0)) ((V 1)) ((V 2)) ((V 3)) ((V 4)) ((V 5)) ((V 6)) (A1) (U1) (A2) (U2) ((J 0)) ((J 1)) ((J 2)) ((J 3)) ((J 4)) ((J 5)) ((J 6)) ((J 7)) ((J 8)) ((J 9)) ((J 10)) (pb) (pe) (ob) (oe) (b1) (e1) (b2) (e2))) s.heap H [] := by rw [← hH]; exact hS
  generalize ([] : List Loc) = locs at hS ⊢
  have hsg : sgn A2 b2 = -1 := by unfold sgn; rw [if_neg nA, if_neg (by omega)]
  refine lv_aload_n hx hb rd_M_down_0 rfl (lv_at hl 1 rfl) ?_
  refine ef_callV (As := []) (rest := []) ⟨hx, hb, hml, hown, hts⟩ (r_sign1 l dC dI ht r hJ kA1 kU1 kA2 kU2 mA1 mU1 mA2 mU2 hbr) (cwV 0 hts (ef_goodV rm_414 rm_415 rm_416 rm_26 rm_417) rfl rfl rfl (by decide +kernel) ⟨Nat.le_of_ble_eq_true rfl, Nat.le_of_ble_eq_true rfl⟩) hK hNX hP hD hS 4 rfl rfl rfl rfl hl.1 rfl (Nat.le_of_ble_eq_true rfl) rd_M_down_1 ⟨Nat.zero_le _, Nat.zero_le _⟩ (fun o w1 H locs hq hP hD hS => ?_)
  obtain ⟨rfl, e9⟩ := hq
  rw [e9] at hP hD
  refine W.eq (g2 := F0 m 4 ls [.int (iv (sgn A2 b2))]) rfl ?_
  refine iw_if_ge (tgt := 11) hx hb rd_M_down_4 (by decide) (sgn_ir A2 b2) (fun c1 => ?_) (fun c1 => ?_)
  ·
    exact absurd c1 (by omega)
  ·
    refine lv_iconst (v := iv (1)) hx hb rd_M_down_7 (by decide) ?_
    refine lv_goto (tgt := 12) hx hb rd_M_down_8 (by decide) ?_
    refine lv_istore_n (lv' := [(2, .int (iv (1))), (0, .ref (r 0)), (1, .ref (r 4))]) hx hb rd_M_down_12 rfl hl (by decide) rfl (fun ls hl => ?_)
    refine lv_iload_n hx hb rd_M_down_13 rfl (lv_at hl 0 rfl) ?_
    refine iw_if_eq (tgt := 23) hx hb rd_M_down_14 (by decide) ⟨by omega, by omega⟩ (fun c2 => ?_) (fun c2 => ?_)
    ·
      exact absurd c2 (by decide)
    ·
      refine lv_ldc2 (v := jv (-9218868437227405311)) hx hb hown (by have h9 := (hts _ (List.mem_cons_of_mem _ rm_453)); rw [show (-9218868437227405311 : Int64) = jv (-9218868437227405311) by decide] at h9; exact h9) rd_M_down_17 ?_
      refine lv_goto (tgt := 24) hx hb rd_M_down_20 (by decide) ?_
      refine iw_topl (y := jv (-((9218868437227405311 : Nat) : Int))) (congrArg jv (by rfl : ((-9218868437227405311) : Int) = (-((9218868437227405311 : Nat) : Int)))) ?_
      refine lv_lstore_n (lv' := [(3, .long (jv (-((9218868437227405311 : Nat) : Int)))), (2, .int (iv (1))), (0, .ref (r 0)), (1, .ref (r 4))]) hx hb rd_M_down_24 rfl hl (by decide) rfl (fun ls hl => ?_)
      refine lv_iload_n hx hb rd_M_down_25 rfl (lv_at hl 1 rfl) ?_
      refine iw_if_eq (tgt := 33) hx hb rd_M_down_26 (by decide) ⟨by omega, by omega⟩ (fun c3 => ?_) (fun c3 => ?_)
      ·
        exact absurd c3 (by decide)
      ·
        refine lv_lconst (v := jv (0)) hx hb rd_M_down_29 (by decide) ?_
        refine lv_goto (tgt := 36) hx hb rd_M_down_30 (by decide) ?_
        refine iw_topl (y := jv (-((0 : Nat) : Int))) (congrArg jv (by rfl : ((0) : Int) = (-((0 : Nat) : Int)))) ?_
        refine lv_lstore (lv' := [(5, .long (jv (-((0 : Nat) : Int)))), (3, .long (jv (-((9218868437227405311 : Nat) : Int)))), (2, .int (iv (1))), (0, .ref (r 0)), (1, .ref (r 4))]) hx hb rd_M_down_36 hl (by decide) rfl (fun ls hl => ?_)
        refine lv_aload_n hx hb rd_M_down_38 rfl (lv_at hl 3 rfl) ?_
        refine va_get (D := (dC, dI)) (ci := 5) (v := .ref (r 1)) (C := rR5) (T := rT5) (N := 7) hx hb hts (fun w h => List.mem_cons_of_mem _ (rin5 w h)) hown hK hP 0 rfl rfl 2 (by decide) (hts _ (List.mem_cons_of_mem _ rm_312)) (fun _ h9 => h9) rfl rd_M_down_39 ?_
        refine lv_ldc2 (v := jv (-9218868437227405311)) hx hb hown (by have h9 := (hts _ (List.mem_cons_of_mem _ rm_453)); rw [show (-9218868437227405311 : Int64) = jv (-9218868437227405311) by decide] at h9; exact h9) rd_M_down_42 ?_
        refine iw_topl (y := jv (-((9218868437227405311 : Nat) : Int))) (congrArg jv (by rfl : ((-9218868437227405311) : Int) = (-((9218868437227405311 : Nat) : Int)))) ?_
        refine ef_callS (As := [.long (jv (-((9218868437227405311 : Nat) : Int)))]) (rest := [.ref (r 1)]) ⟨hx, hb, hml, hown, hts⟩ (r_floatN l dC dI ht r 9218868437227405311 (by decide) (by decide)) (cwS 1 hts (ef_goodS rm_455 rm_456 rm_24 rm_457) rfl rfl rfl (by decide +kernel) ⟨Nat.le_of_ble_eq_true rfl, Nat.le_of_ble_eq_true rfl⟩) hK hNX hP hD hS rfl hl.1 rfl (Nat.le_of_ble_eq_true rfl) rd_M_down_45 ⟨Nat.zero_le _, Nat.zero_le _⟩ (fun o w1 H locs hq hP hD hS => ?_)
        obtain ⟨rfl, e9⟩ := hq
        rw [e9] at hP hD
        refine W.eq (g2 := F0 m 48 ls [.long (jv (((9218868437227405311 : Nat) : Int) - 9223372036854775808)), .ref (r 1)]) rfl ?_
        refine ef_callV (As := [.long (jv (((9218868437227405311 : Nat) : Int) - 9223372036854775808))]) (rest := []) ⟨hx, hb, hml, hown, hts⟩ (r_setFloat1 l dC dI ht r hJ kA1 kU1 kA2 kU2 mA1 mU1 mA2 mU2 (9218868437227405311) (by decide)) (cwV 1 hts (ef_goodV rm_459 rm_460 rm_461 rm_26 rm_462) rfl rfl rfl (by decide +kernel) ⟨Nat.le_of_ble_eq_true rfl, Nat.le_of_ble_eq_true rfl⟩) hK hNX hP hD hS 1 rfl rfl rfl rfl hl.1 rfl (Nat.le_of_ble_eq_true rfl) rd_M_down_48 ⟨Nat.zero_le _, Nat.zero_le _⟩ (fun o w1 H locs hq hP hD hS => ?_)
        obtain ⟨Vv_1, Jv_1, pbv_1, pev_1, obv_1, oev_1, a5v_1, a6v_1, aobv_1, aoev_1, a3v_1, a4v_1, apbv_1, apev_1, rfl, rfl, hJv_1, kA1v_1, kU1v_1, kA2v_1, kU2v_1⟩ := hq
        have hP : va_P (dC, dI) vwCl (rC cI r ((Vv_1 0)) ((Vv_1 1)) ((Vv_1 2)) ((Vv_1 3)) ((Vv_1 4)) ((Vv_1 5)) ((Vv_1 6)) (A1) (U1) (A2) (U2) ((Jv_1 0)) ((Jv_1 1)) ((Jv_1 2)) ((Jv_1 3)) ((Jv_1 4)) ((Jv_1 5)) ((Jv_1 6)) ((Jv_1 7)) ((Jv_1 8)) ((Jv_1 9)) ((Jv_1 10)) (pbv_1) (pev_1) (obv_1) (oev_1) (b1) (e1) (b2) (e2)) H := hP
        have hD : va_D (ef_A (rC cI r ((V 0)) ((V 1)) ((V 2)) ((V 3)) ((V 4)) ((V 5)) ((V 6)) (A1) (U1) (A2) (U2) ((J 0)) ((J 1)) ((J 2)) ((J 3)) ((J 4)) ((J 5)) ((J 6)) ((J 7)) ((J 8)) ((J 9)) ((J 10)) (pb) (pe) (ob) (oe) (b1) (e1) (b2) (e2))) (rC cI r ((Vv_1 0)) ((Vv_1 1)) ((Vv_1 2)) ((Vv_1 3)) ((Vv_1 4)) ((Vv_1 5)) ((Vv_1 6)) (A1) (U1) (A2) (U2) ((Jv_1 0)) ((Jv_1 1)) ((Jv_1 2)) ((Jv_1 3)) ((Jv_1 4)) ((Jv_1 5)) ((Jv_1 6)) ((Jv_1 7)) ((Jv_1 8)) ((Jv_1 9)) ((Jv_1 10)) (pbv_1) (pev_1) (obv_1) (oev_1) (b1) (e1) (b2) (e2)) := hD
        have e5v_1 : Vv_1 5 = V 5 := a5v_1.trans rfl
        have e6v_1 : Vv_1 6 = V 6 := a6v_1.trans rfl
        have eobv_1 : obv_1 = ob := aobv_1.trans rfl
        have eoev_1 : oev_1 = oe := aoev_1.trans rfl
        refine W.eq (g2 := F0 m 51 ls []) rfl ?_
        refine lv_iload_n hx hb rd_M_down_51 rfl (lv_at hl 2 rfl) ?_
        refine iw_if_eq (tgt := 71) hx hb rd_M_down_52 (by decide) ⟨by omega, by omega⟩ (fun c4 => ?_) (fun c4 => ?_)
        ·
          exact absurd c4 (by decide)
        ·
          refine lv_aload_n hx hb rd_M_down_55 rfl (lv_at hl 3 rfl) ?_
          refine lv_aload_n hx hb rd_M_down_56 rfl (lv_at hl 3 rfl) ?_
          refine va_get (D := (dC, dI)) (ci := 5) (v := .ref (r 1)) (C := rR5) (T := rT5) (N := 7) hx hb hts (fun w h => List.mem_cons_of_mem _ (rin5 w h)) hown hK hP 0 rfl rfl 2 (by decide) (hts _ (List.mem_cons_of_mem _ rm_312)) (fun _ h9 => h9) rfl rd_M_down_57 ?_
          refine lv_aload_n hx hb rd_M_down_60 rfl (lv_at hl 4 rfl) ?_
          refine ef_callV (As := [.ref (r 1), .ref (r 4)]) (rest := []) ⟨hx, hb, hml, hown, hts⟩ (r_orderP1 l dC dI ht r hJv_1 kA1v_1 kU1v_1 kA2v_1 kU2v_1 mA1 mU1 mA2 mU2 (by rw [a4v_1]; decide) nU (by rw [a3v_1]; exact fp_bl _) (by rw [a4v_1]; exact bl_1) bA bU (by rw [apev_1]; exact (fe_r (by omega)).1) (by rw [apev_1]; exact (fe_r (by omega)).2) lee gee (Or.inr apbv_1) hbr) (cwV 2 hts (ef_goodV rm_410 rm_412 rm_15 rm_24 rm_413) rfl rfl rfl (by decide +kernel) ⟨Nat.le_of_ble_eq_true rfl, Nat.le_of_ble_eq_true rfl⟩) hK hNX hP hD hS 0 rfl rfl rfl rfl hl.1 rfl (Nat.le_of_ble_eq_true rfl) rd_M_down_61 ⟨Nat.zero_le _, Nat.zero_le _⟩ (fun o w1 H locs hq hP hD hS => ?_)
          obtain ⟨Vv_2, Jv_2, pbv_2, pev_2, obv_2, oev_2, a5v_2, a6v_2, aobv_2, aoev_2, rfl, rfl, hJv_2, kA1v_2, kU1v_2, kA2v_2, kU2v_2⟩ := hq
          have hP : va_P (dC, dI) vwCl (rC cI r ((Vv_2 0)) ((Vv_2 1)) ((Vv_2 2)) ((Vv_2 3)) ((Vv_2 4)) ((Vv_2 5)) ((Vv_2 6)) (A1) (U1) (A2) (U2) ((Jv_2 0)) ((Jv_2 1)) ((Jv_2 2)) ((Jv_2 3)) ((Jv_2 4)) ((Jv_2 5)) ((Jv_2 6)) ((Jv_2 7)) ((Jv_2 8)) ((Jv_2 9)) ((Jv_2 10)) (pbv_2) (pev_2) (obv_2) (oev_2) (b1) (e1) (b2) (e2)) H := hP
          have hD : va_D (ef_A (rC cI r ((V 0)) ((V 1)) ((V 2)) ((V 3)) ((V 4)) ((V 5)) ((V 6)) (A1) (U1) (A2) (U2) ((J 0)) ((J 1)) ((J 2)) ((J 3)) ((J 4)) ((J 5)) ((J 6)) ((J 7)) ((J 8)) ((J 9)) ((J 10)) (pb) (pe) (ob) (oe) (b1) (e1) (b2) (e2))) (rC cI r ((Vv_2 0)) ((Vv_2 1)) ((Vv_2 2)) ((Vv_2 3)) ((Vv_2 4)) ((Vv_2 5)) ((Vv_2 6)) (A1) (U1) (A2) (U2) ((Jv_2 0)) ((Jv_2 1)) ((Jv_2 2)) ((Jv_2 3)) ((Jv_2 4)) ((Jv_2 5)) ((Jv_2 6)) ((Jv_2 7)) ((Jv_2 8)) ((Jv_2 9)) ((Jv_2 10)) (pbv_2) (pev_2) (obv_2) (oev_2) (b1) (e1) (b2) (e2)) := hD
          have e5v_2 : Vv_2 5 = V 5 := a5v_2.trans e5v_1
          have e6v_2 : Vv_2 6 = V 6 := a6v_2.trans e6v_1
          have eobv_2 : obv_2 = ob := aobv_2.trans eobv_1
          have eoev_2 : oev_2 = oe := aoev_2.trans eoev_1
          refine W.eq (g2 := F0 m 64 ls [.int (iv (ccmp (Vv_1 3) (Vv_1 4) pbv_1 pev_1 (A2) (U2) (b2) (e2)))]) rfl ?_
          refine iw_topi (y := iv (ccmp (fp (9218868437227405311)) 1 1 (fe (9218868437227405311)) A2 U2 1 e2)) (congrArg iv (by rw [a3v_1, a4v_1, apbv_1, apev_1, hb1] : ((ccmp (Vv_1 3) (Vv_1 4) pbv_1 pev_1 (A2) (U2) (b2) (e2)) : Int) = (ccmp (fp (9218868437227405311)) 1 1 (fe (9218868437227405311)) A2 U2 1 e2))) ?_
          refine iw_if_le (tgt := 71) hx hb rd_M_down_64 (by decide) (ccmp_r _ _ _ _ _ _ _ _) (fun c5 => ?_) (fun c5 => ?_)
          ·
            have hG := (ccmp_neg (U := U2) (e := e2) nA (show (9218868437227405311 : Nat) ≠ 0 by decide)).1 c5
            have loop : ∀ (fuel : Nat) (lo : Nat) (hi : Nat) (Vq : Nat → Nat) (Jq : Nat → Nat → Nat) (pbq : Int) (peq : Int) (obq : Int) (oeq : Int), (rJ Vq Jq) → (bk A1 (Jq 7)) → (bk U1 (Jq 8)) → (bk A2 (Jq 9)) → (bk U2 (Jq 10)) → (Vq 5 = V 5) → (Vq 6 = V 6) → (obq = ob) → (oeq = oe) → (hi < lo) → (lo ≤ 9218868437227405311) → (A2 * pw e2 ≤ fv lo * U2 * pw (-1074)) → (¬ A2 * pw e2 ≤ fv hi * U2 * pw (-1074)) → (lo < hi + fuel) → ∀ (H : Heap) (locs : List Loc) (ls : Array Slot), va_P (dC, dI) vwCl (rC cI r ((Vq 0)) ((Vq 1)) ((Vq 2)) ((Vq 3)) ((Vq 4)) ((Vq 5)) ((Vq 6)) (A1) (U1) (A2) (U2) ((Jq 0)) ((Jq 1)) ((Jq 2)) ((Jq 3)) ((Jq 4)) ((Jq 5)) ((Jq 6)) ((Jq 7)) ((Jq 8)) ((Jq 9)) ((Jq 10)) (pbq) (peq) (obq) (oeq) (b1) (e1) (b2) (e2)) H → va_D (ef_A (rC cI r ((V 0)) ((V 1)) ((V 2)) ((V 3)) ((V 4)) ((V 5)) ((V 6)) (A1) (U1) (A2) (U2) ((J 0)) ((J 1)) ((J 2)) ((J 3)) ((J 4)) ((J 5)) ((J 6)) ((J 7)) ((J 8)) ((J 9)) ((J 10)) (pb) (pe) (ob) (oe) (b1) (e1) (b2) (e2))) (rC cI r ((Vq 0)) ((Vq 1)) ((Vq 2)) ((Vq 3)) ((Vq 4)) ((Vq 5)) ((Vq 6)) (A1) (U1) (A2) (U2) ((Jq 0)) ((Jq 1)) ((Jq 2)) ((Jq 3)) ((Jq 4)) ((Jq 5)) ((Jq 6)) ((Jq 7)) ((Jq 8)) ((Jq 9)) ((Jq 10)) (pbq) (peq) (obq) (oeq) (b1) (e1) (b2) (e2)) → va_S (ef_A (rC cI r ((V 0)) ((V 1)) ((V 2)) ((V 3)) ((V 4)) ((V 5)) ((V 6)) (A1) (U1) (A2) (U2) ((J 0)) ((J 1)) ((J 2)) ((J 3)) ((J 4)) ((J 5)) ((J 6)) ((J 7)) ((J 8)) ((J 9)) ((J 10)) (pb) (pe) (ob) (oe) (b1) (e1) (b2) (e2))) s.heap H locs → lv_has ls 9 [(0, .ref (r 0)), (1, .ref (r 4)), (2, .int (iv (1))), (3, .long (jv (-(lo : Int)))), (5, .long (jv (-(hi : Int))))] → W p l e ({ frames := 4, cells := 0, slots := 0, locals := 99 } : Room) s m ([.ref (r 0), .ref (r 4)] : List Value).toArray below meth c H locs 0 0 (ef_R below (dC, dI) vwCl (rC cI r ((V 0)) ((V 1)) ((V 2)) ((V 3)) ((V 4)) ((V 5)) ((V 6)) (A1) (U1) (A2) (U2) ((J 0)) ((J 1)) ((J 2)) ((J 3)) ((J 4)) ((J 5)) ((J 6)) ((J 7)) ((J 8)) ((J 9)) ((J 10)) (pb) (pe) (ob) (oe) (b1) (e1) (b2) (e2)) (fun o w1 => ∃ z : Nat, (rsz A2 U2 e2 1 z ∧ z ≠ 0) ∧ ∃ (V2 : Nat → Nat) (J2 : Nat → Nat → Nat) (pb2 pe2 ob2 oe2 : Int), o = some (.long (jv ((z : Int) - 9223372036854775808))) ∧ w1 = rC cI r (V2 0) (V2 1) (V2 2) (V2 3) (V2 4) (V2 5) (V2 6) (A1) (U1) (A2) (U2) (J2 0) (J2 1) (J2 2) (J2 3) (J2 4) (J2 5) (J2 6) (J2 7) (J2 8) (J2 9) (J2 10) (pb2) (pe2) (ob2) (oe2) (b1) (e1) (b2) (e2) ∧ rJ V2 J2 ∧ bk (A1) (J2 7) ∧ bk (U1) (J2 8) ∧ bk (A2) (J2 9) ∧ bk (U2) (J2 10)) [.ref (r 0), .ref (r 4)] s) (F0 m 71 ls []) := by
              intro fuel
              induction fuel with
              | zero => intro lo hi Vq Jq pbq peq obq oeq hJq kA1q kU1q kA2q kU2q e5q e6q eobq eoeq g1 g2 g3 g4 g5; exfalso; omega
              | succ fuel ih =>
                intro lo hi Vq Jq pbq peq obq oeq hJq kA1q kU1q kA2q kU2q e5q e6q eobq eoeq g1 g2 g3 g4 g5 H locs ls hP hD hS hl
                refine lv_lload hx hb rd_M_down_71 (lv_at hl 4 rfl) ?_
                refine lv_lload_n hx hb rd_M_down_73 rfl (lv_at hl 3 rfl) ?_
                refine iw_lsub hx hb rd_M_down_74 ?_
                refine iw_topl (y := jv (((lo - hi : Nat) : Int))) (congrArg jv (by omega : (((-(hi : Int)) - (-(lo : Int))) : Int) = (((lo - hi : Nat) : Int)))) ?_
                refine lv_lconst (v := jv (1)) hx hb rd_M_down_75 (by decide) ?_
                refine iw_lcmp hx hb (⟨by omega, by omega⟩) (⟨by omega, by omega⟩) rd_M_down_76 ?_
                refine iw_if_le (tgt := 129) hx hb rd_M_down_77 (by decide) (ir_zc _ _) (fun c6 => ?_) (fun c6 => ?_)
                ·
                  have c7 := (zc_le _ _).1 c6
                  obtain rfl : lo = hi + 1 := by omega
                  refine lv_lload_n hx hb rd_M_down_129 rfl (lv_at hl 3 rfl) ?_
                  refine ef_callS (As := [.long (jv (-((hi + 1 : Nat) : Int)))]) (rest := []) ⟨hx, hb, hml, hown, hts⟩ (r_floatN l dC dI ht r (hi + 1) (by omega) (by omega)) (cwS 1 hts (ef_goodS rm_455 rm_456 rm_24 rm_457) rfl rfl rfl (by decide +kernel) ⟨Nat.le_of_ble_eq_true rfl, Nat.le_of_ble_eq_true rfl⟩) hK hNX hP hD hS rfl hl.1 rfl (Nat.le_of_ble_eq_true rfl) rd_M_down_130 ⟨Nat.zero_le _, Nat.zero_le _⟩ (fun o w1 H locs hq hP hD hS => ?_)
                  obtain ⟨rfl, e9⟩ := hq
                  rw [e9] at hP hD
                  refine W.eq (g2 := F0 m 133 ls [.long (jv (((hi + 1 : Nat) : Int) - 9223372036854775808))]) rfl ?_
                  exact ef_lret hx hb hr hlocks hP hD hS rd_M_down_133 (⟨hi + 1, ⟨rsz_neg g2 g3 g4, by omega⟩, fun i => [((Vq 0)), ((Vq 1)), ((Vq 2)), ((Vq 3)), ((Vq 4)), ((Vq 5)), ((Vq 6))].getD i 0, fun i => [((Jq 0)), ((Jq 1)), ((Jq 2)), ((Jq 3)), ((Jq 4)), ((Jq 5)), ((Jq 6)), ((Jq 7)), ((Jq 8)), ((Jq 9)), ((Jq 10))].getD i (fun _ => 0), _, _, _, _, rfl, rfl, rJ_of (hJq 0 (by decide)) (hJq 1 (by decide)) (hJq 2 (by decide)) (hJq 3 (by decide)) (hJq 4 (by decide)) (hJq 5 (by decide)) (hJq 6 (by decide)), kA1q, kU1q, kA2q, kU2q⟩)
                ·
                  have c7 : ¬ ((lo - hi : Nat) : Int) ≤ 1 := fun q => absurd ((zc_le _ _).2 q) (by omega)
                  refine lv_lload_n hx hb rd_M_down_80 rfl (lv_at hl 3 rfl) ?_
                  refine lv_lload hx hb rd_M_down_81 (lv_at hl 4 rfl) ?_
                  refine lv_lload_n hx hb rd_M_down_83 rfl (lv_at hl 3 rfl) ?_
                  refine iw_lsub hx hb rd_M_down_84 ?_
                  refine iw_topl (y := jv (((lo - hi : Nat) : Int))) (congrArg jv (by omega : (((-(hi : Int)) - (-(lo : Int))) : Int) = (((lo - hi : Nat) : Int)))) ?_
                  refine lv_ldc2 (v := jv (2)) hx hb hown (hts _ (List.mem_cons_of_mem _ rm_467)) rd_M_down_85 ?_
                  refine iw_ldiv2 (a := lo - hi) hx hb (by omega) rd_M_down_88 ?_
                  obtain ⟨mi, hmi⟩ : ∃ mi, mi = lo - (lo - hi) / 2 := ⟨_, rfl⟩
                  refine iw_ladd hx hb rd_M_down_89 ?_
                  refine iw_topl (y := jv (-(mi : Int))) (congrArg jv (by omega : (((-(lo : Int)) + ((((lo - hi) / 2 : Nat) : Int))) : Int) = (-(mi : Int)))) ?_
                  refine lv_lstore (lv' := [(7, .long (jv (-(mi : Int)))), (0, .ref (r 0)), (1, .ref (r 4)), (2, .int (iv (1))), (3, .long (jv (-(lo : Int)))), (5, .long (jv (-(hi : Int))))]) hx hb rd_M_down_90 hl (by decide) rfl (fun ls hl => ?_)
                  refine lv_aload_n hx hb rd_M_down_92 rfl (lv_at hl 1 rfl) ?_
                  refine va_get (D := (dC, dI)) (ci := 5) (v := .ref (r 1)) (C := rR5) (T := rT5) (N := 7) hx hb hts (fun w h => List.mem_cons_of_mem _ (rin5 w h)) hown hK hP 0 rfl rfl 2 (by decide) (hts _ (List.mem_cons_of_mem _ rm_312)) (fun _ h9 => h9) rfl rd_M_down_93 ?_
                  refine lv_lload hx hb rd_M_down_96 (lv_at hl 0 rfl) ?_
                  refine ef_callS (As := [.long (jv (-(mi : Int)))]) (rest := [.ref (r 1)]) ⟨hx, hb, hml, hown, hts⟩ (r_floatN l dC dI ht r mi (by omega) (by omega)) (cwS 1 hts (ef_goodS rm_455 rm_456 rm_24 rm_457) rfl rfl rfl (by decide +kernel) ⟨Nat.le_of_ble_eq_true rfl, Nat.le_of_ble_eq_true rfl⟩) hK hNX hP hD hS rfl hl.1 rfl (Nat.le_of_ble_eq_true rfl) rd_M_down_98 ⟨Nat.zero_le _, Nat.zero_le _⟩ (fun o w1 H locs hq hP hD hS => ?_)
                  obtain ⟨rfl, e9⟩ := hq
                  rw [e9] at hP hD
                  refine W.eq (g2 := F0 m 101 ls [.long (jv ((mi : Int) - 9223372036854775808)), .ref (r 1)]) rfl ?_
                  refine ef_callV (As := [.long (jv ((mi : Int) - 9223372036854775808))]) (rest := []) ⟨hx, hb, hml, hown, hts⟩ (r_setFloat1 l dC dI ht r hJq kA1q kU1q kA2q kU2q mA1 mU1 mA2 mU2 (mi) (by omega)) (cwV 1 hts (ef_goodV rm_459 rm_460 rm_461 rm_26 rm_462) rfl rfl rfl (by decide +kernel) ⟨Nat.le_of_ble_eq_true rfl, Nat.le_of_ble_eq_true rfl⟩) hK hNX hP hD hS 1 rfl rfl rfl rfl hl.1 rfl (Nat.le_of_ble_eq_true rfl) rd_M_down_101 ⟨Nat.zero_le _, Nat.zero_le _⟩ (fun o w1 H locs hq hP hD hS => ?_)
                  obtain ⟨Vv_3, Jv_3, pbv_3, pev_3, obv_3, oev_3, a5v_3, a6v_3, aobv_3, aoev_3, a3v_3, a4v_3, apbv_3, apev_3, rfl, rfl, hJv_3, kA1v_3, kU1v_3, kA2v_3, kU2v_3⟩ := hq
                  have hP : va_P (dC, dI) vwCl (rC cI r ((Vv_3 0)) ((Vv_3 1)) ((Vv_3 2)) ((Vv_3 3)) ((Vv_3 4)) ((Vv_3 5)) ((Vv_3 6)) (A1) (U1) (A2) (U2) ((Jv_3 0)) ((Jv_3 1)) ((Jv_3 2)) ((Jv_3 3)) ((Jv_3 4)) ((Jv_3 5)) ((Jv_3 6)) ((Jv_3 7)) ((Jv_3 8)) ((Jv_3 9)) ((Jv_3 10)) (pbv_3) (pev_3) (obv_3) (oev_3) (b1) (e1) (b2) (e2)) H := hP
                  have hD : va_D (ef_A (rC cI r ((V 0)) ((V 1)) ((V 2)) ((V 3)) ((V 4)) ((V 5)) ((V 6)) (A1) (U1) (A2) (U2) ((J 0)) ((J 1)) ((J 2)) ((J 3)) ((J 4)) ((J 5)) ((J 6)) ((J 7)) ((J 8)) ((J 9)) ((J 10)) (pb) (pe) (ob) (oe) (b1) (e1) (b2) (e2))) (rC cI r ((Vv_3 0)) ((Vv_3 1)) ((Vv_3 2)) ((Vv_3 3)) ((Vv_3 4)) ((Vv_3 5)) ((Vv_3 6)) (A1) (U1) (A2) (U2) ((Jv_3 0)) ((Jv_3 1)) ((Jv_3 2)) ((Jv_3 3)) ((Jv_3 4)) ((Jv_3 5)) ((Jv_3 6)) ((Jv_3 7)) ((Jv_3 8)) ((Jv_3 9)) ((Jv_3 10)) (pbv_3) (pev_3) (obv_3) (oev_3) (b1) (e1) (b2) (e2)) := hD
                  have e5v_3 : Vv_3 5 = V 5 := a5v_3.trans e5q
                  have e6v_3 : Vv_3 6 = V 6 := a6v_3.trans e6q
                  have eobv_3 : obv_3 = ob := aobv_3.trans eobq
                  have eoev_3 : oev_3 = oe := aoev_3.trans eoeq
                  refine W.eq (g2 := F0 m 104 ls []) rfl ?_
                  refine lv_aload_n hx hb rd_M_down_104 rfl (lv_at hl 1 rfl) ?_
                  refine lv_aload_n hx hb rd_M_down_105 rfl (lv_at hl 1 rfl) ?_
                  refine va_get (D := (dC, dI)) (ci := 5) (v := .ref (r 1)) (C := rR5) (T := rT5) (N := 7) hx hb hts (fun w h => List.mem_cons_of_mem _ (rin5 w h)) hown hK hP 0 rfl rfl 2 (by decide) (hts _ (List.mem_cons_of_mem _ rm_312)) (fun _ h9 => h9) rfl rd_M_down_106 ?_
                  refine lv_aload_n hx hb rd_M_down_109 rfl (lv_at hl 2 rfl) ?_
                  refine ef_callV (As := [.ref (r 1), .ref (r 4)]) (rest := []) ⟨hx, hb, hml, hown, hts⟩ (r_orderP1 l dC dI ht r hJv_3 kA1v_3 kU1v_3 kA2v_3 kU2v_3 mA1 mU1 mA2 mU2 (by rw [a4v_3]; decide) nU (by rw [a3v_3]; exact fp_bl _) (by rw [a4v_3]; exact bl_1) bA bU (by rw [apev_3]; exact (fe_r (by omega)).1) (by rw [apev_3]; exact (fe_r (by omega)).2) lee gee (Or.inr apbv_3) hbr) (cwV 2 hts (ef_goodV rm_410 rm_412 rm_15 rm_24 rm_413) rfl rfl rfl (by decide +kernel) ⟨Nat.le_of_ble_eq_true rfl, Nat.le_of_ble_eq_true rfl⟩) hK hNX hP hD hS 0 rfl rfl rfl rfl hl.1 rfl (Nat.le_of_ble_eq_true rfl) rd_M_down_110 ⟨Nat.zero_le _, Nat.zero_le _⟩ (fun o w1 H locs hq hP hD hS => ?_)
                  obtain ⟨Vv_4, Jv_4, pbv_4, pev_4, obv_4, oev_4, a5v_4, a6v_4, aobv_4, aoev_4, rfl, rfl, hJv_4, kA1v_4, kU1v_4, kA2v_4, kU2v_4⟩ := hq
                  have hP : va_P (dC, dI) vwCl (rC cI r ((Vv_4 0)) ((Vv_4 1)) ((Vv_4 2)) ((Vv_4 3)) ((Vv_4 4)) ((Vv_4 5)) ((Vv_4 6)) (A1) (U1) (A2) (U2) ((Jv_4 0)) ((Jv_4 1)) ((Jv_4 2)) ((Jv_4 3)) ((Jv_4 4)) ((Jv_4 5)) ((Jv_4 6)) ((Jv_4 7)) ((Jv_4 8)) ((Jv_4 9)) ((Jv_4 10)) (pbv_4) (pev_4) (obv_4) (oev_4) (b1) (e1) (b2) (e2)) H := hP
                  have hD : va_D (ef_A (rC cI r ((V 0)) ((V 1)) ((V 2)) ((V 3)) ((V 4)) ((V 5)) ((V 6)) (A1) (U1) (A2) (U2) ((J 0)) ((J 1)) ((J 2)) ((J 3)) ((J 4)) ((J 5)) ((J 6)) ((J 7)) ((J 8)) ((J 9)) ((J 10)) (pb) (pe) (ob) (oe) (b1) (e1) (b2) (e2))) (rC cI r ((Vv_4 0)) ((Vv_4 1)) ((Vv_4 2)) ((Vv_4 3)) ((Vv_4 4)) ((Vv_4 5)) ((Vv_4 6)) (A1) (U1) (A2) (U2) ((Jv_4 0)) ((Jv_4 1)) ((Jv_4 2)) ((Jv_4 3)) ((Jv_4 4)) ((Jv_4 5)) ((Jv_4 6)) ((Jv_4 7)) ((Jv_4 8)) ((Jv_4 9)) ((Jv_4 10)) (pbv_4) (pev_4) (obv_4) (oev_4) (b1) (e1) (b2) (e2)) := hD
                  have e5v_4 : Vv_4 5 = V 5 := a5v_4.trans e5v_3
                  have e6v_4 : Vv_4 6 = V 6 := a6v_4.trans e6v_3
                  have eobv_4 : obv_4 = ob := aobv_4.trans eobv_3
                  have eoev_4 : oev_4 = oe := aoev_4.trans eoev_3
                  refine W.eq (g2 := F0 m 113 ls [.int (iv (ccmp (Vv_3 3) (Vv_3 4) pbv_3 pev_3 (A2) (U2) (b2) (e2)))]) rfl ?_
                  refine iw_topi (y := iv (ccmp (fp (mi)) 1 1 (fe (mi)) A2 U2 1 e2)) (congrArg iv (by rw [a3v_3, a4v_3, apbv_3, apev_3, hb1] : ((ccmp (Vv_3 3) (Vv_3 4) pbv_3 pev_3 (A2) (U2) (b2) (e2)) : Int) = (ccmp (fp (mi)) 1 1 (fe (mi)) A2 U2 1 e2))) ?_
                  have hcm := ccmp_neg (U := U2) (e := e2) (k := mi) nA (by omega)
                  refine iw_if_gt (tgt := 122) hx hb rd_M_down_113 (by decide) (ccmp_r _ _ _ _ _ _ _ _) (fun c8 => ?_) (fun c8 => ?_)
                  ·
                    refine lv_lload hx hb rd_M_down_122 (lv_at hl 0 rfl) ?_
                    refine lv_lstore (lv' := [(5, .long (jv (-(mi : Int)))), (7, .long (jv (-(mi : Int)))), (0, .ref (r 0)), (1, .ref (r 4)), (2, .int (iv (1))), (3, .long (jv (-(lo : Int))))]) hx hb rd_M_down_124 hl (by decide) rfl (fun ls hl => ?_)
                    refine lv_goto (tgt := 71) hx hb rd_M_down_126 (by decide) ?_
                    exact ih (lo) (mi) (Vv_4) (Jv_4) (pbv_4) (pev_4) (obv_4) (oev_4) (hJv_4) (kA1v_4) (kU1v_4) (kA2v_4) (kU2v_4) (e5v_4) (e6v_4) (eobv_4) (eoev_4) (by omega) (by omega) (g3) (fun q => absurd (hcm.2 q) (by omega)) (by omega) H locs ls hP hD hS (lv_sub hl [2, 3, 4, 5, 0] rfl)
                  ·
                    refine lv_lload hx hb rd_M_down_116 (lv_at hl 0 rfl) ?_
                    refine lv_lstore_n (lv' := [(3, .long (jv (-(mi : Int)))), (7, .long (jv (-(mi : Int)))), (0, .ref (r 0)), (1, .ref (r 4)), (2, .int (iv (1))), (5, .long (jv (-(hi : Int))))]) hx hb rd_M_down_118 rfl hl (by decide) rfl (fun ls hl => ?_)
                    refine lv_goto (tgt := 126) hx hb rd_M_down_119 (by decide) ?_
                    refine lv_goto (tgt := 71) hx hb rd_M_down_126 (by decide) ?_
                    exact ih (mi) (hi) (Vv_4) (Jv_4) (pbv_4) (pev_4) (obv_4) (oev_4) (hJv_4) (kA1v_4) (kU1v_4) (kA2v_4) (kU2v_4) (e5v_4) (e6v_4) (eobv_4) (eoev_4) (by omega) (by omega) (hcm.1 c8) (g4) (by omega) H locs ls hP hD hS (lv_sub hl [2, 3, 4, 0, 5] rfl)
            exact loop (9218868437227405312) (9218868437227405311) (0) (Vv_2) (Jv_2) (pbv_2) (pev_2) (obv_2) (oev_2) (hJv_2) (kA1v_2) (kU1v_2) (kA2v_2) (kU2v_2) (e5v_2) (e6v_2) (eobv_2) (eoev_2) (by decide) (by decide) (hG) (by rw [fv_0.2 rfl, Nat.zero_mul, Nat.zero_mul]; have := Nat.mul_pos (show 0 < A2 by omega) (pw_pos e2); omega) (by decide) H locs ls hP hD hS (lv_sub hl [3, 4, 2, 1, 0] rfl)
          ·
            have hG : ¬ _ := fun q => absurd ((ccmp_neg (U := U2) (e := e2) nA (show (9218868437227405311 : Nat) ≠ 0 by decide)).2 q) (by omega)
            refine lv_ldc2 (v := jv (-4503599627370496)) hx hb hown (by have h9 := (hts _ (List.mem_cons_of_mem _ rm_466)); rw [show (-4503599627370496 : Int64) = jv (-4503599627370496) by decide] at h9; exact h9) rd_M_down_67 ?_
            refine iw_topl (y := jv (((9218868437227405312 : Nat) : Int) - 9223372036854775808)) (congrArg jv (by rfl : ((-4503599627370496) : Int) = (((9218868437227405312 : Nat) : Int) - 9223372036854775808))) ?_
            exact ef_lret hx hb hr hlocks hP hD hS rd_M_down_70 (⟨9218868437227405312, ⟨rsz_big hG, by decide⟩, fun i => [((Vv_2 0)), ((Vv_2 1)), ((Vv_2 2)), ((Vv_2 3)), ((Vv_2 4)), ((Vv_2 5)), ((Vv_2 6))].getD i 0, fun i => [((Jv_2 0)), ((Jv_2 1)), ((Jv_2 2)), ((Jv_2 3)), ((Jv_2 4)), ((Jv_2 5)), ((Jv_2 6)), ((Jv_2 7)), ((Jv_2 8)), ((Jv_2 9)), ((Jv_2 10))].getD i (fun _ => 0), _, _, _, _, rfl, rfl, rJ_of (hJv_2 0 (by decide)) (hJv_2 1 (by decide)) (hJv_2 2 (by decide)) (hJv_2 3 (by decide)) (hJv_2 4 (by decide)) (hJv_2 5 (by decide)) (hJv_2 6 (by decide)), kA1v_2, kU1v_2, kA2v_2, kU2v_2⟩)

set_option maxRecDepth 100000 in
set_option maxHeartbeats 4000000 in
/-- down -/
theorem r_downOP (l : Launch) (dC : Nat → ClassId) (dI : Nat → Nat → Nat) {cI : ClassId} {tys : List (ClassId × FieldType)} (ht : tys[0]? = some (cI, .int)) (r : Nat → Nat) {V : Nat → Nat} {J : Nat → Nat → Nat} {A1 U1 A2 U2 : Nat} {pb pe ob oe b1 e1 b2 e2 : Int} (hJ : rJ V J) (kA1 : bk A1 (J 7)) (kU1 : bk U1 (J 8)) (kA2 : bk A2 (J 9)) (kU2 : bk U2 (J 10)) (mA1 : dn A1 ≤ 300) (mU1 : dn U1 ≤ 300) (mA2 : dn A2 ≤ 300) (mU2 : dn U2 ≤ 300) (nU : (V 6) ≠ 0) (bA : bl (V 5) ≤ 4800) (bU : bl (V 6) ≤ 4800) (lee : -12000 ≤ oe) (gee : oe ≤ 12000) (hbr : ob = 0 ∨ ob = 1) (hpos : (V 5) = 0 ∨ ob = 0) : ef_C l ry_M_down rw_M_down ({ frames := 4, cells := 0, slots := 0, locals := 99 } : Room) [.ref (r 0), .ref (r 2)] (dC, dI) vwCl tys (rC cI r ((V 0)) ((V 1)) ((V 2)) ((V 3)) ((V 4)) ((V 5)) ((V 6)) (A1) (U1) (A2) (U2) ((J 0)) ((J 1)) ((J 2)) ((J 3)) ((J 4)) ((J 5)) ((J 6)) ((J 7)) ((J 8)) ((J 9)) ((J 10)) (pb) (pe) (ob) (oe) (b1) (e1) (b2) (e2)) (fun o w1 => ∃ z : Nat, isFl z (V 5) (V 6) oe ∧ ∃ (V2 : Nat → Nat) (J2 : Nat → Nat → Nat) (pb2 pe2 ob2 oe2 : Int), o = some (.long (jv (z : Int))) ∧ w1 = rC cI r (V2 0) (V2 1) (V2 2) (V2 3) (V2 4) (V2 5) (V2 6) (A1) (U1) (A2) (U2) (J2 0) (J2 1) (J2 2) (J2 3) (J2 4) (J2 5) (J2 6) (J2 7) (J2 8) (J2 9) (J2 10) (pb2) (pe2) (ob2) (oe2) (b1) (e1) (b2) (e2) ∧ rJ V2 J2 ∧ bk (A1) (J2 7) ∧ bk (U1) (J2 8) ∧ bk (A2) (J2 9) ∧ bk (U2) (J2 10)) := by
  refine ef_C.of (cc := rc_M_down) (maxL := 9) (ret := (some .long)) (by decide) rfl (Nat.le_of_ble_eq_true rfl) ?_
  intro p e s m below meth c ls hx hb hml hr hts hown hlocks hK hNX hP hD hS hl
  have hl : lv_has ls 9 [(0, .ref (r 0)), (1, .ref (r 2))] := hl
  have hown : s.vm.findClass rR5 = some m.cls := hown
  generalize hH : s.heap = H at hP ⊢
  have hS : va_S (ef_A (rC cI r ((V 0)) ((V 1)) ((V 2)) ((V 3)) ((V 4)) ((V 5)) ((V 6)) (A1) (U1) (A2) (U2) ((J 0)) ((J 1)) ((J 2)) ((J 3)) ((J 4)) ((J 5)) ((J 6)) ((J 7)) ((J 8)) ((J 9)) ((J 10)) (pb) (pe) (ob) (oe) (b1) (e1) (b2) (e2))) s.heap H [] := by rw [← hH]; exact hS
  generalize ([] : List Loc) = locs at hS ⊢
  have hsg : sgn (V 5) ob ≥ 0 := by
    unfold sgn
    rcases hpos with h | h
    · rw [if_pos h]; omega
    · (repeat split) <;> omega
  refine lv_aload_n hx hb rd_M_down_0 rfl (lv_at hl 1 rfl) ?_
  refine ef_callV (As := []) (rest := []) ⟨hx, hb, hml, hown, hts⟩ (r_signO l dC dI ht r hJ kA1 kU1 kA2 kU2 mA1 mU1 mA2 mU2 hbr) (cwV 0 hts (ef_goodV rm_414 rm_415 rm_416 rm_26 rm_417) rfl rfl rfl (by decide +kernel) ⟨Nat.le_of_ble_eq_true rfl, Nat.le_of_ble_eq_true rfl⟩) hK hNX hP hD hS 2 rfl rfl rfl rfl hl.1 rfl (Nat.le_of_ble_eq_true rfl) rd_M_down_1 ⟨Nat.zero_le _, Nat.zero_le _⟩ (fun o w1 H locs hq hP hD hS => ?_)
  obtain ⟨rfl, e9⟩ := hq
  rw [e9] at hP hD
  refine W.eq (g2 := F0 m 4 ls [.int (iv (sgn (V 5) ob))]) rfl ?_
  refine iw_if_ge (tgt := 11) hx hb rd_M_down_4 (by decide) (sgn_ir (V 5) ob) (fun c1 => ?_) (fun c1 => ?_)
  ·
    refine lv_iconst (v := iv (0)) hx hb rd_M_down_11 (by decide) ?_
    refine lv_istore_n (lv' := [(2, .int (iv (0))), (0, .ref (r 0)), (1, .ref (r 2))]) hx hb rd_M_down_12 rfl hl (by decide) rfl (fun ls hl => ?_)
    refine lv_iload_n hx hb rd_M_down_13 rfl (lv_at hl 0 rfl) ?_
    refine iw_if_eq (tgt := 23) hx hb rd_M_down_14 (by decide) ⟨by omega, by omega⟩ (fun c2 => ?_) (fun c2 => ?_)
    ·
      refine lv_lconst (v := jv (0)) hx hb rd_M_down_23 (by decide) ?_
      refine iw_topl (y := jv (((0 : Nat) : Int))) (congrArg jv (by rfl : ((0) : Int) = (((0 : Nat) : Int)))) ?_
      refine lv_lstore_n (lv' := [(3, .long (jv (((0 : Nat) : Int)))), (2, .int (iv (0))), (0, .ref (r 0)), (1, .ref (r 2))]) hx hb rd_M_down_24 rfl hl (by decide) rfl (fun ls hl => ?_)
      refine lv_iload_n hx hb rd_M_down_25 rfl (lv_at hl 1 rfl) ?_
      refine iw_if_eq (tgt := 33) hx hb rd_M_down_26 (by decide) ⟨by omega, by omega⟩ (fun c3 => ?_) (fun c3 => ?_)
      ·
        refine lv_ldc2 (v := jv (9218868437227405312)) hx hb hown (hts _ (List.mem_cons_of_mem _ rm_454)) rd_M_down_33 ?_
        refine iw_topl (y := jv (((9218868437227405312 : Nat) : Int))) (congrArg jv (by rfl : ((9218868437227405312) : Int) = (((9218868437227405312 : Nat) : Int)))) ?_
        refine lv_lstore (lv' := [(5, .long (jv (((9218868437227405312 : Nat) : Int)))), (3, .long (jv (((0 : Nat) : Int)))), (2, .int (iv (0))), (0, .ref (r 0)), (1, .ref (r 2))]) hx hb rd_M_down_36 hl (by decide) rfl (fun ls hl => ?_)
        refine lv_aload_n hx hb rd_M_down_38 rfl (lv_at hl 3 rfl) ?_
        refine va_get (D := (dC, dI)) (ci := 5) (v := .ref (r 1)) (C := rR5) (T := rT5) (N := 7) hx hb hts (fun w h => List.mem_cons_of_mem _ (rin5 w h)) hown hK hP 0 rfl rfl 2 (by decide) (hts _ (List.mem_cons_of_mem _ rm_312)) (fun _ h9 => h9) rfl rd_M_down_39 ?_
        refine lv_ldc2 (v := jv (-9218868437227405311)) hx hb hown (by have h9 := (hts _ (List.mem_cons_of_mem _ rm_453)); rw [show (-9218868437227405311 : Int64) = jv (-9218868437227405311) by decide] at h9; exact h9) rd_M_down_42 ?_
        refine iw_topl (y := jv (-((9218868437227405311 : Nat) : Int))) (congrArg jv (by rfl : ((-9218868437227405311) : Int) = (-((9218868437227405311 : Nat) : Int)))) ?_
        refine ef_callS (As := [.long (jv (-((9218868437227405311 : Nat) : Int)))]) (rest := [.ref (r 1)]) ⟨hx, hb, hml, hown, hts⟩ (r_floatN l dC dI ht r 9218868437227405311 (by decide) (by decide)) (cwS 1 hts (ef_goodS rm_455 rm_456 rm_24 rm_457) rfl rfl rfl (by decide +kernel) ⟨Nat.le_of_ble_eq_true rfl, Nat.le_of_ble_eq_true rfl⟩) hK hNX hP hD hS rfl hl.1 rfl (Nat.le_of_ble_eq_true rfl) rd_M_down_45 ⟨Nat.zero_le _, Nat.zero_le _⟩ (fun o w1 H locs hq hP hD hS => ?_)
        obtain ⟨rfl, e9⟩ := hq
        rw [e9] at hP hD
        refine W.eq (g2 := F0 m 48 ls [.long (jv (((9218868437227405311 : Nat) : Int) - 9223372036854775808)), .ref (r 1)]) rfl ?_
        refine ef_callV (As := [.long (jv (((9218868437227405311 : Nat) : Int) - 9223372036854775808))]) (rest := []) ⟨hx, hb, hml, hown, hts⟩ (r_setFloat1 l dC dI ht r hJ kA1 kU1 kA2 kU2 mA1 mU1 mA2 mU2 (9218868437227405311) (by decide)) (cwV 1 hts (ef_goodV rm_459 rm_460 rm_461 rm_26 rm_462) rfl rfl rfl (by decide +kernel) ⟨Nat.le_of_ble_eq_true rfl, Nat.le_of_ble_eq_true rfl⟩) hK hNX hP hD hS 1 rfl rfl rfl rfl hl.1 rfl (Nat.le_of_ble_eq_true rfl) rd_M_down_48 ⟨Nat.zero_le _, Nat.zero_le _⟩ (fun o w1 H locs hq hP hD hS => ?_)
        obtain ⟨Vv_1, Jv_1, pbv_1, pev_1, obv_1, oev_1, a5v_1, a6v_1, aobv_1, aoev_1, a3v_1, a4v_1, apbv_1, apev_1, rfl, rfl, hJv_1, kA1v_1, kU1v_1, kA2v_1, kU2v_1⟩ := hq
        have hP : va_P (dC, dI) vwCl (rC cI r ((Vv_1 0)) ((Vv_1 1)) ((Vv_1 2)) ((Vv_1 3)) ((Vv_1 4)) ((Vv_1 5)) ((Vv_1 6)) (A1) (U1) (A2) (U2) ((Jv_1 0)) ((Jv_1 1)) ((Jv_1 2)) ((Jv_1 3)) ((Jv_1 4)) ((Jv_1 5)) ((Jv_1 6)) ((Jv_1 7)) ((Jv_1 8)) ((Jv_1 9)) ((Jv_1 10)) (pbv_1) (pev_1) (obv_1) (oev_1) (b1) (e1) (b2) (e2)) H := hP
        have hD : va_D (ef_A (rC cI r ((V 0)) ((V 1)) ((V 2)) ((V 3)) ((V 4)) ((V 5)) ((V 6)) (A1) (U1) (A2) (U2) ((J 0)) ((J 1)) ((J 2)) ((J 3)) ((J 4)) ((J 5)) ((J 6)) ((J 7)) ((J 8)) ((J 9)) ((J 10)) (pb) (pe) (ob) (oe) (b1) (e1) (b2) (e2))) (rC cI r ((Vv_1 0)) ((Vv_1 1)) ((Vv_1 2)) ((Vv_1 3)) ((Vv_1 4)) ((Vv_1 5)) ((Vv_1 6)) (A1) (U1) (A2) (U2) ((Jv_1 0)) ((Jv_1 1)) ((Jv_1 2)) ((Jv_1 3)) ((Jv_1 4)) ((Jv_1 5)) ((Jv_1 6)) ((Jv_1 7)) ((Jv_1 8)) ((Jv_1 9)) ((Jv_1 10)) (pbv_1) (pev_1) (obv_1) (oev_1) (b1) (e1) (b2) (e2)) := hD
        have e5v_1 : Vv_1 5 = V 5 := a5v_1.trans rfl
        have e6v_1 : Vv_1 6 = V 6 := a6v_1.trans rfl
        have eobv_1 : obv_1 = ob := aobv_1.trans rfl
        have eoev_1 : oev_1 = oe := aoev_1.trans rfl
        refine W.eq (g2 := F0 m 51 ls []) rfl ?_
        refine lv_iload_n hx hb rd_M_down_51 rfl (lv_at hl 2 rfl) ?_
        refine iw_if_eq (tgt := 71) hx hb rd_M_down_52 (by decide) ⟨by omega, by omega⟩ (fun c4 => ?_) (fun c4 => ?_)
        ·
          have loop : ∀ (fuel : Nat) (lo : Nat) (hi : Nat) (Vq : Nat → Nat) (Jq : Nat → Nat → Nat) (pbq : Int) (peq : Int) (obq : Int) (oeq : Int), (rJ Vq Jq) → (bk A1 (Jq 7)) → (bk U1 (Jq 8)) → (bk A2 (Jq 9)) → (bk U2 (Jq 10)) → (Vq 5 = V 5) → (Vq 6 = V 6) → (obq = ob) → (oeq = oe) → (lo < hi) → (hi ≤ 9218868437227405312) → (fle lo (V 5) (V 6) oe) → (hi ≤ 9218868437227405311 → ¬ fle hi (V 5) (V 6) oe) → (hi < lo + fuel) → ∀ (H : Heap) (locs : List Loc) (ls : Array Slot), va_P (dC, dI) vwCl (rC cI r ((Vq 0)) ((Vq 1)) ((Vq 2)) ((Vq 3)) ((Vq 4)) ((Vq 5)) ((Vq 6)) (A1) (U1) (A2) (U2) ((Jq 0)) ((Jq 1)) ((Jq 2)) ((Jq 3)) ((Jq 4)) ((Jq 5)) ((Jq 6)) ((Jq 7)) ((Jq 8)) ((Jq 9)) ((Jq 10)) (pbq) (peq) (obq) (oeq) (b1) (e1) (b2) (e2)) H → va_D (ef_A (rC cI r ((V 0)) ((V 1)) ((V 2)) ((V 3)) ((V 4)) ((V 5)) ((V 6)) (A1) (U1) (A2) (U2) ((J 0)) ((J 1)) ((J 2)) ((J 3)) ((J 4)) ((J 5)) ((J 6)) ((J 7)) ((J 8)) ((J 9)) ((J 10)) (pb) (pe) (ob) (oe) (b1) (e1) (b2) (e2))) (rC cI r ((Vq 0)) ((Vq 1)) ((Vq 2)) ((Vq 3)) ((Vq 4)) ((Vq 5)) ((Vq 6)) (A1) (U1) (A2) (U2) ((Jq 0)) ((Jq 1)) ((Jq 2)) ((Jq 3)) ((Jq 4)) ((Jq 5)) ((Jq 6)) ((Jq 7)) ((Jq 8)) ((Jq 9)) ((Jq 10)) (pbq) (peq) (obq) (oeq) (b1) (e1) (b2) (e2)) → va_S (ef_A (rC cI r ((V 0)) ((V 1)) ((V 2)) ((V 3)) ((V 4)) ((V 5)) ((V 6)) (A1) (U1) (A2) (U2) ((J 0)) ((J 1)) ((J 2)) ((J 3)) ((J 4)) ((J 5)) ((J 6)) ((J 7)) ((J 8)) ((J 9)) ((J 10)) (pb) (pe) (ob) (oe) (b1) (e1) (b2) (e2))) s.heap H locs → lv_has ls 9 [(0, .ref (r 0)), (1, .ref (r 2)), (2, .int (iv (0))), (3, .long (jv ((lo : Int)))), (5, .long (jv ((hi : Int))))] → W p l e ({ frames := 4, cells := 0, slots := 0, locals := 99 } : Room) s m ([.ref (r 0), .ref (r 2)] : List Value).toArray below meth c H locs 0 0 (ef_R below (dC, dI) vwCl (rC cI r ((V 0)) ((V 1)) ((V 2)) ((V 3)) ((V 4)) ((V 5)) ((V 6)) (A1) (U1) (A2) (U2) ((J 0)) ((J 1)) ((J 2)) ((J 3)) ((J 4)) ((J 5)) ((J 6)) ((J 7)) ((J 8)) ((J 9)) ((J 10)) (pb) (pe) (ob) (oe) (b1) (e1) (b2) (e2)) (fun o w1 => ∃ z : Nat, isFl z (V 5) (V 6) oe ∧ ∃ (V2 : Nat → Nat) (J2 : Nat → Nat → Nat) (pb2 pe2 ob2 oe2 : Int), o = some (.long (jv (z : Int))) ∧ w1 = rC cI r (V2 0) (V2 1) (V2 2) (V2 3) (V2 4) (V2 5) (V2 6) (A1) (U1) (A2) (U2) (J2 0) (J2 1) (J2 2) (J2 3) (J2 4) (J2 5) (J2 6) (J2 7) (J2 8) (J2 9) (J2 10) (pb2) (pe2) (ob2) (oe2) (b1) (e1) (b2) (e2) ∧ rJ V2 J2 ∧ bk (A1) (J2 7) ∧ bk (U1) (J2 8) ∧ bk (A2) (J2 9) ∧ bk (U2) (J2 10)) [.ref (r 0), .ref (r 2)] s) (F0 m 71 ls []) := by
            intro fuel
            induction fuel with
            | zero => intro lo hi Vq Jq pbq peq obq oeq hJq kA1q kU1q kA2q kU2q e5q e6q eobq eoeq g1 g2 g3 g4 g5; exfalso; omega
            | succ fuel ih =>
              intro lo hi Vq Jq pbq peq obq oeq hJq kA1q kU1q kA2q kU2q e5q e6q eobq eoeq g1 g2 g3 g4 g5 H locs ls hP hD hS hl
              refine lv_lload hx hb rd_M_down_71 (lv_at hl 4 rfl) ?_
              refine lv_lload_n hx hb rd_M_down_73 rfl (lv_at hl 3 rfl) ?_
              refine iw_lsub hx hb rd_M_down_74 ?_
              refine iw_topl (y := jv (((hi - lo : Nat) : Int))) (congrArg jv (by omega : ((((hi : Int)) - ((lo : Int))) : Int) = (((hi - lo : Nat) : Int)))) ?_
              refine lv_lconst (v := jv (1)) hx hb rd_M_down_75 (by decide) ?_
              refine iw_lcmp hx hb (⟨by omega, by omega⟩) (⟨by omega, by omega⟩) rd_M_down_76 ?_
              refine iw_if_le (tgt := 129) hx hb rd_M_down_77 (by decide) (ir_zc _ _) (fun c6 => ?_) (fun c6 => ?_)
              ·
                have c7 := (zc_le _ _).1 c6
                obtain rfl : hi = lo + 1 := by omega
                refine lv_lload_n hx hb rd_M_down_129 rfl (lv_at hl 3 rfl) ?_
                refine ef_callS (As := [.long (jv ((lo : Int)))]) (rest := []) ⟨hx, hb, hml, hown, hts⟩ (r_floatP l dC dI ht r lo (by omega)) (cwS 1 hts (ef_goodS rm_455 rm_456 rm_24 rm_457) rfl rfl rfl (by decide +kernel) ⟨Nat.le_of_ble_eq_true rfl, Nat.le_of_ble_eq_true rfl⟩) hK hNX hP hD hS rfl hl.1 rfl (Nat.le_of_ble_eq_true rfl) rd_M_down_130 ⟨Nat.zero_le _, Nat.zero_le _⟩ (fun o w1 H locs hq hP hD hS => ?_)
                obtain ⟨rfl, e9⟩ := hq
                rw [e9] at hP hD
                refine W.eq (g2 := F0 m 133 ls [.long (jv ((lo : Int)))]) rfl ?_
                exact ef_lret hx hb hr hlocks hP hD hS rd_M_down_133 (⟨lo, ⟨by omega, g3, fun q => g4 (by omega)⟩, fun i => [((Vq 0)), ((Vq 1)), ((Vq 2)), ((Vq 3)), ((Vq 4)), ((Vq 5)), ((Vq 6))].getD i 0, fun i => [((Jq 0)), ((Jq 1)), ((Jq 2)), ((Jq 3)), ((Jq 4)), ((Jq 5)), ((Jq 6)), ((Jq 7)), ((Jq 8)), ((Jq 9)), ((Jq 10))].getD i (fun _ => 0), _, _, _, _, rfl, rfl, rJ_of (hJq 0 (by decide)) (hJq 1 (by decide)) (hJq 2 (by decide)) (hJq 3 (by decide)) (hJq 4 (by decide)) (hJq 5 (by decide)) (hJq 6 (by decide)), kA1q, kU1q, kA2q, kU2q⟩)
              ·
                have c7 : ¬ ((hi - lo : Nat) : Int) ≤ 1 := fun q => absurd ((zc_le _ _).2 q) (by omega)
                refine lv_lload_n hx hb rd_M_down_80 rfl (lv_at hl 3 rfl) ?_
                refine lv_lload hx hb rd_M_down_81 (lv_at hl 4 rfl) ?_
                refine lv_lload_n hx hb rd_M_down_83 rfl (lv_at hl 3 rfl) ?_
                refine iw_lsub hx hb rd_M_down_84 ?_
                refine iw_topl (y := jv (((hi - lo : Nat) : Int))) (congrArg jv (by omega : ((((hi : Int)) - ((lo : Int))) : Int) = (((hi - lo : Nat) : Int)))) ?_
                refine lv_ldc2 (v := jv (2)) hx hb hown (hts _ (List.mem_cons_of_mem _ rm_467)) rd_M_down_85 ?_
                refine iw_ldiv2 (a := hi - lo) hx hb (by omega) rd_M_down_88 ?_
                obtain ⟨mi, hmi⟩ : ∃ mi, mi = lo + (hi - lo) / 2 := ⟨_, rfl⟩
                refine iw_ladd hx hb rd_M_down_89 ?_
                refine iw_topl (y := jv ((mi : Int))) (congrArg jv (by omega : ((((lo : Int)) + ((((hi - lo) / 2 : Nat) : Int))) : Int) = ((mi : Int)))) ?_
                refine lv_lstore (lv' := [(7, .long (jv ((mi : Int)))), (0, .ref (r 0)), (1, .ref (r 2)), (2, .int (iv (0))), (3, .long (jv ((lo : Int)))), (5, .long (jv ((hi : Int))))]) hx hb rd_M_down_90 hl (by decide) rfl (fun ls hl => ?_)
                refine lv_aload_n hx hb rd_M_down_92 rfl (lv_at hl 1 rfl) ?_
                refine va_get (D := (dC, dI)) (ci := 5) (v := .ref (r 1)) (C := rR5) (T := rT5) (N := 7) hx hb hts (fun w h => List.mem_cons_of_mem _ (rin5 w h)) hown hK hP 0 rfl rfl 2 (by decide) (hts _ (List.mem_cons_of_mem _ rm_312)) (fun _ h9 => h9) rfl rd_M_down_93 ?_
                refine lv_lload hx hb rd_M_down_96 (lv_at hl 0 rfl) ?_
                refine ef_callS (As := [.long (jv ((mi : Int)))]) (rest := [.ref (r 1)]) ⟨hx, hb, hml, hown, hts⟩ (r_floatP l dC dI ht r mi (by omega)) (cwS 1 hts (ef_goodS rm_455 rm_456 rm_24 rm_457) rfl rfl rfl (by decide +kernel) ⟨Nat.le_of_ble_eq_true rfl, Nat.le_of_ble_eq_true rfl⟩) hK hNX hP hD hS rfl hl.1 rfl (Nat.le_of_ble_eq_true rfl) rd_M_down_98 ⟨Nat.zero_le _, Nat.zero_le _⟩ (fun o w1 H locs hq hP hD hS => ?_)
                obtain ⟨rfl, e9⟩ := hq
                rw [e9] at hP hD
                refine W.eq (g2 := F0 m 101 ls [.long (jv ((mi : Int))), .ref (r 1)]) rfl ?_
                refine ef_callV (As := [.long (jv ((mi : Int)))]) (rest := []) ⟨hx, hb, hml, hown, hts⟩ (r_setFloat0 l dC dI ht r hJq kA1q kU1q kA2q kU2q mA1 mU1 mA2 mU2 (mi) (by omega)) (cwV 1 hts (ef_goodV rm_459 rm_460 rm_461 rm_26 rm_462) rfl rfl rfl (by decide +kernel) ⟨Nat.le_of_ble_eq_true rfl, Nat.le_of_ble_eq_true rfl⟩) hK hNX hP hD hS 1 rfl rfl rfl rfl hl.1 rfl (Nat.le_of_ble_eq_true rfl) rd_M_down_101 ⟨Nat.zero_le _, Nat.zero_le _⟩ (fun o w1 H locs hq hP hD hS => ?_)
                obtain ⟨Vv_2, Jv_2, pbv_2, pev_2, obv_2, oev_2, a5v_2, a6v_2, aobv_2, aoev_2, a3v_2, a4v_2, apbv_2, apev_2, rfl, rfl, hJv_2, kA1v_2, kU1v_2, kA2v_2, kU2v_2⟩ := hq
                have hP : va_P (dC, dI) vwCl (rC cI r ((Vv_2 0)) ((Vv_2 1)) ((Vv_2 2)) ((Vv_2 3)) ((Vv_2 4)) ((Vv_2 5)) ((Vv_2 6)) (A1) (U1) (A2) (U2) ((Jv_2 0)) ((Jv_2 1)) ((Jv_2 2)) ((Jv_2 3)) ((Jv_2 4)) ((Jv_2 5)) ((Jv_2 6)) ((Jv_2 7)) ((Jv_2 8)) ((Jv_2 9)) ((Jv_2 10)) (pbv_2) (pev_2) (obv_2) (oev_2) (b1) (e1) (b2) (e2)) H := hP
                have hD : va_D (ef_A (rC cI r ((V 0)) ((V 1)) ((V 2)) ((V 3)) ((V 4)) ((V 5)) ((V 6)) (A1) (U1) (A2) (U2) ((J 0)) ((J 1)) ((J 2)) ((J 3)) ((J 4)) ((J 5)) ((J 6)) ((J 7)) ((J 8)) ((J 9)) ((J 10)) (pb) (pe) (ob) (oe) (b1) (e1) (b2) (e2))) (rC cI r ((Vv_2 0)) ((Vv_2 1)) ((Vv_2 2)) ((Vv_2 3)) ((Vv_2 4)) ((Vv_2 5)) ((Vv_2 6)) (A1) (U1) (A2) (U2) ((Jv_2 0)) ((Jv_2 1)) ((Jv_2 2)) ((Jv_2 3)) ((Jv_2 4)) ((Jv_2 5)) ((Jv_2 6)) ((Jv_2 7)) ((Jv_2 8)) ((Jv_2 9)) ((Jv_2 10)) (pbv_2) (pev_2) (obv_2) (oev_2) (b1) (e1) (b2) (e2)) := hD
                have e5v_2 : Vv_2 5 = V 5 := a5v_2.trans e5q
                have e6v_2 : Vv_2 6 = V 6 := a6v_2.trans e6q
                have eobv_2 : obv_2 = ob := aobv_2.trans eobq
                have eoev_2 : oev_2 = oe := aoev_2.trans eoeq
                refine W.eq (g2 := F0 m 104 ls []) rfl ?_
                refine lv_aload_n hx hb rd_M_down_104 rfl (lv_at hl 1 rfl) ?_
                refine lv_aload_n hx hb rd_M_down_105 rfl (lv_at hl 1 rfl) ?_
                refine va_get (D := (dC, dI)) (ci := 5) (v := .ref (r 1)) (C := rR5) (T := rT5) (N := 7) hx hb hts (fun w h => List.mem_cons_of_mem _ (rin5 w h)) hown hK hP 0 rfl rfl 2 (by decide) (hts _ (List.mem_cons_of_mem _ rm_312)) (fun _ h9 => h9) rfl rd_M_down_106 ?_
                refine lv_aload_n hx hb rd_M_down_109 rfl (lv_at hl 2 rfl) ?_
                refine ef_callV (As := [.ref (r 1), .ref (r 2)]) (rest := []) ⟨hx, hb, hml, hown, hts⟩ (r_orderPO l dC dI ht r hJv_2 kA1v_2 kU1v_2 kA2v_2 kU2v_2 mA1 mU1 mA2 mU2 (by rw [a4v_2]; decide) (by rw [e6v_2]; exact nU) (by rw [a3v_2]; exact fp_bl _) (by rw [a4v_2]; exact bl_1) (by rw [e5v_2]; exact bA) (by rw [e6v_2]; exact bU) (by rw [apev_2]; exact (fe_r (by omega)).1) (by rw [apev_2]; exact (fe_r (by omega)).2) (by rw [eoev_2]; exact lee) (by rw [eoev_2]; exact gee) (Or.inl apbv_2) (by rw [eobv_2]; exact hbr)) (cwV 2 hts (ef_goodV rm_410 rm_412 rm_15 rm_24 rm_413) rfl rfl rfl (by decide +kernel) ⟨Nat.le_of_ble_eq_true rfl, Nat.le_of_ble_eq_true rfl⟩) hK hNX hP hD hS 0 rfl rfl rfl rfl hl.1 rfl (Nat.le_of_ble_eq_true rfl) rd_M_down_110 ⟨Nat.zero_le _, Nat.zero_le _⟩ (fun o w1 H locs hq hP hD hS => ?_)
                obtain ⟨Vv_3, Jv_3, pbv_3, pev_3, obv_3, oev_3, a5v_3, a6v_3, aobv_3, aoev_3, rfl, rfl, hJv_3, kA1v_3, kU1v_3, kA2v_3, kU2v_3⟩ := hq
                have hP : va_P (dC, dI) vwCl (rC cI r ((Vv_3 0)) ((Vv_3 1)) ((Vv_3 2)) ((Vv_3 3)) ((Vv_3 4)) ((Vv_3 5)) ((Vv_3 6)) (A1) (U1) (A2) (U2) ((Jv_3 0)) ((Jv_3 1)) ((Jv_3 2)) ((Jv_3 3)) ((Jv_3 4)) ((Jv_3 5)) ((Jv_3 6)) ((Jv_3 7)) ((Jv_3 8)) ((Jv_3 9)) ((Jv_3 10)) (pbv_3) (pev_3) (obv_3) (oev_3) (b1) (e1) (b2) (e2)) H := hP
                have hD : va_D (ef_A (rC cI r ((V 0)) ((V 1)) ((V 2)) ((V 3)) ((V 4)) ((V 5)) ((V 6)) (A1) (U1) (A2) (U2) ((J 0)) ((J 1)) ((J 2)) ((J 3)) ((J 4)) ((J 5)) ((J 6)) ((J 7)) ((J 8)) ((J 9)) ((J 10)) (pb) (pe) (ob) (oe) (b1) (e1) (b2) (e2))) (rC cI r ((Vv_3 0)) ((Vv_3 1)) ((Vv_3 2)) ((Vv_3 3)) ((Vv_3 4)) ((Vv_3 5)) ((Vv_3 6)) (A1) (U1) (A2) (U2) ((Jv_3 0)) ((Jv_3 1)) ((Jv_3 2)) ((Jv_3 3)) ((Jv_3 4)) ((Jv_3 5)) ((Jv_3 6)) ((Jv_3 7)) ((Jv_3 8)) ((Jv_3 9)) ((Jv_3 10)) (pbv_3) (pev_3) (obv_3) (oev_3) (b1) (e1) (b2) (e2)) := hD
                have e5v_3 : Vv_3 5 = V 5 := a5v_3.trans e5v_2
                have e6v_3 : Vv_3 6 = V 6 := a6v_3.trans e6v_2
                have eobv_3 : obv_3 = ob := aobv_3.trans eobv_2
                have eoev_3 : oev_3 = oe := aoev_3.trans eoev_2
                refine W.eq (g2 := F0 m 113 ls [.int (iv (ccmp (Vv_2 3) (Vv_2 4) pbv_2 pev_2 (Vv_2 5) (Vv_2 6) (obv_2) (oev_2)))]) rfl ?_
                refine iw_topi (y := iv (ccmp (fp (mi)) 1 0 (fe (mi)) (V 5) (V 6) ob oe)) (congrArg iv (by rw [a3v_2, a4v_2, apbv_2, apev_2, e5v_2, e6v_2, eobv_2, eoev_2] : ((ccmp (Vv_2 3) (Vv_2 4) pbv_2 pev_2 (Vv_2 5) (Vv_2 6) (obv_2) (oev_2)) : Int) = (ccmp (fp (mi)) 1 0 (fe (mi)) (V 5) (V 6) ob oe))) ?_
                have hcm := ccmp_pos (m := mi) (e := oe) nU hpos
                refine iw_if_gt (tgt := 122) hx hb rd_M_down_113 (by decide) (ccmp_r _ _ _ _ _ _ _ _) (fun c8 => ?_) (fun c8 => ?_)
                ·
                  refine lv_lload hx hb rd_M_down_122 (lv_at hl 0 rfl) ?_
                  refine lv_lstore (lv' := [(5, .long (jv ((mi : Int)))), (7, .long (jv ((mi : Int)))), (0, .ref (r 0)), (1, .ref (r 2)), (2, .int (iv (0))), (3, .long (jv ((lo : Int))))]) hx hb rd_M_down_124 hl (by decide) rfl (fun ls hl => ?_)
                  refine lv_goto (tgt := 71) hx hb rd_M_down_126 (by decide) ?_
                  exact ih (lo) (mi) (Vv_3) (Jv_3) (pbv_3) (pev_3) (obv_3) (oev_3) (hJv_3) (kA1v_3) (kU1v_3) (kA2v_3) (kU2v_3) (e5v_3) (e6v_3) (eobv_3) (eoev_3) (by omega) (by omega) (g3) (fun _ q => absurd (hcm.2 q) (by omega)) (by omega) H locs ls hP hD hS (lv_sub hl [2, 3, 4, 5, 0] rfl)
                ·
                  refine lv_lload hx hb rd_M_down_116 (lv_at hl 0 rfl) ?_
                  refine lv_lstore_n (lv' := [(3, .long (jv ((mi : Int)))), (7, .long (jv ((mi : Int)))), (0, .ref (r 0)), (1, .ref (r 2)), (2, .int (iv (0))), (5, .long (jv ((hi : Int))))]) hx hb rd_M_down_118 rfl hl (by decide) rfl (fun ls hl => ?_)
                  refine lv_goto (tgt := 126) hx hb rd_M_down_119 (by decide) ?_
                  refine lv_goto (tgt := 71) hx hb rd_M_down_126 (by decide) ?_
                  exact ih (mi) (hi) (Vv_3) (Jv_3) (pbv_3) (pev_3) (obv_3) (oev_3) (hJv_3) (kA1v_3) (kU1v_3) (kA2v_3) (kU2v_3) (e5v_3) (e6v_3) (eobv_3) (eoev_3) (by omega) (by omega) (hcm.1 c8) (g4) (by omega) H locs ls hP hD hS (lv_sub hl [2, 3, 4, 0, 5] rfl)
          exact loop (9218868437227405313) (0) (9218868437227405312) (Vv_1) (Jv_1) (pbv_1) (pev_1) (obv_1) (oev_1) (hJv_1) (kA1v_1) (kU1v_1) (kA2v_1) (kU2v_1) (e5v_1) (e6v_1) (eobv_1) (eoev_1) (by decide) (by decide) (by unfold fle; rw [fv_0.2 rfl, Nat.zero_mul, Nat.zero_mul]; exact Nat.zero_le _) (fun q => absurd q (by decide)) (by decide) H locs ls hP hD hS (lv_sub hl [3, 4, 2, 1, 0] rfl)
        ·
          exact absurd rfl c4
      ·
        exact absurd rfl c3
    ·
      exact absurd rfl c2
  ·
    exact absurd c1 (by omega)

set_option maxRecDepth 100000 in
set_option maxHeartbeats 4000000 in
/-- down -/
theorem r_downON (l : Launch) (dC : Nat → ClassId) (dI : Nat → Nat → Nat) {cI : ClassId} {tys : List (ClassId × FieldType)} (ht : tys[0]? = some (cI, .int)) (r : Nat → Nat) {V : Nat → Nat} {J : Nat → Nat → Nat} {A1 U1 A2 U2 : Nat} {pb pe ob oe b1 e1 b2 e2 : Int} (hJ : rJ V J) (kA1 : bk A1 (J 7)) (kU1 : bk U1 (J 8)) (kA2 : bk A2 (J 9)) (kU2 : bk U2 (J 10)) (mA1 : dn A1 ≤ 300) (mU1 : dn U1 ≤ 300) (mA2 : dn A2 ≤ 300) (mU2 : dn U2 ≤ 300) (nU : (V 6) ≠ 0) (bA : bl (V 5) ≤ 4800) (bU : bl (V 6) ≤ 4800) (lee : -12000 ≤ oe) (gee : oe ≤ 12000) (hbr : ob = 0 ∨ ob = 1) (nA : (V 5) ≠ 0) (hb1 : ob = 1) : ef_C l ry_M_down rw_M_down ({ frames := 4, cells := 0, slots := 0, locals := 99 } : Room) [.ref (r 0), .ref (r 2)] (dC, dI) vwCl tys (rC cI r ((V 0)) ((V 1)) ((V 2)) ((V 3)) ((V 4)) ((V 5)) ((V 6)) (A1) (U1) (A2) (U2) ((J 0)) ((J 1)) ((J 2)) ((J 3)) ((J 4)) ((J 5)) ((J 6)) ((J 7)) ((J 8)) ((J 9)) ((J 10)) (pb) (pe) (ob) (oe) (b1) (e1) (b2) (e2)) (fun o w1 => ∃ z : Nat, (rsz (V 5) (V 6) oe 1 z ∧ z ≠ 0) ∧ ∃ (V2 : Nat → Nat) (J2 : Nat → Nat → Nat) (pb2 pe2 ob2 oe2 : Int), o = some (.long (jv ((z : Int) - 9223372036854775808))) ∧ w1 = rC cI r (V2 0) (V2 1) (V2 2) (V2 3) (V2 4) (V2 5) (V2 6) (A1) (U1) (A2) (U2) (J2 0) (J2 1) (J2 2) (J2 3) (J2 4) (J2 5) (J2 6) (J2 7) (J2 8) (J2 9) (J2 10) (pb2) (pe2) (ob2) (oe2) (b1) (e1) (b2) (e2) ∧ rJ V2 J2 ∧ bk (A1) (J2 7) ∧ bk (U1) (J2 8) ∧ bk (A2) (J2 9) ∧ bk (U2) (J2 10)) := by
  refine ef_C.of (cc := rc_M_down) (maxL := 9) (ret := (some .long)) (by decide) rfl (Nat.le_of_ble_eq_true rfl) ?_
  intro p e s m below meth c ls hx hb hml hr hts hown hlocks hK hNX hP hD hS hl
  have hl : lv_has ls 9 [(0, .ref (r 0)), (1, .ref (r 2))] := hl
  have hown : s.vm.findClass rR5 = some m.cls := hown
  generalize hH : s.heap = H at hP ⊢
  have hS : va_S (ef_A (rC cI r ((V 0)) ((V 1)) ((V 2)) ((V 3)) ((V 4)) ((V 5)) ((V 6)) (A1) (U1) (A2) (U2) ((J 0)) ((J 1)) ((J 2)) ((J 3)) ((J 4)) ((J 5)) ((J 6)) ((J 7)) ((J 8)) ((J 9)) ((J 10)) (pb) (pe) (ob) (oe) (b1) (e1) (b2) (e2))) s.heap H [] := by rw [← hH]; exact hS
  generalize ([] : List Loc) = locs at hS ⊢
  have hsg : sgn (V 5) ob = -1 := by unfold sgn; rw [if_neg nA, if_neg (by omega)]
  refine lv_aload_n hx hb rd_M_down_0 rfl (lv_at hl 1 rfl) ?_
  refine ef_callV (As := []) (rest := []) ⟨hx, hb, hml, hown, hts⟩ (r_signO l dC dI ht r hJ kA1 kU1 kA2 kU2 mA1 mU1 mA2 mU2 hbr) (cwV 0 hts (ef_goodV rm_414 rm_415 rm_416 rm_26 rm_417) rfl rfl rfl (by decide +kernel) ⟨Nat.le_of_ble_eq_true rfl, Nat.le_of_ble_eq_true rfl⟩) hK hNX hP hD hS 2 rfl rfl rfl rfl hl.1 rfl (Nat.le_of_ble_eq_true rfl) rd_M_down_1 ⟨Nat.zero_le _, Nat.zero_le _⟩ (fun o w1 H locs hq hP hD hS => ?_)
  obtain ⟨rfl, e9⟩ := hq
  rw [e9] at hP hD
  refine W.eq (g2 := F0 m 4 ls [.int (iv (sgn (V 5) ob))]) rfl ?_
  refine iw_if_ge (tgt := 11) hx hb rd_M_down_4 (by decide) (sgn_ir (V 5) ob) (fun c1 => ?_) (fun c1 => ?_)
  ·
    exact absurd c1 (by omega)
  ·
    refine lv_iconst (v := iv (1)) hx hb rd_M_down_7 (by decide) ?_
    refine lv_goto (tgt := 12) hx hb rd_M_down_8 (by decide) ?_
    refine lv_istore_n (lv' := [(2, .int (iv (1))), (0, .ref (r 0)), (1, .ref (r 2))]) hx hb rd_M_down_12 rfl hl (by decide) rfl (fun ls hl => ?_)
    refine lv_iload_n hx hb rd_M_down_13 rfl (lv_at hl 0 rfl) ?_
    refine iw_if_eq (tgt := 23) hx hb rd_M_down_14 (by decide) ⟨by omega, by omega⟩ (fun c2 => ?_) (fun c2 => ?_)
    ·
      exact absurd c2 (by decide)
    ·
      refine lv_ldc2 (v := jv (-9218868437227405311)) hx hb hown (by have h9 := (hts _ (List.mem_cons_of_mem _ rm_453)); rw [show (-9218868437227405311 : Int64) = jv (-9218868437227405311) by decide] at h9; exact h9) rd_M_down_17 ?_
      refine lv_goto (tgt := 24) hx hb rd_M_down_20 (by decide) ?_
      refine iw_topl (y := jv (-((9218868437227405311 : Nat) : Int))) (congrArg jv (by rfl : ((-9218868437227405311) : Int) = (-((9218868437227405311 : Nat) : Int)))) ?_
      refine lv_lstore_n (lv' := [(3, .long (jv (-((9218868437227405311 : Nat) : Int)))), (2, .int (iv (1))), (0, .ref (r 0)), (1, .ref (r 2))]) hx hb rd_M_down_24 rfl hl (by decide) rfl (fun ls hl => ?_)
      refine lv_iload_n hx hb rd_M_down_25 rfl (lv_at hl 1 rfl) ?_
      refine iw_if_eq (tgt := 33) hx hb rd_M_down_26 (by decide) ⟨by omega, by omega⟩ (fun c3 => ?_) (fun c3 => ?_)
      ·
        exact absurd c3 (by decide)
      ·
        refine lv_lconst (v := jv (0)) hx hb rd_M_down_29 (by decide) ?_
        refine lv_goto (tgt := 36) hx hb rd_M_down_30 (by decide) ?_
        refine iw_topl (y := jv (-((0 : Nat) : Int))) (congrArg jv (by rfl : ((0) : Int) = (-((0 : Nat) : Int)))) ?_
        refine lv_lstore (lv' := [(5, .long (jv (-((0 : Nat) : Int)))), (3, .long (jv (-((9218868437227405311 : Nat) : Int)))), (2, .int (iv (1))), (0, .ref (r 0)), (1, .ref (r 2))]) hx hb rd_M_down_36 hl (by decide) rfl (fun ls hl => ?_)
        refine lv_aload_n hx hb rd_M_down_38 rfl (lv_at hl 3 rfl) ?_
        refine va_get (D := (dC, dI)) (ci := 5) (v := .ref (r 1)) (C := rR5) (T := rT5) (N := 7) hx hb hts (fun w h => List.mem_cons_of_mem _ (rin5 w h)) hown hK hP 0 rfl rfl 2 (by decide) (hts _ (List.mem_cons_of_mem _ rm_312)) (fun _ h9 => h9) rfl rd_M_down_39 ?_
        refine lv_ldc2 (v := jv (-9218868437227405311)) hx hb hown (by have h9 := (hts _ (List.mem_cons_of_mem _ rm_453)); rw [show (-9218868437227405311 : Int64) = jv (-9218868437227405311) by decide] at h9; exact h9) rd_M_down_42 ?_
        refine iw_topl (y := jv (-((9218868437227405311 : Nat) : Int))) (congrArg jv (by rfl : ((-9218868437227405311) : Int) = (-((9218868437227405311 : Nat) : Int)))) ?_
        refine ef_callS (As := [.long (jv (-((9218868437227405311 : Nat) : Int)))]) (rest := [.ref (r 1)]) ⟨hx, hb, hml, hown, hts⟩ (r_floatN l dC dI ht r 9218868437227405311 (by decide) (by decide)) (cwS 1 hts (ef_goodS rm_455 rm_456 rm_24 rm_457) rfl rfl rfl (by decide +kernel) ⟨Nat.le_of_ble_eq_true rfl, Nat.le_of_ble_eq_true rfl⟩) hK hNX hP hD hS rfl hl.1 rfl (Nat.le_of_ble_eq_true rfl) rd_M_down_45 ⟨Nat.zero_le _, Nat.zero_le _⟩ (fun o w1 H locs hq hP hD hS => ?_)
        obtain ⟨rfl, e9⟩ := hq
        rw [e9] at hP hD
        refine W.eq (g2 := F0 m 48 ls [.long (jv (((9218868437227405311 : Nat) : Int) - 9223372036854775808)), .ref (r 1)]) rfl ?_
        refine ef_callV (As := [.long (jv (((9218868437227405311 : Nat) : Int) - 9223372036854775808))]) (rest := []) ⟨hx, hb, hml, hown, hts⟩ (r_setFloat1 l dC dI ht r hJ kA1 kU1 kA2 kU2 mA1 mU1 mA2 mU2 (9218868437227405311) (by decide)) (cwV 1 hts (ef_goodV rm_459 rm_460 rm_461 rm_26 rm_462) rfl rfl rfl (by decide +kernel) ⟨Nat.le_of_ble_eq_true rfl, Nat.le_of_ble_eq_true rfl⟩) hK hNX hP hD hS 1 rfl rfl rfl rfl hl.1 rfl (Nat.le_of_ble_eq_true rfl) rd_M_down_48 ⟨Nat.zero_le _, Nat.zero_le _⟩ (fun o w1 H locs hq hP hD hS => ?_)
        obtain ⟨Vv_1, Jv_1, pbv_1, pev_1, obv_1, oev_1, a5v_1, a6v_1, aobv_1, aoev_1, a3v_1, a4v_1, apbv_1, apev_1, rfl, rfl, hJv_1, kA1v_1, kU1v_1, kA2v_1, kU2v_1⟩ := hq
        have hP : va_P (dC, dI) vwCl (rC cI r ((Vv_1 0)) ((Vv_1 1)) ((Vv_1 2)) ((Vv_1 3)) ((Vv_1 4)) ((Vv_1 5)) ((Vv_1 6)) (A1) (U1) (A2) (U2) ((Jv_1 0)) ((Jv_1 1)) ((Jv_1 2)) ((Jv_1 3)) ((Jv_1 4)) ((Jv_1 5)) ((Jv_1 6)) ((Jv_1 7)) ((Jv_1 8)) ((Jv_1 9)) ((Jv_1 10)) (pbv_1) (pev_1) (obv_1) (oev_1) (b1) (e1) (b2) (e2)) H := hP
        have hD : va_D (ef_A (rC cI r ((V 0)) ((V 1)) ((V 2)) ((V 3)) ((V 4)) ((V 5)) ((V 6)) (A1) (U1) (A2) (U2) ((J 0)) ((J 1)) ((J 2)) ((J 3)) ((J 4)) ((J 5)) ((J 6)) ((J 7)) ((J 8)) ((J 9)) ((J 10)) (pb) (pe) (ob) (oe) (b1) (e1) (b2) (e2))) (rC cI r ((Vv_1 0)) ((Vv_1 1)) ((Vv_1 2)) ((Vv_1 3)) ((Vv_1 4)) ((Vv_1 5)) ((Vv_1 6)) (A1) (U1) (A2) (U2) ((Jv_1 0)) ((Jv_1 1)) ((Jv_1 2)) ((Jv_1 3)) ((Jv_1 4)) ((Jv_1 5)) ((Jv_1 6)) ((Jv_1 7)) ((Jv_1 8)) ((Jv_1 9)) ((Jv_1 10)) (pbv_1) (pev_1) (obv_1) (oev_1) (b1) (e1) (b2) (e2)) := hD
        have e5v_1 : Vv_1 5 = V 5 := a5v_1.trans rfl
        have e6v_1 : Vv_1 6 = V 6 := a6v_1.trans rfl
        have eobv_1 : obv_1 = ob := aobv_1.trans rfl
        have eoev_1 : oev_1 = oe := aoev_1.trans rfl
        refine W.eq (g2 := F0 m 51 ls []) rfl ?_
        refine lv_iload_n hx hb rd_M_down_51 rfl (lv_at hl 2 rfl) ?_
        refine iw_if_eq (tgt := 71) hx hb rd_M_down_52 (by decide) ⟨by omega, by omega⟩ (fun c4 => ?_) (fun c4 => ?_)
        ·
          exact absurd c4 (by decide)
        ·
          refine lv_aload_n hx hb rd_M_down_55 rfl (lv_at hl 3 rfl) ?_
          refine lv_aload_n hx hb rd_M_down_56 rfl (lv_at hl 3 rfl) ?_
          refine va_get (D := (dC, dI)) (ci := 5) (v := .ref (r 1)) (C := rR5) (T := rT5) (N := 7) hx hb hts (fun w h => List.mem_cons_of_mem _ (rin5 w h)) hown hK hP 0 rfl rfl 2 (by decide) (hts _ (List.mem_cons_of_mem _ rm_312)) (fun _ h9 => h9) rfl rd_M_down_57 ?_
          refine lv_aload_n hx hb rd_M_down_60 rfl (lv_at hl 4 rfl) ?_
          refine ef_callV (As := [.ref (r 1), .ref (r 2)]) (rest := []) ⟨hx, hb, hml, hown, hts⟩ (r_orderPO l dC dI ht r hJv_1 kA1v_1 kU1v_1 kA2v_1 kU2v_1 mA1 mU1 mA2 mU2 (by rw [a4v_1]; decide) (by rw [e6v_1]; exact nU) (by rw [a3v_1]; exact fp_bl _) (by rw [a4v_1]; exact bl_1) (by rw [e5v_1]; exact bA) (by rw [e6v_1]; exact bU) (by rw [apev_1]; exact (fe_r (by omega)).1) (by rw [apev_1]; exact (fe_r (by omega)).2) (by rw [eoev_1]; exact lee) (by rw [eoev_1]; exact gee) (Or.inr apbv_1) (by rw [eobv_1]; exact hbr)) (cwV 2 hts (ef_goodV rm_410 rm_412 rm_15 rm_24 rm_413) rfl rfl rfl (by decide +kernel) ⟨Nat.le_of_ble_eq_true rfl, Nat.le_of_ble_eq_true rfl⟩) hK hNX hP hD hS 0 rfl rfl rfl rfl hl.1 rfl (Nat.le_of_ble_eq_true rfl) rd_M_down_61 ⟨Nat.zero_le _, Nat.zero_le _⟩ (fun o w1 H locs hq hP hD hS => ?_)
          obtain ⟨Vv_2, Jv_2, pbv_2, pev_2, obv_2, oev_2, a5v_2, a6v_2, aobv_2, aoev_2, rfl, rfl, hJv_2, kA1v_2, kU1v_2, kA2v_2, kU2v_2⟩ := hq
          have hP : va_P (dC, dI) vwCl (rC cI r ((Vv_2 0)) ((Vv_2 1)) ((Vv_2 2)) ((Vv_2 3)) ((Vv_2 4)) ((Vv_2 5)) ((Vv_2 6)) (A1) (U1) (A2) (U2) ((Jv_2 0)) ((Jv_2 1)) ((Jv_2 2)) ((Jv_2 3)) ((Jv_2 4)) ((Jv_2 5)) ((Jv_2 6)) ((Jv_2 7)) ((Jv_2 8)) ((Jv_2 9)) ((Jv_2 10)) (pbv_2) (pev_2) (obv_2) (oev_2) (b1) (e1) (b2) (e2)) H := hP
          have hD : va_D (ef_A (rC cI r ((V 0)) ((V 1)) ((V 2)) ((V 3)) ((V 4)) ((V 5)) ((V 6)) (A1) (U1) (A2) (U2) ((J 0)) ((J 1)) ((J 2)) ((J 3)) ((J 4)) ((J 5)) ((J 6)) ((J 7)) ((J 8)) ((J 9)) ((J 10)) (pb) (pe) (ob) (oe) (b1) (e1) (b2) (e2))) (rC cI r ((Vv_2 0)) ((Vv_2 1)) ((Vv_2 2)) ((Vv_2 3)) ((Vv_2 4)) ((Vv_2 5)) ((Vv_2 6)) (A1) (U1) (A2) (U2) ((Jv_2 0)) ((Jv_2 1)) ((Jv_2 2)) ((Jv_2 3)) ((Jv_2 4)) ((Jv_2 5)) ((Jv_2 6)) ((Jv_2 7)) ((Jv_2 8)) ((Jv_2 9)) ((Jv_2 10)) (pbv_2) (pev_2) (obv_2) (oev_2) (b1) (e1) (b2) (e2)) := hD
          have e5v_2 : Vv_2 5 = V 5 := a5v_2.trans e5v_1
          have e6v_2 : Vv_2 6 = V 6 := a6v_2.trans e6v_1
          have eobv_2 : obv_2 = ob := aobv_2.trans eobv_1
          have eoev_2 : oev_2 = oe := aoev_2.trans eoev_1
          refine W.eq (g2 := F0 m 64 ls [.int (iv (ccmp (Vv_1 3) (Vv_1 4) pbv_1 pev_1 (Vv_1 5) (Vv_1 6) (obv_1) (oev_1)))]) rfl ?_
          refine iw_topi (y := iv (ccmp (fp (9218868437227405311)) 1 1 (fe (9218868437227405311)) (V 5) (V 6) 1 oe)) (congrArg iv (by rw [a3v_1, a4v_1, apbv_1, apev_1, e5v_1, e6v_1, eobv_1, eoev_1, hb1] : ((ccmp (Vv_1 3) (Vv_1 4) pbv_1 pev_1 (Vv_1 5) (Vv_1 6) (obv_1) (oev_1)) : Int) = (ccmp (fp (9218868437227405311)) 1 1 (fe (9218868437227405311)) (V 5) (V 6) 1 oe))) ?_
          refine iw_if_le (tgt := 71) hx hb rd_M_down_64 (by decide) (ccmp_r _ _ _ _ _ _ _ _) (fun c5 => ?_) (fun c5 => ?_)
          ·
            have hG := (ccmp_neg (U := (V 6)) (e := oe) nA (show (9218868437227405311 : Nat) ≠ 0 by decide)).1 c5
            have loop : ∀ (fuel : Nat) (lo : Nat) (hi : Nat) (Vq : Nat → Nat) (Jq : Nat → Nat → Nat) (pbq : Int) (peq : Int) (obq : Int) (oeq : Int), (rJ Vq Jq) → (bk A1 (Jq 7)) → (bk U1 (Jq 8)) → (bk A2 (Jq 9)) → (bk U2 (Jq 10)) → (Vq 5 = V 5) → (Vq 6 = V 6) → (obq = ob) → (oeq = oe) → (hi < lo) → (lo ≤ 9218868437227405311) → ((V 5) * pw oe ≤ fv lo * (V 6) * pw (-1074)) → (¬ (V 5) * pw oe ≤ fv hi * (V 6) * pw (-1074)) → (lo < hi + fuel) → ∀ (H : Heap) (locs : List Loc) (ls : Array Slot), va_P (dC, dI) vwCl (rC cI r ((Vq 0)) ((Vq 1)) ((Vq 2)) ((Vq 3)) ((Vq 4)) ((Vq 5)) ((Vq 6)) (A1) (U1) (A2) (U2) ((Jq 0)) ((Jq 1)) ((Jq 2)) ((Jq 3)) ((Jq 4)) ((Jq 5)) ((Jq 6)) ((Jq 7)) ((Jq 8)) ((Jq 9)) ((Jq 10)) (pbq) (peq) (obq) (oeq) (b1) (e1) (b2) (e2)) H → va_D (ef_A (rC cI r ((V 0)) ((V 1)) ((V 2)) ((V 3)) ((V 4)) ((V 5)) ((V 6)) (A1) (U1) (A2) (U2) ((J 0)) ((J 1)) ((J 2)) ((J 3)) ((J 4)) ((J 5)) ((J 6)) ((J 7)) ((J 8)) ((J 9)) ((J 10)) (pb) (pe) (ob) (oe) (b1) (e1) (b2) (e2))) (rC cI r ((Vq 0)) ((Vq 1)) ((Vq 2)) ((Vq 3)) ((Vq 4)) ((Vq 5)) ((Vq 6)) (A1) (U1) (A2) (U2) ((Jq 0)) ((Jq 1)) ((Jq 2)) ((Jq 3)) ((Jq 4)) ((Jq 5)) ((Jq 6)) ((Jq 7)) ((Jq 8)) ((Jq 9)) ((Jq 10)) (pbq) (peq) (obq) (oeq) (b1) (e1) (b2) (e2)) → va_S (ef_A (rC cI r ((V 0)) ((V 1)) ((V 2)) ((V 3)) ((V 4)) ((V 5)) ((V 6)) (A1) (U1) (A2) (U2) ((J 0)) ((J 1)) ((J 2)) ((J 3)) ((J 4)) ((J 5)) ((J 6)) ((J 7)) ((J 8)) ((J 9)) ((J 10)) (pb) (pe) (ob) (oe) (b1) (e1) (b2) (e2))) s.heap H locs → lv_has ls 9 [(0, .ref (r 0)), (1, .ref (r 2)), (2, .int (iv (1))), (3, .long (jv (-(lo : Int)))), (5, .long (jv (-(hi : Int))))] → W p l e ({ frames := 4, cells := 0, slots := 0, locals := 99 } : Room) s m ([.ref (r 0), .ref (r 2)] : List Value).toArray below meth c H locs 0 0 (ef_R below (dC, dI) vwCl (rC cI r ((V 0)) ((V 1)) ((V 2)) ((V 3)) ((V 4)) ((V 5)) ((V 6)) (A1) (U1) (A2) (U2) ((J 0)) ((J 1)) ((J 2)) ((J 3)) ((J 4)) ((J 5)) ((J 6)) ((J 7)) ((J 8)) ((J 9)) ((J 10)) (pb) (pe) (ob) (oe) (b1) (e1) (b2) (e2)) (fun o w1 => ∃ z : Nat, (rsz (V 5) (V 6) oe 1 z ∧ z ≠ 0) ∧ ∃ (V2 : Nat → Nat) (J2 : Nat → Nat → Nat) (pb2 pe2 ob2 oe2 : Int), o = some (.long (jv ((z : Int) - 9223372036854775808))) ∧ w1 = rC cI r (V2 0) (V2 1) (V2 2) (V2 3) (V2 4) (V2 5) (V2 6) (A1) (U1) (A2) (U2) (J2 0) (J2 1) (J2 2) (J2 3) (J2 4) (J2 5) (J2 6) (J2 7) (J2 8) (J2 9) (J2 10) (pb2) (pe2) (ob2) (oe2) (b1) (e1) (b2) (e2) ∧ rJ V2 J2 ∧ bk (A1) (J2 7) ∧ bk (U1) (J2 8) ∧ bk (A2) (J2 9) ∧ bk (U2) (J2 10)) [.ref (r 0), .ref (r 2)] s) (F0 m 71 ls []) := by
              intro fuel
              induction fuel with
              | zero => intro lo hi Vq Jq pbq peq obq oeq hJq kA1q kU1q kA2q kU2q e5q e6q eobq eoeq g1 g2 g3 g4 g5; exfalso; omega
              | succ fuel ih =>
                intro lo hi Vq Jq pbq peq obq oeq hJq kA1q kU1q kA2q kU2q e5q e6q eobq eoeq g1 g2 g3 g4 g5 H locs ls hP hD hS hl
                refine lv_lload hx hb rd_M_down_71 (lv_at hl 4 rfl) ?_
                refine lv_lload_n hx hb rd_M_down_73 rfl (lv_at hl 3 rfl) ?_
                refine iw_lsub hx hb rd_M_down_74 ?_
                refine iw_topl (y := jv (((lo - hi : Nat) : Int))) (congrArg jv (by omega : (((-(hi : Int)) - (-(lo : Int))) : Int) = (((lo - hi : Nat) : Int)))) ?_
                refine lv_lconst (v := jv (1)) hx hb rd_M_down_75 (by decide) ?_
                refine iw_lcmp hx hb (⟨by omega, by omega⟩) (⟨by omega, by omega⟩) rd_M_down_76 ?_
                refine iw_if_le (tgt := 129) hx hb rd_M_down_77 (by decide) (ir_zc _ _) (fun c6 => ?_) (fun c6 => ?_)
                ·
                  have c7 := (zc_le _ _).1 c6
                  obtain rfl : lo = hi + 1 := by omega
                  refine lv_lload_n hx hb rd_M_down_129 rfl (lv_at hl 3 rfl) ?_
                  refine ef_callS (As := [.long (jv (-((hi + 1 : Nat) : Int)))]) (rest := []) ⟨hx, hb, hml, hown, hts⟩ (r_floatN l dC dI ht r (hi + 1) (by omega) (by omega)) (cwS 1 hts (ef_goodS rm_455 rm_456 rm_24 rm_457) rfl rfl rfl (by decide +kernel) ⟨Nat.le_of_ble_eq_true rfl, Nat.le_of_ble_eq_true rfl⟩) hK hNX hP hD hS rfl hl.1 rfl (Nat.le_of_ble_eq_true rfl) rd_M_down_130 ⟨Nat.zero_le _, Nat.zero_le _⟩ (fun o w1 H locs hq hP hD hS => ?_)
                  obtain ⟨rfl, e9⟩ := hq
                  rw [e9] at hP hD
                  refine W.eq (g2 := F0 m 133 ls [.long (jv (((hi + 1 : Nat) : Int) - 9223372036854775808))]) rfl ?_
                  exact ef_lret hx hb hr hlocks hP hD hS rd_M_down_133 (⟨hi + 1, ⟨rsz_neg g2 g3 g4, by omega⟩, fun i => [((Vq 0)), ((Vq 1)), ((Vq 2)), ((Vq 3)), ((Vq 4)), ((Vq 5)), ((Vq 6))].getD i 0, fun i => [((Jq 0)), ((Jq 1)), ((Jq 2)), ((Jq 3)), ((Jq 4)), ((Jq 5)), ((Jq 6)), ((Jq 7)), ((Jq 8)), ((Jq 9)), ((Jq 10))].getD i (fun _ => 0), _, _, _, _, rfl, rfl, rJ_of (hJq 0 (by decide)) (hJq 1 (by decide)) (hJq 2 (by decide)) (hJq 3 (by decide)) (hJq 4 (by decide)) (hJq 5 (by decide)) (hJq 6 (by decide)), kA1q, kU1q, kA2q, kU2q⟩)
                ·
                  have c7 : ¬ ((lo - hi : Nat) : Int) ≤ 1 := fun q => absurd ((zc_le _ _).2 q) (by omega)
                  refine lv_lload_n hx hb rd_M_down_80 rfl (lv_at hl 3 rfl) ?_
                  refine lv_lload hx hb rd_M_down_81 (lv_at hl 4 rfl) ?_
                  refine lv_lload_n hx hb rd_M_down_83 rfl (lv_at hl 3 rfl) ?_
                  refine iw_lsub hx hb rd_M_down_84 ?_
                  refine iw_topl (y := jv (((lo - hi : Nat) : Int))) (congrArg jv (by omega : (((-(hi : Int)) - (-(lo : Int))) : Int) = (((lo - hi : Nat) : Int)))) ?_
                  refine lv_ldc2 (v := jv (2)) hx hb hown (hts _ (List.mem_cons_of_mem _ rm_467)) rd_M_down_85 ?_
                  refine iw_ldiv2 (a := lo - hi) hx hb (by omega) rd_M_down_88 ?_
                  obtain ⟨mi, hmi⟩ : ∃ mi, mi = lo - (lo - hi) / 2 := ⟨_, rfl⟩
                  refine iw_ladd hx hb rd_M_down_89 ?_
                  refine iw_topl (y := jv (-(mi : Int))) (congrArg jv (by omega : (((-(lo : Int)) + ((((lo - hi) / 2 : Nat) : Int))) : Int) = (-(mi : Int)))) ?_
                  refine lv_lstore (lv' := [(7, .long (jv (-(mi : Int)))), (0, .ref (r 0)), (1, .ref (r 2)), (2, .int (iv (1))), (3, .long (jv (-(lo : Int)))), (5, .long (jv (-(hi : Int))))]) hx hb rd_M_down_90 hl (by decide) rfl (fun ls hl => ?_)
                  refine lv_aload_n hx hb rd_M_down_92 rfl (lv_at hl 1 rfl) ?_
                  refine va_get (D := (dC, dI)) (ci := 5) (v := .ref (r 1)) (C := rR5) (T := rT5) (N := 7) hx hb hts (fun w h => List.mem_cons_of_mem _ (rin5 w h)) hown hK hP 0 rfl rfl 2 (by decide) (hts _ (List.mem_cons_of_mem _ rm_312)) (fun _ h9 => h9) rfl rd_M_down_93 ?_
                  refine lv_lload hx hb rd_M_down_96 (lv_at hl 0 rfl) ?_
                  refine ef_callS (As := [.long (jv (-(mi : Int)))]) (rest := [.ref (r 1)]) ⟨hx, hb, hml, hown, hts⟩ (r_floatN l dC dI ht r mi (by omega) (by omega)) (cwS 1 hts (ef_goodS rm_455 rm_456 rm_24 rm_457) rfl rfl rfl (by decide +kernel) ⟨Nat.le_of_ble_eq_true rfl, Nat.le_of_ble_eq_true rfl⟩) hK hNX hP hD hS rfl hl.1 rfl (Nat.le_of_ble_eq_true rfl) rd_M_down_98 ⟨Nat.zero_le _, Nat.zero_le _⟩ (fun o w1 H locs hq hP hD hS => ?_)
                  obtain ⟨rfl, e9⟩ := hq
                  rw [e9] at hP hD
                  refine W.eq (g2 := F0 m 101 ls [.long (jv ((mi : Int) - 9223372036854775808)), .ref (r 1)]) rfl ?_
                  refine ef_callV (As := [.long (jv ((mi : Int) - 9223372036854775808))]) (rest := []) ⟨hx, hb, hml, hown, hts⟩ (r_setFloat1 l dC dI ht r hJq kA1q kU1q kA2q kU2q mA1 mU1 mA2 mU2 (mi) (by omega)) (cwV 1 hts (ef_goodV rm_459 rm_460 rm_461 rm_26 rm_462) rfl rfl rfl (by decide +kernel) ⟨Nat.le_of_ble_eq_true rfl, Nat.le_of_ble_eq_true rfl⟩) hK hNX hP hD hS 1 rfl rfl rfl rfl hl.1 rfl (Nat.le_of_ble_eq_true rfl) rd_M_down_101 ⟨Nat.zero_le _, Nat.zero_le _⟩ (fun o w1 H locs hq hP hD hS => ?_)
                  obtain ⟨Vv_3, Jv_3, pbv_3, pev_3, obv_3, oev_3, a5v_3, a6v_3, aobv_3, aoev_3, a3v_3, a4v_3, apbv_3, apev_3, rfl, rfl, hJv_3, kA1v_3, kU1v_3, kA2v_3, kU2v_3⟩ := hq
                  have hP : va_P (dC, dI) vwCl (rC cI r ((Vv_3 0)) ((Vv_3 1)) ((Vv_3 2)) ((Vv_3 3)) ((Vv_3 4)) ((Vv_3 5)) ((Vv_3 6)) (A1) (U1) (A2) (U2) ((Jv_3 0)) ((Jv_3 1)) ((Jv_3 2)) ((Jv_3 3)) ((Jv_3 4)) ((Jv_3 5)) ((Jv_3 6)) ((Jv_3 7)) ((Jv_3 8)) ((Jv_3 9)) ((Jv_3 10)) (pbv_3) (pev_3) (obv_3) (oev_3) (b1) (e1) (b2) (e2)) H := hP
                  have hD : va_D (ef_A (rC cI r ((V 0)) ((V 1)) ((V 2)) ((V 3)) ((V 4)) ((V 5)) ((V 6)) (A1) (U1) (A2) (U2) ((J 0)) ((J 1)) ((J 2)) ((J 3)) ((J 4)) ((J 5)) ((J 6)) ((J 7)) ((J 8)) ((J 9)) ((J 10)) (pb) (pe) (ob) (oe) (b1) (e1) (b2) (e2))) (rC cI r ((Vv_3 0)) ((Vv_3 1)) ((Vv_3 2)) ((Vv_3 3)) ((Vv_3 4)) ((Vv_3 5)) ((Vv_3 6)) (A1) (U1) (A2) (U2) ((Jv_3 0)) ((Jv_3 1)) ((Jv_3 2)) ((Jv_3 3)) ((Jv_3 4)) ((Jv_3 5)) ((Jv_3 6)) ((Jv_3 7)) ((Jv_3 8)) ((Jv_3 9)) ((Jv_3 10)) (pbv_3) (pev_3) (obv_3) (oev_3) (b1) (e1) (b2) (e2)) := hD
                  have e5v_3 : Vv_3 5 = V 5 := a5v_3.trans e5q
                  have e6v_3 : Vv_3 6 = V 6 := a6v_3.trans e6q
                  have eobv_3 : obv_3 = ob := aobv_3.trans eobq
                  have eoev_3 : oev_3 = oe := aoev_3.trans eoeq
                  refine W.eq (g2 := F0 m 104 ls []) rfl ?_
                  refine lv_aload_n hx hb rd_M_down_104 rfl (lv_at hl 1 rfl) ?_
                  refine lv_aload_n hx hb rd_M_down_105 rfl (lv_at hl 1 rfl) ?_
                  refine va_get (D := (dC, dI)) (ci := 5) (v := .ref (r 1)) (C := rR5) (T := rT5) (N := 7) hx hb hts (fun w h => List.mem_cons_of_mem _ (rin5 w h)) hown hK hP 0 rfl rfl 2 (by decide) (hts _ (List.mem_cons_of_mem _ rm_312)) (fun _ h9 => h9) rfl rd_M_down_106 ?_
                  refine lv_aload_n hx hb rd_M_down_109 rfl (lv_at hl 2 rfl) ?_
                  refine ef_callV (As := [.ref (r 1), .ref (r 2)]) (rest := []) ⟨hx, hb, hml, hown, hts⟩ (r_orderPO l dC dI ht r hJv_3 kA1v_3 kU1v_3 kA2v_3 kU2v_3 mA1 mU1 mA2 mU2 (by rw [a4v_3]; decide) (by rw [e6v_3]; exact nU) (by rw [a3v_3]; exact fp_bl _) (by rw [a4v_3]; exact bl_1) (by rw [e5v_3]; exact bA) (by rw [e6v_3]; exact bU) (by rw [apev_3]; exact (fe_r (by omega)).1) (by rw [apev_3]; exact (fe_r (by omega)).2) (by rw [eoev_3]; exact lee) (by rw [eoev_3]; exact gee) (Or.inr apbv_3) (by rw [eobv_3]; exact hbr)) (cwV 2 hts (ef_goodV rm_410 rm_412 rm_15 rm_24 rm_413) rfl rfl rfl (by decide +kernel) ⟨Nat.le_of_ble_eq_true rfl, Nat.le_of_ble_eq_true rfl⟩) hK hNX hP hD hS 0 rfl rfl rfl rfl hl.1 rfl (Nat.le_of_ble_eq_true rfl) rd_M_down_110 ⟨Nat.zero_le _, Nat.zero_le _⟩ (fun o w1 H locs hq hP hD hS => ?_)
                  obtain ⟨Vv_4, Jv_4, pbv_4, pev_4, obv_4, oev_4, a5v_4, a6v_4, aobv_4, aoev_4, rfl, rfl, hJv_4, kA1v_4, kU1v_4, kA2v_4, kU2v_4⟩ := hq
                  have hP : va_P (dC, dI) vwCl (rC cI r ((Vv_4 0)) ((Vv_4 1)) ((Vv_4 2)) ((Vv_4 3)) ((Vv_4 4)) ((Vv_4 5)) ((Vv_4 6)) (A1) (U1) (A2) (U2) ((Jv_4 0)) ((Jv_4 1)) ((Jv_4 2)) ((Jv_4 3)) ((Jv_4 4)) ((Jv_4 5)) ((Jv_4 6)) ((Jv_4 7)) ((Jv_4 8)) ((Jv_4 9)) ((Jv_4 10)) (pbv_4) (pev_4) (obv_4) (oev_4) (b1) (e1) (b2) (e2)) H := hP
                  have hD : va_D (ef_A (rC cI r ((V 0)) ((V 1)) ((V 2)) ((V 3)) ((V 4)) ((V 5)) ((V 6)) (A1) (U1) (A2) (U2) ((J 0)) ((J 1)) ((J 2)) ((J 3)) ((J 4)) ((J 5)) ((J 6)) ((J 7)) ((J 8)) ((J 9)) ((J 10)) (pb) (pe) (ob) (oe) (b1) (e1) (b2) (e2))) (rC cI r ((Vv_4 0)) ((Vv_4 1)) ((Vv_4 2)) ((Vv_4 3)) ((Vv_4 4)) ((Vv_4 5)) ((Vv_4 6)) (A1) (U1) (A2) (U2) ((Jv_4 0)) ((Jv_4 1)) ((Jv_4 2)) ((Jv_4 3)) ((Jv_4 4)) ((Jv_4 5)) ((Jv_4 6)) ((Jv_4 7)) ((Jv_4 8)) ((Jv_4 9)) ((Jv_4 10)) (pbv_4) (pev_4) (obv_4) (oev_4) (b1) (e1) (b2) (e2)) := hD
                  have e5v_4 : Vv_4 5 = V 5 := a5v_4.trans e5v_3
                  have e6v_4 : Vv_4 6 = V 6 := a6v_4.trans e6v_3
                  have eobv_4 : obv_4 = ob := aobv_4.trans eobv_3
                  have eoev_4 : oev_4 = oe := aoev_4.trans eoev_3
                  refine W.eq (g2 := F0 m 113 ls [.int (iv (ccmp (Vv_3 3) (Vv_3 4) pbv_3 pev_3 (Vv_3 5) (Vv_3 6) (obv_3) (oev_3)))]) rfl ?_
                  refine iw_topi (y := iv (ccmp (fp (mi)) 1 1 (fe (mi)) (V 5) (V 6) 1 oe)) (congrArg iv (by rw [a3v_3, a4v_3, apbv_3, apev_3, e5v_3, e6v_3, eobv_3, eoev_3, hb1] : ((ccmp (Vv_3 3) (Vv_3 4) pbv_3 pev_3 (Vv_3 5) (Vv_3 6) (obv_3) (oev_3)) : Int) = (ccmp (fp (mi)) 1 1 (fe (mi)) (V 5) (V 6) 1 oe))) ?_
                  have hcm := ccmp_neg (U := (V 6)) (e := oe) (k := mi) nA (by omega)
                  refine iw_if_gt (tgt := 122) hx hb rd_M_down_113 (by decide) (ccmp_r _ _ _ _ _ _ _ _) (fun c8 => ?_) (fun c8 => ?_)
                  ·
                    refine lv_lload hx hb rd_M_down_122 (lv_at hl 0 rfl) ?_
                    refine lv_lstore (lv' := [(5, .long (jv (-(mi : Int)))), (7, .long (jv (-(mi : Int)))), (0, .ref (r 0)), (1, .ref (r 2)), (2, .int (iv (1))), (3, .long (jv (-(lo : Int))))]) hx hb rd_M_down_124 hl (by decide) rfl (fun ls hl => ?_)
                    refine lv_goto (tgt := 71) hx hb rd_M_down_126 (by decide) ?_
                    exact ih (lo) (mi) (Vv_4) (Jv_4) (pbv_4) (pev_4) (obv_4) (oev_4) (hJv_4) (kA1v_4) (kU1v_4) (kA2v_4) (kU2v_4) (e5v_4) (e6v_4) (eobv_4) (eoev_4) (by omega) (by omega) (g3) (fun q => absurd (hcm.2 q) (by omega)) (by omega) H locs ls hP hD hS (lv_sub hl [2, 3, 4, 5, 0] rfl)
                  ·
                    refine lv_lload hx hb rd_M_down_116 (lv_at hl 0 rfl) ?_
                    refine lv_lstore_n (lv' := [(3, .long (jv (-(mi : Int)))), (7, .long (jv (-(mi : Int)))), (0, .ref (r 0)), (1, .ref (r 2)), (2, .int (iv (1))), (5, .long (jv (-(hi : Int))))]) hx hb rd_M_down_118 rfl hl (by decide) rfl (fun ls hl => ?_)
                    refine lv_goto (tgt := 126) hx hb rd_M_down_119 (by decide) ?_
                    refine lv_goto (tgt := 71) hx hb rd_M_down_126 (by decide) ?_
                    exact ih (mi) (hi) (Vv_4) (Jv_4) (pbv_4) (pev_4) (obv_4) (oev_4) (hJv_4) (kA1v_4) (kU1v_4) (kA2v_4) (kU2v_4) (e5v_4) (e6v_4) (eobv_4) (eoev_4) (by omega) (by omega) (hcm.1 c8) (g4) (by omega) H locs ls hP hD hS (lv_sub hl [2, 3, 4, 0, 5] rfl)
            exact loop (9218868437227405312) (9218868437227405311) (0) (Vv_2) (Jv_2) (pbv_2) (pev_2) (obv_2) (oev_2) (hJv_2) (kA1v_2) (kU1v_2) (kA2v_2) (kU2v_2) (e5v_2) (e6v_2) (eobv_2) (eoev_2) (by decide) (by decide) (hG) (by rw [fv_0.2 rfl, Nat.zero_mul, Nat.zero_mul]; have := Nat.mul_pos (show 0 < (V 5) by omega) (pw_pos oe); omega) (by decide) H locs ls hP hD hS (lv_sub hl [3, 4, 2, 1, 0] rfl)
          ·
            have hG : ¬ _ := fun q => absurd ((ccmp_neg (U := (V 6)) (e := oe) nA (show (9218868437227405311 : Nat) ≠ 0 by decide)).2 q) (by omega)
            refine lv_ldc2 (v := jv (-4503599627370496)) hx hb hown (by have h9 := (hts _ (List.mem_cons_of_mem _ rm_466)); rw [show (-4503599627370496 : Int64) = jv (-4503599627370496) by decide] at h9; exact h9) rd_M_down_67 ?_
            refine iw_topl (y := jv (((9218868437227405312 : Nat) : Int) - 9223372036854775808)) (congrArg jv (by rfl : ((-4503599627370496) : Int) = (((9218868437227405312 : Nat) : Int) - 9223372036854775808))) ?_
            exact ef_lret hx hb hr hlocks hP hD hS rd_M_down_70 (⟨9218868437227405312, ⟨rsz_big hG, by decide⟩, fun i => [((Vv_2 0)), ((Vv_2 1)), ((Vv_2 2)), ((Vv_2 3)), ((Vv_2 4)), ((Vv_2 5)), ((Vv_2 6))].getD i 0, fun i => [((Jv_2 0)), ((Jv_2 1)), ((Jv_2 2)), ((Jv_2 3)), ((Jv_2 4)), ((Jv_2 5)), ((Jv_2 6)), ((Jv_2 7)), ((Jv_2 8)), ((Jv_2 9)), ((Jv_2 10))].getD i (fun _ => 0), _, _, _, _, rfl, rfl, rJ_of (hJv_2 0 (by decide)) (hJv_2 1 (by decide)) (hJv_2 2 (by decide)) (hJv_2 3 (by decide)) (hJv_2 4 (by decide)) (hJv_2 5 (by decide)) (hJv_2 6 (by decide)), kA1v_2, kU1v_2, kA2v_2, kU2v_2⟩)
