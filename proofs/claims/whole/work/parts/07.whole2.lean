set_option maxRecDepth 100000 in
set_option maxHeartbeats 4000000 in
/-- length: how many bits -/
theorem c_length (l : Launch) (dC : Nat → ClassId) (dI : Nat → Nat → Nat) {cI : ClassId} {tys : List (ClassId × FieldType)} (ht : tys[0]? = some (cI, .int)) {ws : va_W} {k0 k1 h a X : Nat} (hw : isW ws k0 k1 h a cI (wl X : Int) (wd X)) (hX : wl X ≤ 301) : ef_C l yX1_length wsX1_length ({ frames := 1, cells := 0, slots := 0, locals := 21 } : Room) [.ref h] (dC, dI) vwCl tys ws (fun o w1 => o = some (.int (iv (bl X : Int))) ∧ w1 = ws) := by
  refine ef_C.of (cc := cX1_length) (maxL := 3) (ret := (some .int)) (by decide) rfl (Nat.le_of_ble_eq_true rfl) ?_
  intro p e s m below meth c ls hx hb hml hr hts hown hlocks hK hNX hP hD hS hl
  have hl : lv_has ls 3 [(0, .ref h)] := hl
  have hown : s.vm.findClass RX1 = some m.cls := hown
  generalize hH : s.heap = H at hP ⊢
  have hS : va_S (ef_A ws) s.heap H [] := by rw [← hH]; exact hS
  generalize ([] : List Loc) = locs at hS ⊢
  refine lv_aload_n hx hb dX1_length_0 rfl (lv_at hl 0 rfl) ?_
  refine ef_callV (As := []) (rest := []) ⟨hx, hb, hml, hown, hts⟩ (c_isZero l dC dI ht hw hX) (cwV 0 hts gX1_length_X1_isZero rfl rfl rfl (by decide +kernel) ⟨Nat.le_of_ble_eq_true rfl, Nat.le_of_ble_eq_true rfl⟩) hK hNX hP hD hS k0 hw.2.1 rfl rfl rfl hl.1 rfl (Nat.le_of_ble_eq_true rfl) dX1_length_1 ⟨Nat.zero_le _, Nat.zero_le _⟩ (fun o w1 H locs hq hP hD hS => ?_)
  obtain ⟨rfl, e9⟩ := hq
  rw [e9] at hP hD
  refine W.eq (g2 := F0 m 4 ls [.int (iv (if X = 0 then 1 else 0))]) rfl ?_
  have hc0 : ir (if X = 0 then 1 else 0) := by split <;> exact ⟨by omega, by omega⟩
  refine iw_if_eq (tgt := 9) hx hb dX1_length_4 (by decide) (hc0) (fun c1 => ?_) (fun c1 => ?_)
  ·
    have hX0 : X ≠ 0 := fun q => by rw [if_pos q] at c1; exact absurd c1 (by decide)
    have hwl : wl X ≠ 0 := fun q => hX0 (wl_0.1 q)
    refine lv_aload_n hx hb dX1_length_9 rfl (lv_at hl 0 rfl) ?_
    refine lv_aload_n hx hb dX1_length_10 rfl (lv_at hl 0 rfl) ?_
    refine va_get (D := (dC, dI)) (ci := 1) (v := .int (iv ((wl X : Int)))) (C := RX1) (T := TX1) (N := 2) hx hb hts (by decide +kernel) hown hK hP k0 hw.2.1 rfl 1 (by decide) (hts (.fieldLink RX1 15 "ExactFractions$Whole" "used" "I") (by decide +kernel)) (fun _ h9 => h9) rfl dX1_length_11 ?_
    refine lv_iconst (v := iv (1)) hx hb dX1_length_14 (by decide) ?_
    refine iw_isub hx hb dX1_length_15 ?_
    refine iw_topi (y := iv (((wl X - 1 : Nat) : Int))) (congrArg iv (by omega : ((((wl X : Int)) - (1)) : Int) = (((wl X - 1 : Nat) : Int)))) ?_
    refine ef_callV (As := [.int (iv (((wl X - 1 : Nat) : Int)))]) (rest := []) ⟨hx, hb, hml, hown, hts⟩ (c_wordAt l dC dI ht hw ((wl X - 1 : Nat) : Int) ⟨by omega, by omega⟩) (cwV 1 hts gX1_length_X1_wordAt rfl rfl rfl (by decide +kernel) ⟨Nat.le_of_ble_eq_true rfl, Nat.le_of_ble_eq_true rfl⟩) hK hNX hP hD hS k0 hw.2.1 rfl rfl rfl hl.1 rfl (Nat.le_of_ble_eq_true rfl) dX1_length_16 ⟨Nat.zero_le _, Nat.zero_le _⟩ (fun o w1 H locs hq hP hD hS => ?_)
    obtain ⟨rfl, e9⟩ := hq
    rw [e9] at hP hD
    refine W.eq (g2 := F0 m 19 ls [.int (iv (wz (wd X) ((wl X - 1 : Nat) : Int)))]) rfl ?_
    refine iw_topi (y := iv ((wd X (wl X - 1) : Int))) (by rw [wz_in (by omega)]) ?_
    have htl := wd_lt X (wl X - 1)
    have hbw := bl_wl hX0
    have hb32 : bl (wd X (wl X - 1)) ≤ 32 := bl_le htl
    have htl0 := htl
    generalize hT : wd X (wl X - 1) = T at htl hbw hb32 ⊢
    refine lv_istore_n (lv' := [(1, .int (iv ((T : Int)))), (0, .ref h)]) hx hb dX1_length_19 rfl hl (by decide) rfl (fun ls hl => ?_)
    refine lv_iconst (v := iv (0)) hx hb dX1_length_20 (by decide) ?_
    refine lv_istore_n (lv' := [(2, .int (iv (0))), (1, .int (iv ((T : Int)))), (0, .ref h)]) hx hb dX1_length_21 rfl hl (by decide) rfl (fun ls hl => ?_)
    have loop : ∀ (fuel : Nat) (k : Nat), (k ≤ bl T) → (33 < k + fuel) → ∀ (H : Heap) (locs : List Loc) (ls : Array Slot), va_P (dC, dI) vwCl (ws) H → va_D (ef_A ws) (ws) → va_S (ef_A ws) s.heap H locs → lv_has ls 3 [(0, .ref h), (1, .int (iv ((T : Int)))), (2, .int (iv ((k : Int))))] → W p l e ({ frames := 1, cells := 0, slots := 0, locals := 21 } : Room) s m ([.ref h] : List Value).toArray below meth c H locs 0 0 (ef_R below (dC, dI) vwCl ws (fun o w1 => o = some (.int (iv (bl X : Int))) ∧ w1 = ws) [.ref h] s) (F0 m 22 ls []) := by
      intro fuel
      induction fuel with
      | zero => intro k g1 g2; exfalso; omega
      | succ fuel ih =>
        intro k g1 g2 H locs ls hP hD hS hl
        refine lv_iload_n hx hb dX1_length_22 rfl (lv_at hl 2 rfl) ?_
        refine lv_bipush (v := iv (32)) hx hb dX1_length_23 (by decide) ?_
        refine iw_icmp_ge (tgt := 40) hx hb dX1_length_25 (by decide) ⟨by omega, by omega⟩ ⟨by omega, by omega⟩ (fun c2 => ?_) (fun c2 => ?_)
        ·
          have hk : k = bl T := by omega
          refine lv_bipush (v := iv (32)) hx hb dX1_length_40 (by decide) ?_
          refine lv_aload_n hx hb dX1_length_42 rfl (lv_at hl 0 rfl) ?_
          refine va_get (D := (dC, dI)) (ci := 1) (v := .int (iv ((wl X : Int)))) (C := RX1) (T := TX1) (N := 2) hx hb hts (by decide +kernel) hown hK hP k0 hw.2.1 rfl 1 (by decide) (hts (.fieldLink RX1 15 "ExactFractions$Whole" "used" "I") (by decide +kernel)) (fun _ h9 => h9) rfl dX1_length_43 ?_
          refine lv_iconst (v := iv (1)) hx hb dX1_length_46 (by decide) ?_
          refine iw_isub hx hb dX1_length_47 ?_
          refine iw_imul hx hb dX1_length_48 ?_
          refine lv_iload_n hx hb dX1_length_49 rfl (lv_at hl 2 rfl) ?_
          refine iw_iadd hx hb dX1_length_50 ?_
          exact ef_iret hx hb hr hlocks hP hD hS dX1_length_51 (⟨by rw [hbw, ← hk]; exact congrArg (fun z => some (Value.int (iv z))) (by omega), rfl⟩)
        ·
          refine lv_iload_n hx hb dX1_length_28 rfl (lv_at hl 1 rfl) ?_
          refine lv_iload_n hx hb dX1_length_29 rfl (lv_at hl 2 rfl) ?_
          refine iw_iushr (a := T) (k := k) hx hb htl (by omega) dX1_length_30 ?_
          have hdl : T / 2 ^ k ≤ T := Nat.div_le_self _ _
          have hdv := bl_div T k
          have hdp : (0 : Int) ≤ ((T / 2 ^ k : Nat) : Int) := Int.natCast_nonneg _
          have hdq : ((T / 2 ^ k : Nat) : Int) < 4294967296 := by have := Int.ofNat_lt.mpr (Nat.lt_of_le_of_lt hdl htl); exact this
          have hd0 : ((T / 2 ^ k : Nat) : Int) = 0 ↔ T / 2 ^ k = 0 := Int.natCast_eq_zero
          refine iw_ifu_eq (tgt := 40) hx hb dX1_length_31 (by decide) (hdp) (hdq) (fun c3 => ?_) (fun c3 => ?_)
          ·
            have hk : k = bl T := by
              have q1 := hd0.1 c3
              have q2 : ¬ k < bl T := fun q => hdv.2 q q1
              omega
            refine lv_bipush (v := iv (32)) hx hb dX1_length_40 (by decide) ?_
            refine lv_aload_n hx hb dX1_length_42 rfl (lv_at hl 0 rfl) ?_
            refine va_get (D := (dC, dI)) (ci := 1) (v := .int (iv ((wl X : Int)))) (C := RX1) (T := TX1) (N := 2) hx hb hts (by decide +kernel) hown hK hP k0 hw.2.1 rfl 1 (by decide) (hts (.fieldLink RX1 15 "ExactFractions$Whole" "used" "I") (by decide +kernel)) (fun _ h9 => h9) rfl dX1_length_43 ?_
            refine lv_iconst (v := iv (1)) hx hb dX1_length_46 (by decide) ?_
            refine iw_isub hx hb dX1_length_47 ?_
            refine iw_imul hx hb dX1_length_48 ?_
            refine lv_iload_n hx hb dX1_length_49 rfl (lv_at hl 2 rfl) ?_
            refine iw_iadd hx hb dX1_length_50 ?_
            exact ef_iret hx hb hr hlocks hP hD hS dX1_length_51 (⟨by rw [hbw, ← hk]; exact congrArg (fun z => some (Value.int (iv z))) (by omega), rfl⟩)
          ·
            have c4 := hdv.1 (fun q => c3 (hd0.2 q))
            refine lv_iinc (v := iv (((k + 1 : Nat) : Int))) (lv' := [(2, .int (iv (((k + 1 : Nat) : Int)))), (0, .ref h), (1, .int (iv ((T : Int))))]) hx hb dX1_length_34 hl (k := 2) rfl (iv_inc k) (by decide) rfl (fun ls hl => ?_)
            refine lv_goto (tgt := 22) hx hb dX1_length_37 (by decide) ?_
            exact ih (k + 1) (by omega) (by omega) H locs ls hP hD hS (lv_sub hl [1, 2, 0] rfl)
    exact loop (34) (0) (Nat.zero_le _) (by omega) H locs ls hP hD hS (lv_sub hl [2, 1, 0] rfl)
  ·
    have hX0 : X = 0 := by
      by_cases q : X = 0
      · exact q
      · rw [if_neg q] at c1; exact absurd rfl c1
    refine lv_iconst (v := iv (0)) hx hb dX1_length_7 (by decide) ?_
    exact ef_iret hx hb hr hlocks hP hD hS dX1_length_8 (by rw [bl_0.2 hX0]; exact ⟨rfl, rfl⟩)

set_option maxRecDepth 100000 in
set_option maxHeartbeats 4000000 in
/-- order: the sign of the comparison -/
theorem c_order (l : Launch) (dC : Nat → ClassId) (dI : Nat → Nat → Nat) {cI : ClassId} {tys : List (ClassId × FieldType)} (ht : tys[0]? = some (cI, .int)) {ws : va_W} {k0 k1 h a X : Nat} (hw : isW ws k0 k1 h a cI (wl X : Int) (wd X)) (hX : wl X ≤ 301) {j0 j1 g b Y : Nat} (ho : isW ws j0 j1 g b cI (wl Y : Int) (wd Y)) (hY : wl Y ≤ 301) : ef_C l yX1_order wsX1_order ({ frames := 2, cells := 0, slots := 0, locals := 42 } : Room) [.ref h, .ref g] (dC, dI) vwCl tys ws (fun o w1 => o = some (.int (iv (zc X Y))) ∧ w1 = ws) := by
  refine ef_C.of (cc := cX1_order) (maxL := 5) (ret := (some .int)) (by decide) rfl (Nat.le_of_ble_eq_true rfl) ?_
  intro p e s m below meth c ls hx hb hml hr hts hown hlocks hK hNX hP hD hS hl
  have hl : lv_has ls 5 [(0, .ref h), (1, .ref g)] := hl
  have hown : s.vm.findClass RX1 = some m.cls := hown
  generalize hH : s.heap = H at hP ⊢
  have hS : va_S (ef_A ws) s.heap H [] := by rw [← hH]; exact hS
  generalize ([] : List Loc) = locs at hS ⊢
  refine lv_aload_n hx hb dX1_order_0 rfl (lv_at hl 0 rfl) ?_
  refine va_get (D := (dC, dI)) (ci := 1) (v := .int (iv ((wl X : Int)))) (C := RX1) (T := TX1) (N := 2) hx hb hts (by decide +kernel) hown hK hP k0 hw.2.1 rfl 1 (by decide) (hts (.fieldLink RX1 15 "ExactFractions$Whole" "used" "I") (by decide +kernel)) (fun _ h9 => h9) rfl dX1_order_1 ?_
  refine lv_aload_n hx hb dX1_order_4 rfl (lv_at hl 1 rfl) ?_
  refine va_get (D := (dC, dI)) (ci := 1) (v := .int (iv ((wl Y : Int)))) (C := RX1) (T := TX1) (N := 2) hx hb hts (by decide +kernel) hown hK hP j0 ho.2.1 rfl 1 (by decide) (hts (.fieldLink RX1 15 "ExactFractions$Whole" "used" "I") (by decide +kernel)) (fun _ h9 => h9) rfl dX1_order_5 ?_
  refine iw_mmax hx hb (hml.trans hl.1.symm) hown (hts (.methodLink RX1 39 Lib.Math.max.name) (by decide +kernel)) (hts (.static Lib.Math.max.name) (by decide +kernel)) (hts (.initialized "java/lang/Math") (by decide +kernel)) (hts (.code Lib.Math.max.name Lib.Math.max.code 2 (some .int)) (by decide +kernel)) (Nat.le_of_ble_eq_true rfl) (Nat.le_of_ble_eq_true rfl) (Nat.zero_le _) (Nat.zero_le _) ⟨by omega, by omega⟩ ⟨by omega, by omega⟩ dX1_order_8 ?_
  refine iw_topi (y := iv (((max (wl X) (wl Y) : Nat) : Int))) (congrArg iv (by split <;> omega : ((if ((wl X : Int)) < ((wl Y : Int)) then ((wl Y : Int)) else ((wl X : Int))) : Int) = (((max (wl X) (wl Y) : Nat) : Int)))) ?_
  obtain ⟨M, hM⟩ : ∃ M, M = max (wl X) (wl Y) := ⟨_, rfl⟩
  rw [← hM]
  refine lv_iconst (v := iv (1)) hx hb dX1_order_11 (by decide) ?_
  refine iw_isub hx hb dX1_order_12 ?_
  refine lv_istore_n (lv' := [(2, .int (iv (((M : Int)) - (1)))), (0, .ref h), (1, .ref g)]) hx hb dX1_order_13 rfl hl (by decide) rfl (fun ls hl => ?_)
  have loop : ∀ (fuel : Nat) (n : Nat), (n ≤ 301) → (X / 2 ^ (32 * n) = Y / 2 ^ (32 * n)) → (n < fuel) → ∀ (H : Heap) (locs : List Loc) (ls : Array Slot), va_P (dC, dI) vwCl (ws) H → va_D (ef_A ws) (ws) → va_S (ef_A ws) s.heap H locs → lv_has ls 5 [(0, .ref h), (1, .ref g), (2, .int (iv ((n : Int) - 1)))] → W p l e ({ frames := 2, cells := 0, slots := 0, locals := 42 } : Room) s m ([.ref h, .ref g] : List Value).toArray below meth c H locs 0 0 (ef_R below (dC, dI) vwCl ws (fun o w1 => o = some (.int (iv (zc X Y))) ∧ w1 = ws) [.ref h, .ref g] s) (F0 m 14 ls []) := by
    intro fuel
    induction fuel with
    | zero => intro n g1 g2 g3; exfalso; omega
    | succ fuel ih =>
      intro n g1 g2 g3 H locs ls hP hD hS hl
      refine lv_iload_n hx hb dX1_order_14 rfl (lv_at hl 2 rfl) ?_
      refine iw_if_lt (tgt := 54) hx hb dX1_order_15 (by decide) ⟨by omega, by omega⟩ (fun c1 => ?_) (fun c1 => ?_)
      ·
        have n0 : n = 0 := by omega
        subst n0
        rw [Nat.mul_zero, Nat.pow_zero, Nat.div_one, Nat.div_one] at g2
        refine lv_iconst (v := iv (0)) hx hb dX1_order_54 (by decide) ?_
        exact ef_iret hx hb hr hlocks hP hD hS dX1_order_55 (by unfold zc; rw [if_neg (by omega), if_pos (by omega)]; exact ⟨rfl, rfl⟩)
      ·
        obtain ⟨r, rfl⟩ : ∃ r : Nat, n = r + 1 := ⟨n - 1, by omega⟩
        have hdx := wd_div X r
        have hdy := wd_div Y r
        have hx1 := wd_lt X r
        have hy1 := wd_lt Y r
        refine lv_aload_n hx hb dX1_order_18 rfl (lv_at hl 0 rfl) ?_
        refine lv_iload_n hx hb dX1_order_19 rfl (lv_at hl 2 rfl) ?_
        refine iw_topi (y := iv ((r : Int))) (congrArg iv (by omega : ((((r + 1 : Nat) : Int) - 1) : Int) = ((r : Int)))) ?_
        refine ef_callV (As := [.int (iv ((r : Int)))]) (rest := []) ⟨hx, hb, hml, hown, hts⟩ (c_valueAt l dC dI ht hw (wd_lt X) (r : Int) ⟨by omega, by omega⟩) (cwV 1 hts gX1_order_X1_valueAt rfl rfl rfl (by decide +kernel) ⟨Nat.le_of_ble_eq_true rfl, Nat.le_of_ble_eq_true rfl⟩) hK hNX hP hD hS k0 hw.2.1 rfl rfl rfl hl.1 rfl (Nat.le_of_ble_eq_true rfl) dX1_order_20 ⟨Nat.zero_le _, Nat.zero_le _⟩ (fun o w1 H locs hq hP hD hS => ?_)
        obtain ⟨rfl, e9⟩ := hq
        rw [e9] at hP hD
        refine W.eq (g2 := F0 m 23 ls [.long (jv (wz (wd X) (r : Int)))]) rfl ?_
        refine iw_topl (y := jv ((wd X r : Int))) (by rw [wz_in (by omega)]) ?_
        refine lv_aload_n hx hb dX1_order_23 rfl (lv_at hl 1 rfl) ?_
        refine lv_iload_n hx hb dX1_order_24 rfl (lv_at hl 2 rfl) ?_
        refine iw_topi (y := iv ((r : Int))) (congrArg iv (by omega : ((((r + 1 : Nat) : Int) - 1) : Int) = ((r : Int)))) ?_
        refine ef_callV (As := [.int (iv ((r : Int)))]) (rest := [.long (jv ((wd X r : Int)))]) ⟨hx, hb, hml, hown, hts⟩ (c_valueAt l dC dI ht ho (wd_lt Y) (r : Int) ⟨by omega, by omega⟩) (cwV 1 hts gX1_order_X1_valueAt rfl rfl rfl (by decide +kernel) ⟨Nat.le_of_ble_eq_true rfl, Nat.le_of_ble_eq_true rfl⟩) hK hNX hP hD hS j0 ho.2.1 rfl rfl rfl hl.1 rfl (Nat.le_of_ble_eq_true rfl) dX1_order_25 ⟨Nat.zero_le _, Nat.zero_le _⟩ (fun o w1 H locs hq hP hD hS => ?_)
        obtain ⟨rfl, e9⟩ := hq
        rw [e9] at hP hD
        refine W.eq (g2 := F0 m 28 ls [.long (jv (wz (wd Y) (r : Int))), .long (jv ((wd X r : Int)))]) rfl ?_
        refine iw_topl (y := jv ((wd Y r : Int))) (by rw [wz_in (by omega)]) ?_
        refine iw_lsub hx hb dX1_order_28 ?_
        refine lv_lstore_n (lv' := [(3, .long (jv (((wd X r : Int)) - ((wd Y r : Int))))), (0, .ref h), (1, .ref g), (2, .int (iv (((r + 1 : Nat) : Int) - 1)))]) hx hb dX1_order_29 rfl hl (by decide) rfl (fun ls hl => ?_)
        refine lv_lload_n hx hb dX1_order_30 rfl (lv_at hl 0 rfl) ?_
        refine lv_lconst (v := jv (0)) hx hb dX1_order_31 (by decide) ?_
        refine iw_lcmp hx hb (⟨by omega, by omega⟩) (⟨by omega, by omega⟩) dX1_order_32 ?_
        refine iw_if_eq (tgt := 48) hx hb dX1_order_33 (by decide) (ir_zc _ _) (fun c2 => ?_) (fun c2 => ?_)
        ·
          have c3 := (zc_0 _ _).1 c2
          refine lv_iinc (v := iv ((r : Int) - 1)) (lv' := [(2, .int (iv ((r : Int) - 1))), (3, .long (jv (((wd X r : Int)) - ((wd Y r : Int))))), (0, .ref h), (1, .ref g)]) hx hb dX1_order_48 hl (k := 3) rfl (by rw [show ((r + 1 : Nat) : Int) - 1 = (r : Int) by omega]; exact iv_add (r : Int) (-1)) (by decide) rfl (fun ls hl => ?_)
          refine lv_goto (tgt := 14) hx hb dX1_order_51 (by decide) ?_
          exact ih (r) (by omega) (by rw [hdx, hdy, g2]; omega) (by omega) H locs ls hP hD hS (lv_sub hl [2, 3, 0] rfl)
        ·
          have c3 : ((wd X r : Int) - (wd Y r : Int)) ≠ 0 := fun q => c2 ((zc_0 _ _).2 q)
          refine lv_lload_n hx hb dX1_order_36 rfl (lv_at hl 0 rfl) ?_
          refine lv_lconst (v := jv (0)) hx hb dX1_order_37 (by decide) ?_
          refine iw_lcmp hx hb (⟨by omega, by omega⟩) (⟨by omega, by omega⟩) dX1_order_38 ?_
          refine iw_if_ge (tgt := 46) hx hb dX1_order_39 (by decide) (ir_zc _ _) (fun c4 => ?_) (fun c4 => ?_)
          ·
            have c5 := (zc_ge _ _).1 c4
            have c6 : Y < X := div_lt_of (P := 2 ^ (32 * r)) (by rw [hdx, hdy, g2]; omega)
            refine lv_iconst (v := iv (1)) hx hb dX1_order_46 (by decide) ?_
            exact ef_iret hx hb hr hlocks hP hD hS dX1_order_47 (by rw [zc_gt (by omega)]; exact ⟨rfl, rfl⟩)
          ·
            have c5 : ¬ (0 ≤ (wd X r : Int) - (wd Y r : Int)) := fun q => absurd ((zc_ge _ _).2 q) (by omega)
            have c6 : X < Y := div_lt_of (P := 2 ^ (32 * r)) (by rw [hdx, hdy, g2]; omega)
            refine lv_iconst (v := iv (-1)) hx hb dX1_order_42 (by decide) ?_
            refine lv_goto (tgt := 47) hx hb dX1_order_43 (by decide) ?_
            exact ef_iret hx hb hr hlocks hP hD hS dX1_order_47 (by rw [zc_lt (by omega)]; exact ⟨rfl, rfl⟩)
  exact loop (302) (M) (by omega) (by rw [Nat.div_eq_of_lt (Nat.lt_of_lt_of_le (wl_lt X) (Nat.pow_le_pow_right (by decide) (by omega))), Nat.div_eq_of_lt (Nat.lt_of_lt_of_le (wl_lt Y) (Nat.pow_le_pow_right (by decide) (by omega)))]) (by omega) H locs ls hP hD hS (lv_sub hl [1, 2, 0] rfl)

set_option maxRecDepth 100000 in
set_option maxHeartbeats 4000000 in
/-- become(v): v without sign -/
theorem c_become (l : Launch) (dC : Nat → ClassId) (dI : Nat → Nat → Nat) {cI : ClassId} {tys : List (ClassId × FieldType)} (ht : tys[0]? = some (cI, .int)) {ws : va_W} {k0 k1 h a n : Nat} {F : Nat → Nat} (hw : isW ws k0 k1 h a cI (n : Int) F) (hn : n ≤ 301) (hF : ∀ j, F j < 4294967296) (hz : ∀ j, n ≤ j → j < 301 → F j = 0) (v : Nat) (hv : v < 18446744073709551616) : ef_C l yX1_become wsX1_become ({ frames := 2, cells := 0, slots := 0, locals := 45 } : Room) [.ref h, .long (jv ((v : Int)))] (dC, dI) vwCl tys ws (fun o w1 => o = none ∧ w1 = wW ws k0 k1 h a cI (wl (v) : Int) (wd (v))) := by
  refine ef_C.of (cc := cX1_become) (maxL := 3) (ret := none) (by decide) rfl (Nat.le_of_ble_eq_true rfl) ?_
  intro p e s m below meth c ls hx hb hml hr hts hown hlocks hK hNX hP hD hS hl
  have hl : lv_has ls 3 [(0, .ref h), (1, .long (jv ((v : Int))))] := hl
  have hown : s.vm.findClass RX1 = some m.cls := hown
  generalize hH : s.heap = H at hP ⊢
  have hS : va_S (ef_A ws) s.heap H [] := by rw [← hH]; exact hS
  generalize ([] : List Loc) = locs at hS ⊢
  have hw0 := hw
  have hP := efP0 hw0 hP
  have hD := efD0 hw0 hD
  have hw : isW (wW ws k0 k1 h a cI ((n : Int)) (F)) k0 k1 h a cI ((n : Int)) (F) := hw0.w _ _
  refine lv_aload_n hx hb dX1_become_0 rfl (lv_at hl 0 rfl) ?_
  refine lv_iconst (v := iv (0)) hx hb dX1_become_1 (by decide) ?_
  refine lv_lload_n hx hb dX1_become_2 rfl (lv_at hl 1 rfl) ?_
  refine ef_callV (As := [.int (iv (0)), .long (jv ((v : Int)))]) (rest := []) ⟨hx, hb, hml, hown, hts⟩ (c_put l dC dI ht hw 0 ⟨by omega, by omega⟩ (v : Int)) (cwV 2 hts gX1_become_X1_put rfl rfl rfl (by decide +kernel) ⟨Nat.le_of_ble_eq_true rfl, Nat.le_of_ble_eq_true rfl⟩) hK hNX hP hD hS k0 hw.2.1 rfl rfl rfl hl.1 rfl (Nat.le_of_ble_eq_true rfl) dX1_become_3 ⟨Nat.zero_le _, Nat.zero_le _⟩ (fun o w1 H locs hq hP hD hS => ?_)
  obtain ⟨rfl, rfl⟩ := hq
  have hP := efP2 hw0.1 hP
  have hD := efD2 hw0.1 hD
  have hw : isW (wW ws k0 k1 h a cI ((n : Int)) (wp F 0 (v : Int))) k0 k1 h a cI ((n : Int)) (wp F 0 (v : Int)) := hw0.w _ _
  refine W.eq (g2 := F0 m 6 ls []) rfl ?_
  refine lv_aload_n hx hb dX1_become_6 rfl (lv_at hl 0 rfl) ?_
  refine lv_iconst (v := iv (1)) hx hb dX1_become_7 (by decide) ?_
  refine lv_lload_n hx hb dX1_become_8 rfl (lv_at hl 1 rfl) ?_
  refine lv_bipush (v := iv (32)) hx hb dX1_become_9 (by decide) ?_
  refine iw_lushr hx hb (by omega) (by omega) dX1_become_11 ?_
  refine ef_callV (As := [.int (iv (1)), .long (jv (((v : Int)) / 4294967296))]) (rest := []) ⟨hx, hb, hml, hown, hts⟩ (c_put l dC dI ht hw 1 ⟨by omega, by omega⟩ ((v : Int) / 4294967296)) (cwV 2 hts gX1_become_X1_put rfl rfl rfl (by decide +kernel) ⟨Nat.le_of_ble_eq_true rfl, Nat.le_of_ble_eq_true rfl⟩) hK hNX hP hD hS k0 hw.2.1 rfl rfl rfl hl.1 rfl (Nat.le_of_ble_eq_true rfl) dX1_become_12 ⟨Nat.zero_le _, Nat.zero_le _⟩ (fun o w1 H locs hq hP hD hS => ?_)
  obtain ⟨rfl, rfl⟩ := hq
  have hP := efP2 hw0.1 hP
  have hD := efD2 hw0.1 hD
  have hw : isW (wW ws k0 k1 h a cI ((n : Int)) (wp (wp F 0 (v : Int)) 1 ((v : Int) / 4294967296))) k0 k1 h a cI ((n : Int)) (wp (wp F 0 (v : Int)) 1 ((v : Int) / 4294967296)) := hw0.w _ _
  refine W.eq (g2 := F0 m 15 ls []) rfl ?_
  have hF1 := wp_lt (wp_lt hF 0 (v : Int)) 1 ((v : Int) / 4294967296)
  have hz1 : ∀ j, 2 ≤ j → n ≤ j → j < 301 → wp (wp F 0 (v : Int)) 1 ((v : Int) / 4294967296) j = 0 := fun j q1 q2 q3 => by rw [wp_ne (by omega), wp_ne (by omega)]; exact hz j q2 q3
  have hv1 : nv (wp (wp F 0 (v : Int)) 1 ((v : Int) / 4294967296)) (min 2 301) = v := become_val F v hv
  refine lv_aload_n hx hb dX1_become_15 rfl (lv_at hl 0 rfl) ?_
  refine lv_iconst (v := iv (2)) hx hb dX1_become_16 (by decide) ?_
  refine iw_topi (y := iv (((2 : Nat) : Int))) (congrArg iv (by omega : ((2) : Int) = (((2 : Nat) : Int)))) ?_
  refine ef_callV (As := [.int (iv (((2 : Nat) : Int)))]) (rest := []) ⟨hx, hb, hml, hown, hts⟩ (c_settle l dC dI ht hw hn hF1 2 (by omega) hz1) (cwV 1 hts gX1_become_X1_settle rfl rfl rfl (by decide +kernel) ⟨Nat.le_of_ble_eq_true rfl, Nat.le_of_ble_eq_true rfl⟩) hK hNX hP hD hS k0 hw.2.1 rfl rfl rfl hl.1 rfl (Nat.le_of_ble_eq_true rfl) dX1_become_17 ⟨Nat.zero_le _, Nat.zero_le _⟩ (fun o w1 H locs hq hP hD hS => ?_)
  rw [hv1] at hq
  obtain ⟨rfl, rfl⟩ := hq
  have hP := efP2 hw0.1 hP
  have hD := efD2 hw0.1 hD
  have hw : isW (wW ws k0 k1 h a cI ((wl v : Int)) (wd v)) k0 k1 h a cI ((wl v : Int)) (wd v) := hw0.w _ _
  refine W.eq (g2 := F0 m 20 ls []) rfl ?_
  exact ef_vret hx hb hr hlocks hP hD hS dX1_become_20 (⟨rfl, rfl⟩)

set_option maxRecDepth 100000 in
set_option maxHeartbeats 4000000 in
/-- copy(other) -/
theorem c_copy (l : Launch) (dC : Nat → ClassId) (dI : Nat → Nat → Nat) {cI : ClassId} {tys : List (ClassId × FieldType)} (ht : tys[0]? = some (cI, .int)) {ws : va_W} {k0 k1 h a n : Nat} {F : Nat → Nat} (hw : isW ws k0 k1 h a cI (n : Int) F) (hn : n ≤ 301) (hF : ∀ j, F j < 4294967296) (hz : ∀ j, n ≤ j → j < 301 → F j = 0) {j0 j1 g b Y : Nat} (ho : isW ws j0 j1 g b cI (wl Y : Int) (wd Y)) (hY : wl Y ≤ 301) (hoa : apt k0 k1 j0 j1) : ef_C l yX1_copy wsX1_copy ({ frames := 2, cells := 0, slots := 0, locals := 45 } : Room) [.ref h, .ref g] (dC, dI) vwCl tys ws (fun o w1 => o = none ∧ w1 = wW ws k0 k1 h a cI (wl (Y) : Int) (wd (Y))) := by
  refine ef_C.of (cc := cX1_copy) (maxL := 3) (ret := none) (by decide) rfl (Nat.le_of_ble_eq_true rfl) ?_
  intro p e s m below meth c ls hx hb hml hr hts hown hlocks hK hNX hP hD hS hl
  have hl : lv_has ls 3 [(0, .ref h), (1, .ref g)] := hl
  have hown : s.vm.findClass RX1 = some m.cls := hown
  generalize hH : s.heap = H at hP ⊢
  have hS : va_S (ef_A ws) s.heap H [] := by rw [← hH]; exact hS
  generalize ([] : List Loc) = locs at hS ⊢
  have hw0 := hw
  have ho0 := ho
  have hP := efP0 hw0 hP
  have hD := efD0 hw0 hD
  have hw : isW (wW ws k0 k1 h a cI ((n : Int)) (F)) k0 k1 h a cI ((n : Int)) (F) := hw0.w _ _
  have ho := ho0.o hoa (wo h a ((n : Int))) (wa cI a (F))
  refine lv_iconst (v := iv (0)) hx hb dX1_copy_0 (by decide) ?_
  refine lv_istore_n (lv' := [(2, .int (iv (0))), (0, .ref h), (1, .ref g)]) hx hb dX1_copy_1 rfl hl (by decide) rfl (fun ls hl => ?_)
  have loop : ∀ (fuel : Nat) (i : Nat) (G : Nat → Nat), (i ≤ wl Y) → (∀ j, G j < 4294967296) → (∀ j, j < i → G j = wd Y j) → (∀ j, i ≤ j → G j = F j) → (wl Y < i + fuel) → ∀ (H : Heap) (locs : List Loc) (ls : Array Slot), va_P (dC, dI) vwCl (wW ws k0 k1 h a cI (n : Int) G) H → va_D (ef_A ws) (wW ws k0 k1 h a cI (n : Int) G) → va_S (ef_A ws) s.heap H locs → lv_has ls 3 [(0, .ref h), (1, .ref g), (2, .int (iv ((i : Int))))] → W p l e ({ frames := 2, cells := 0, slots := 0, locals := 45 } : Room) s m ([.ref h, .ref g] : List Value).toArray below meth c H locs 0 0 (ef_R below (dC, dI) vwCl ws (fun o w1 => o = none ∧ w1 = wW ws k0 k1 h a cI (wl (Y) : Int) (wd (Y))) [.ref h, .ref g] s) (F0 m 2 ls []) := by
    intro fuel
    induction fuel with
    | zero => intro i G h1 h2 h3 h4 h5; exfalso; omega
    | succ fuel ih =>
      intro i G h1 h2 h3 h4 h5 H locs ls hP hD hS hl
      have hw : isW (wW ws k0 k1 h a cI ((n : Int)) (G)) k0 k1 h a cI ((n : Int)) (G) := hw0.w _ _
      have ho := ho0.o hoa (wo h a ((n : Int))) (wa cI a (G))
      refine lv_iload_n hx hb dX1_copy_2 rfl (lv_at hl 2 rfl) ?_
      refine lv_aload_n hx hb dX1_copy_3 rfl (lv_at hl 1 rfl) ?_
      refine va_get (D := (dC, dI)) (ci := 1) (v := .int (iv ((wl Y : Int)))) (C := RX1) (T := TX1) (N := 2) hx hb hts (by decide +kernel) hown hK hP j0 ho.2.1 rfl 1 (by decide) (hts (.fieldLink RX1 15 "ExactFractions$Whole" "used" "I") (by decide +kernel)) (fun _ h9 => h9) rfl dX1_copy_4 ?_
      refine iw_icmp_ge (tgt := 27) hx hb dX1_copy_7 (by decide) ⟨by omega, by omega⟩ ⟨by omega, by omega⟩ (fun c1 => ?_) (fun c1 => ?_)
      ·
        have hi : i = wl Y := by omega
        have hv : nv G (min (wl Y) 301) = Y := by rw [show min (wl Y) 301 = wl Y by omega, nv_cong (G := wd Y) (fun j hj => h3 j (by omega)), nv_self]
        refine lv_aload_n hx hb dX1_copy_27 rfl (lv_at hl 0 rfl) ?_
        refine lv_aload_n hx hb dX1_copy_28 rfl (lv_at hl 1 rfl) ?_
        refine va_get (D := (dC, dI)) (ci := 1) (v := .int (iv ((wl Y : Int)))) (C := RX1) (T := TX1) (N := 2) hx hb hts (by decide +kernel) hown hK hP j0 ho.2.1 rfl 1 (by decide) (hts (.fieldLink RX1 15 "ExactFractions$Whole" "used" "I") (by decide +kernel)) (fun _ h9 => h9) rfl dX1_copy_29 ?_
        refine ef_callV (As := [.int (iv ((wl Y : Int)))]) (rest := []) ⟨hx, hb, hml, hown, hts⟩ (c_settle l dC dI ht hw hn h2 (wl Y) (by omega) (fun j q1 q2 q3 => by rw [h4 j (by omega)]; exact hz j q2 q3)) (cwV 1 hts gX1_copy_X1_settle rfl rfl rfl (by decide +kernel) ⟨Nat.le_of_ble_eq_true rfl, Nat.le_of_ble_eq_true rfl⟩) hK hNX hP hD hS k0 hw.2.1 rfl rfl rfl hl.1 rfl (Nat.le_of_ble_eq_true rfl) dX1_copy_32 ⟨Nat.zero_le _, Nat.zero_le _⟩ (fun o w1 H locs hq hP hD hS => ?_)
        rw [hv] at hq
        obtain ⟨rfl, rfl⟩ := hq
        have hP := efP2 hw0.1 hP
        have hD := efD2 hw0.1 hD
        have hw : isW (wW ws k0 k1 h a cI ((wl Y : Int)) (wd Y)) k0 k1 h a cI ((wl Y : Int)) (wd Y) := hw0.w _ _
        have ho := ho0.o hoa (wo h a ((wl Y : Int))) (wa cI a (wd Y))
        refine W.eq (g2 := F0 m 35 ls []) rfl ?_
        exact ef_vret hx hb hr hlocks hP hD hS dX1_copy_35 (⟨rfl, rfl⟩)
      ·
        refine lv_aload_n hx hb dX1_copy_10 rfl (lv_at hl 0 rfl) ?_
        refine lv_iload_n hx hb dX1_copy_11 rfl (lv_at hl 2 rfl) ?_
        refine lv_aload_n hx hb dX1_copy_12 rfl (lv_at hl 1 rfl) ?_
        refine lv_iload_n hx hb dX1_copy_13 rfl (lv_at hl 2 rfl) ?_
        refine ef_callV (As := [.int (iv ((i : Int)))]) (rest := [.int (iv ((i : Int))), .ref h]) ⟨hx, hb, hml, hown, hts⟩ (c_wordAt l dC dI ht ho (i : Int) ⟨by omega, by omega⟩) (cwV 1 hts gX1_copy_X1_wordAt rfl rfl rfl (by decide +kernel) ⟨Nat.le_of_ble_eq_true rfl, Nat.le_of_ble_eq_true rfl⟩) hK hNX hP hD hS j0 ho.2.1 rfl rfl rfl hl.1 rfl (Nat.le_of_ble_eq_true rfl) dX1_copy_14 ⟨Nat.zero_le _, Nat.zero_le _⟩ (fun o w1 H locs hq hP hD hS => ?_)
        obtain ⟨rfl, e9⟩ := hq
        rw [e9] at hP hD
        refine W.eq (g2 := F0 m 17 ls [.int (iv (wz (wd Y) (i : Int))), .int (iv ((i : Int))), .ref h]) rfl ?_
        refine iw_topi (y := iv ((wd Y i : Int))) (by rw [wz_in (by omega)]) ?_
        refine iw_topi (y := iv ((iv (wd Y i)).toInt)) ((iv_of _).symm) ?_
        refine iw_i2l hx hb (ir_of _) dX1_copy_17 ?_
        refine ef_callV (As := [.int (iv ((i : Int))), .long (jv ((iv (wd Y i)).toInt))]) (rest := []) ⟨hx, hb, hml, hown, hts⟩ (c_put l dC dI ht hw (i : Int) ⟨by omega, by omega⟩ ((iv (wd Y i)).toInt)) (cwV 2 hts gX1_copy_X1_put rfl rfl rfl (by decide +kernel) ⟨Nat.le_of_ble_eq_true rfl, Nat.le_of_ble_eq_true rfl⟩) hK hNX hP hD hS k0 hw.2.1 rfl rfl rfl hl.1 rfl (Nat.le_of_ble_eq_true rfl) dX1_copy_18 ⟨Nat.zero_le _, Nat.zero_le _⟩ (fun o w1 H locs hq hP hD hS => ?_)
        obtain ⟨rfl, rfl⟩ := hq
        have hP := efP2 hw0.1 hP
        have hD := efD2 hw0.1 hD
        have hw : isW (wW ws k0 k1 h a cI ((n : Int)) (wp G (i : Int) ((iv (wd Y i)).toInt))) k0 k1 h a cI ((n : Int)) (wp G (i : Int) ((iv (wd Y i)).toInt)) := hw0.w _ _
        have ho := ho0.o hoa (wo h a ((n : Int))) (wa cI a (wp G (i : Int) ((iv (wd Y i)).toInt)))
        refine W.eq (g2 := F0 m 21 ls []) rfl ?_
        refine lv_iinc (v := iv (((i + 1 : Nat) : Int))) (lv' := [(2, .int (iv (((i + 1 : Nat) : Int)))), (0, .ref h), (1, .ref g)]) hx hb dX1_copy_21 hl (k := 2) rfl (iv_inc i) (by decide) rfl (fun ls hl => ?_)
        refine lv_goto (tgt := 2) hx hb dX1_copy_24 (by decide) ?_
        have hyl := wd_lt Y i
        exact ih (i + 1) (wp G (i : Int) ((iv (wd Y i)).toInt)) (by omega) (wp_lt h2 _ _) (fun j hj => by
              by_cases e : j = i
              · subst e; rw [wp_in _ (by omega), ef_up_at, iv_emod]; omega
              · rw [wp_ne (by omega)]; exact h3 j (by omega)) (fun j hj => by rw [wp_ne (by omega)]; exact h4 j (by omega)) (by omega) H locs ls hP hD hS (lv_sub hl [1, 2, 0] rfl)
  exact loop (wl Y + 1) (0) (F) (Nat.zero_le _) (hF) (fun j hj => absurd hj (by omega)) (fun j _ => rfl) (by omega) H locs ls hP hD hS (lv_sub hl [1, 2, 0] rfl)
