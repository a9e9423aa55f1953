set_option maxRecDepth 100000 in
set_option maxHeartbeats 4000000 in
/-- wordAt(i): the word, 0 outside -/
theorem c_wordAt (l : Launch) (dC : Nat → ClassId) (dI : Nat → Nat → Nat) {cI : ClassId} {tys : List (ClassId × FieldType)} (ht : tys[0]? = some (cI, .int)) {ws : va_W} {k0 k1 h a : Nat} {u : Int} {F : Nat → Nat} (hw : isW ws k0 k1 h a cI u F) (i : Int) (hi : ir i) : ef_C l yX1_wordAt wsX1_wordAt ({ frames := 0, cells := 0, slots := 0, locals := 0 } : Room) [.ref h, .int (iv (i))] (dC, dI) vwCl tys ws (fun o w1 => o = some (.int (iv (wz F i))) ∧ w1 = ws) := by
  have hi0 := hi
  obtain ⟨hi1, hi2⟩ := hi
  refine ef_C.of (cc := cX1_wordAt) (maxL := 2) (ret := (some .int)) (by decide) rfl (Nat.le_of_ble_eq_true rfl) ?_
  intro p e s m below meth c ls hx hb hml hr hts hown hlocks hK hNX hP hD hS hl
  have hl : lv_has ls 2 [(0, .ref h), (1, .int (iv (i)))] := hl
  have hown : s.vm.findClass RX1 = some m.cls := hown
  generalize hH : s.heap = H at hP ⊢
  have hS : va_S (ef_A ws) s.heap H [] := by rw [← hH]; exact hS
  generalize ([] : List Loc) = locs at hS ⊢
  refine lv_iload_n hx hb dX1_wordAt_0 rfl (lv_at hl 1 rfl) ?_
  refine iw_if_lt (tgt := 22) hx hb dX1_wordAt_1 (by decide) (hi0) (fun c1 => ?_) (fun c1 => ?_)
  ·
    refine lv_iconst (v := iv (0)) hx hb dX1_wordAt_22 (by decide) ?_
    exact ef_iret hx hb hr hlocks hP hD hS dX1_wordAt_23 (by rw [wz_out (Or.inl c1)]; exact ⟨rfl, rfl⟩)
  ·
    refine lv_iload_n hx hb dX1_wordAt_4 rfl (lv_at hl 1 rfl) ?_
    refine lv_aload_n hx hb dX1_wordAt_5 rfl (lv_at hl 0 rfl) ?_
    refine va_get (D := (dC, dI)) (ci := 1) (v := .ref a) (C := RX1) (T := TX1) (N := 2) hx hb hts (by decide +kernel) hown hK hP k0 hw.2.1 rfl 0 (by decide) (hts (.fieldLink RX1 9 "ExactFractions$Whole" "words" "[I") (by decide +kernel)) (fun _ h9 => h9) rfl dX1_wordAt_6 ?_
    refine va_alen (v := iv (301)) hx hb hK hP k1 0 hw.2.2 ht rfl dX1_wordAt_9 ?_
    refine iw_icmp_ge (tgt := 22) hx hb dX1_wordAt_10 (by decide) (hi0) ⟨by omega, by omega⟩ (fun c2 => ?_) (fun c2 => ?_)
    ·
      refine lv_iconst (v := iv (0)) hx hb dX1_wordAt_22 (by decide) ?_
      exact ef_iret hx hb hr hlocks hP hD hS dX1_wordAt_23 (by rw [wz_out (Or.inr c2)]; exact ⟨rfl, rfl⟩)
    ·
      obtain ⟨n, rfl⟩ : ∃ n : Nat, i = n := ⟨i.toNat, by omega⟩
      refine lv_aload_n hx hb dX1_wordAt_13 rfl (lv_at hl 0 rfl) ?_
      refine va_get (D := (dC, dI)) (ci := 1) (v := .ref a) (C := RX1) (T := TX1) (N := 2) hx hb hts (by decide +kernel) hown hK hP k0 hw.2.1 rfl 0 (by decide) (hts (.fieldLink RX1 9 "ExactFractions$Whole" "words" "[I") (by decide +kernel)) (fun _ h9 => h9) rfl dX1_wordAt_14 ?_
      refine lv_iload_n hx hb dX1_wordAt_17 rfl (lv_at hl 1 rfl) ?_
      refine iw_iald (i := n) hx hb hK hP k1 0 hw.2.2 ht (by omega) (by decide) dX1_wordAt_18 ?_
      refine lv_goto (tgt := 23) hx hb dX1_wordAt_19 (by decide) ?_
      exact ef_iret hx hb hr hlocks hP hD hS dX1_wordAt_23 (by rw [wz_in (by omega)]; exact ⟨rfl, rfl⟩)

set_option maxRecDepth 100000 in
set_option maxHeartbeats 4000000 in
/-- valueAt(i): the word without sign -/
theorem c_valueAt (l : Launch) (dC : Nat → ClassId) (dI : Nat → Nat → Nat) {cI : ClassId} {tys : List (ClassId × FieldType)} (ht : tys[0]? = some (cI, .int)) {ws : va_W} {k0 k1 h a : Nat} {u : Int} {F : Nat → Nat} (hw : isW ws k0 k1 h a cI u F) (hF : ∀ j, F j < 4294967296) (i : Int) (hi : ir i) : ef_C l yX1_valueAt wsX1_valueAt ({ frames := 1, cells := 0, slots := 0, locals := 21 } : Room) [.ref h, .int (iv (i))] (dC, dI) vwCl tys ws (fun o w1 => o = some (.long (jv (wz F i))) ∧ w1 = ws) := by
  refine ef_C.of (cc := cX1_valueAt) (maxL := 2) (ret := (some .long)) (by decide) rfl (Nat.le_of_ble_eq_true rfl) ?_
  intro p e s m below meth c ls hx hb hml hr hts hown hlocks hK hNX hP hD hS hl
  have hl : lv_has ls 2 [(0, .ref h), (1, .int (iv (i)))] := hl
  have hown : s.vm.findClass RX1 = some m.cls := hown
  generalize hH : s.heap = H at hP ⊢
  have hS : va_S (ef_A ws) s.heap H [] := by rw [← hH]; exact hS
  generalize ([] : List Loc) = locs at hS ⊢
  refine lv_aload_n hx hb dX1_valueAt_0 rfl (lv_at hl 0 rfl) ?_
  refine lv_iload_n hx hb dX1_valueAt_1 rfl (lv_at hl 1 rfl) ?_
  refine ef_callV (As := [.int (iv (i))]) (rest := []) ⟨hx, hb, hml, hown, hts⟩ (c_wordAt l dC dI ht hw i hi) (cwV 1 hts gX1_valueAt_X1_wordAt rfl rfl rfl (by decide +kernel) ⟨Nat.le_of_ble_eq_true rfl, Nat.le_of_ble_eq_true rfl⟩) hK hNX hP hD hS k0 hw.2.1 rfl rfl rfl hl.1 rfl (Nat.le_of_ble_eq_true rfl) dX1_valueAt_2 ⟨Nat.zero_le _, Nat.zero_le _⟩ (fun o w1 H locs hq hP hD hS => ?_)
  obtain ⟨rfl, e9⟩ := hq
  rw [e9] at hP hD
  refine W.eq (g2 := F0 m 5 ls [.int (iv (wz F i))]) rfl ?_
  refine iw_topi (y := iv ((iv (wz F i)).toInt)) ((iv_of _).symm) ?_
  refine iw_i2l hx hb (ir_of _) dX1_valueAt_5 ?_
  refine lv_ldc2 (v := 4294967295) hx hb hown (hts (.constantLong RX1 23 (4294967295)) (by decide +kernel)) dX1_valueAt_6 ?_
  refine iw_land hx hb dX1_valueAt_9 ?_
  refine iw_topl (y := jv (wz F i)) (congrArg jv (by rw [iv_emod]; have := wz_lt hF i; omega)) ?_
  exact ef_lret hx hb hr hlocks hP hD hS dX1_valueAt_10 (⟨rfl, rfl⟩)

set_option maxRecDepth 100000 in
set_option maxHeartbeats 4000000 in
/-- put(i, z): the word, nothing outside -/
theorem c_put (l : Launch) (dC : Nat → ClassId) (dI : Nat → Nat → Nat) {cI : ClassId} {tys : List (ClassId × FieldType)} (ht : tys[0]? = some (cI, .int)) {ws : va_W} {k0 k1 h a : Nat} {u : Int} {F : Nat → Nat} (hw : isW ws k0 k1 h a cI u F) (i : Int) (hi : ir i) (z : Int) : ef_C l yX1_put wsX1_put ({ frames := 0, cells := 0, slots := 0, locals := 0 } : Room) [.ref h, .int (iv (i)), .long (jv (z))] (dC, dI) vwCl tys ws (fun o w1 => o = none ∧ w1 = wW ws k0 k1 h a cI u (wp F i z)) := by
  have hi0 := hi
  obtain ⟨hi1, hi2⟩ := hi
  refine ef_C.of (cc := cX1_put) (maxL := 4) (ret := none) (by decide) rfl (Nat.le_of_ble_eq_true rfl) ?_
  intro p e s m below meth c ls hx hb hml hr hts hown hlocks hK hNX hP hD hS hl
  have hl : lv_has ls 4 [(0, .ref h), (1, .int (iv (i))), (2, .long (jv (z)))] := hl
  have hown : s.vm.findClass RX1 = some m.cls := hown
  generalize hH : s.heap = H at hP ⊢
  have hS : va_S (ef_A ws) s.heap H [] := by rw [← hH]; exact hS
  generalize ([] : List Loc) = locs at hS ⊢
  refine lv_iload_n hx hb dX1_put_0 rfl (lv_at hl 1 rfl) ?_
  refine iw_if_lt (tgt := 21) hx hb dX1_put_1 (by decide) (hi0) (fun c1 => ?_) (fun c1 => ?_)
  ·
    exact ef_vret hx hb hr hlocks hP hD hS dX1_put_21 (by rw [wp_out (Or.inl c1), isW.id hw]; exact ⟨rfl, rfl⟩)
  ·
    refine lv_iload_n hx hb dX1_put_4 rfl (lv_at hl 1 rfl) ?_
    refine lv_aload_n hx hb dX1_put_5 rfl (lv_at hl 0 rfl) ?_
    refine va_get (D := (dC, dI)) (ci := 1) (v := .ref a) (C := RX1) (T := TX1) (N := 2) hx hb hts (by decide +kernel) hown hK hP k0 hw.2.1 rfl 0 (by decide) (hts (.fieldLink RX1 9 "ExactFractions$Whole" "words" "[I") (by decide +kernel)) (fun _ h9 => h9) rfl dX1_put_6 ?_
    refine va_alen (v := iv (301)) hx hb hK hP k1 0 hw.2.2 ht rfl dX1_put_9 ?_
    refine iw_icmp_ge (tgt := 21) hx hb dX1_put_10 (by decide) (hi0) ⟨by omega, by omega⟩ (fun c2 => ?_) (fun c2 => ?_)
    ·
      exact ef_vret hx hb hr hlocks hP hD hS dX1_put_21 (by rw [wp_out (Or.inr c2), isW.id hw]; exact ⟨rfl, rfl⟩)
    ·
      obtain ⟨n, rfl⟩ : ∃ n : Nat, i = n := ⟨i.toNat, by omega⟩
      refine lv_aload_n hx hb dX1_put_13 rfl (lv_at hl 0 rfl) ?_
      refine va_get (D := (dC, dI)) (ci := 1) (v := .ref a) (C := RX1) (T := TX1) (N := 2) hx hb hts (by decide +kernel) hown hK hP k0 hw.2.1 rfl 0 (by decide) (hts (.fieldLink RX1 9 "ExactFractions$Whole" "words" "[I") (by decide +kernel)) (fun _ h9 => h9) rfl dX1_put_14 ?_
      refine lv_iload_n hx hb dX1_put_17 rfl (lv_at hl 1 rfl) ?_
      refine lv_lload_n hx hb dX1_put_18 rfl (lv_at hl 2 rfl) ?_
      refine iw_l2i hx hb dX1_put_19 ?_
      refine iw_topi (y := iv (((z % 4294967296).toNat : Int))) (iv_cong (by omega)) ?_
      refine iw_iast (i := n) (v := (z % 4294967296).toNat) hx hb hK hP hD hS k1 0 hw.2.2 ht (by omega) (by decide) dX1_put_20 (fun H locs hP hD hS => ?_)
      exact ef_vret hx hb hr hlocks hP hD hS dX1_put_21 (by rw [wp_in _ (by omega)]; exact ⟨rfl, isW.s1 hw _⟩)

set_option maxRecDepth 100000 in
set_option maxHeartbeats 4000000 in
/-- settle(t): what stands below t, with its used -/
theorem c_settle (l : Launch) (dC : Nat → ClassId) (dI : Nat → Nat → Nat) {cI : ClassId} {tys : List (ClassId × FieldType)} (ht : tys[0]? = some (cI, .int)) {ws : va_W} {k0 k1 h a n : Nat} {F : Nat → Nat} (hw : isW ws k0 k1 h a cI (n : Int) F) (hn : n ≤ 301) (hF : ∀ j, F j < 4294967296) (t : Nat) (htt : t ≤ 1000) (hz : ∀ j, t ≤ j → n ≤ j → j < 301 → F j = 0) : ef_C l yX1_settle wsX1_settle ({ frames := 1, cells := 0, slots := 0, locals := 23 } : Room) [.ref h, .int (iv ((t : Int)))] (dC, dI) vwCl tys ws (fun o w1 => o = none ∧ w1 = wW ws k0 k1 h a cI (wl (nv F (min t 301))) (wd (nv F (min t 301)))) := by
  refine ef_C.of (cc := cX1_settle) (maxL := 3) (ret := none) (by decide) rfl (Nat.le_of_ble_eq_true rfl) ?_
  intro p e s m below meth c ls hx hb hml hr hts hown hlocks hK hNX hP hD hS hl
  have hl : lv_has ls 3 [(0, .ref h), (1, .int (iv ((t : Int))))] := hl
  have hown : s.vm.findClass RX1 = some m.cls := hown
  generalize hH : s.heap = H at hP ⊢
  have hS : va_S (ef_A ws) s.heap H [] := by rw [← hH]; exact hS
  generalize ([] : List Loc) = locs at hS ⊢
  have hD0 := hD
  have hw0 := hw
  have hP := efP0 hw0 hP
  have hD := efD0 hw0 hD
  have hw : isW (wW ws k0 k1 h a cI ((n : Int)) (F)) k0 k1 h a cI ((n : Int)) (F) := hw0.w _ _
  refine lv_iload_n hx hb dX1_settle_0 rfl (lv_at hl 1 rfl) ?_
  refine lv_istore_n (lv' := [(2, .int (iv ((t : Int)))), (0, .ref h), (1, .int (iv ((t : Int))))]) hx hb dX1_settle_1 rfl hl (by decide) rfl (fun ls hl => ?_)
  rw [← zf_0 F t] at hP hD
  have loop : ∀ (fuel : Nat) (i : Nat), (t ≤ i) → (i ≤ 1000) → (1001 < i + fuel) → ∀ (H : Heap) (locs : List Loc) (ls : Array Slot), va_P (dC, dI) vwCl (wW ws k0 k1 h a cI (n : Int) (zf F t i)) H → va_D (ef_A ws) (wW ws k0 k1 h a cI (n : Int) (zf F t i)) → va_S (ef_A ws) s.heap H locs → lv_has ls 3 [(0, .ref h), (1, .int (iv ((t : Int)))), (2, .int (iv ((i : Int))))] → W p l e ({ frames := 1, cells := 0, slots := 0, locals := 23 } : Room) s m ([.ref h, .int (iv ((t : Int)))] : List Value).toArray below meth c H locs 0 0 (ef_R below (dC, dI) vwCl ws (fun o w1 => o = none ∧ w1 = wW ws k0 k1 h a cI (wl (nv F (min t 301))) (wd (nv F (min t 301)))) [.ref h, .int (iv ((t : Int)))] s) (F0 m 2 ls []) := by
    intro fuel
    induction fuel with
    | zero => intro i h1 h2 h3; exfalso; omega
    | succ fuel ih =>
      intro i h1 h2 h3 H locs ls hP hD hS hl
      have hw : isW (wW ws k0 k1 h a cI (n : Int) (zf F t i)) k0 k1 h a cI (n : Int) (zf F t i) := hw0.w _ _
      refine lv_iload_n hx hb dX1_settle_2 rfl (lv_at hl 2 rfl) ?_
      refine lv_aload_n hx hb dX1_settle_3 rfl (lv_at hl 0 rfl) ?_
      refine va_get (D := (dC, dI)) (ci := 1) (v := .int (iv ((n : Int)))) (C := RX1) (T := TX1) (N := 2) hx hb hts (by decide +kernel) hown hK hP k0 hw.2.1 rfl 1 (by decide) (hts (.fieldLink RX1 15 "ExactFractions$Whole" "used" "I") (by decide +kernel)) (fun _ h9 => h9) rfl dX1_settle_4 ?_
      refine iw_icmp_ge (tgt := 22) hx hb dX1_settle_7 (by decide) ⟨by omega, by omega⟩ ⟨by omega, by omega⟩ (fun c1 => ?_) (fun c1 => ?_)
      ·
        refine lv_aload_n hx hb dX1_settle_22 rfl (lv_at hl 0 rfl) ?_
        refine lv_iload_n hx hb dX1_settle_23 rfl (lv_at hl 1 rfl) ?_
        refine lv_aload_n hx hb dX1_settle_24 rfl (lv_at hl 0 rfl) ?_
        refine va_get (D := (dC, dI)) (ci := 1) (v := .ref a) (C := RX1) (T := TX1) (N := 2) hx hb hts (by decide +kernel) hown hK hP k0 hw.2.1 rfl 0 (by decide) (hts (.fieldLink RX1 9 "ExactFractions$Whole" "words" "[I") (by decide +kernel)) (fun _ h9 => h9) rfl dX1_settle_25 ?_
        refine va_alen (v := iv (301)) hx hb hK hP k1 0 hw.2.2 ht rfl dX1_settle_28 ?_
        refine iw_mmin hx hb (hml.trans hl.1.symm) hown (hts (.methodLink RX1 29 Lib.Math.min.name) (by decide +kernel)) (hts (.static Lib.Math.min.name) (by decide +kernel)) (hts (.initialized "java/lang/Math") (by decide +kernel)) (hts (.code Lib.Math.min.name Lib.Math.min.code 2 (some .int)) (by decide +kernel)) (Nat.le_of_ble_eq_true rfl) (Nat.le_of_ble_eq_true rfl) (Nat.zero_le _) (Nat.zero_le _) ⟨by omega, by omega⟩ ⟨by omega, by omega⟩ dX1_settle_29 ?_
        refine iw_topi (y := iv (((min t 301 : Nat) : Int))) (congrArg iv (by split <;> omega : ((if (301) < ((t : Int)) then (301) else ((t : Int))) : Int) = (((min t 301 : Nat) : Int)))) ?_
        refine va_put (D := (dC, dI)) (ci := 1) (v := .int (iv (((min t 301 : Nat) : Int)))) (ty := .int) (C := RX1) (T := TX1) (N := 2) hx hb hts (by decide +kernel) tyX1 tyX1_ok nmX1 hown hK hP hD hS k0 hw.2.1 rfl 1 (by decide) (hts (.fieldLink RX1 15 "ExactFractions$Whole" "used" "I") (by decide +kernel)) (fun _ h9 => h9) rfl (by decide +kernel) rfl rfl (Nat.le_of_ble_eq_true rfl) dX1_settle_32 (fun H locs hP hD hS => ?_)
        have hP := efPu hw0.1 hP
        have hD := efDu hw0.1 hD
        have hG := zf_lt hF t i
        have hG0 : ∀ j, min t 301 ≤ j → j < 301 → zf F t i j = 0 := by
          intro j q1 q2
          unfold zf
          by_cases q3 : t ≤ j ∧ j < i
          · rw [if_pos q3]
          · rw [if_neg q3]
            exact hz j (by omega) (by omega) q2
        have hGt : nv (zf F t i) (min t 301) = nv F (min t 301) := nv_cong (fun j hj => by unfold zf; rw [if_neg (by omega)])
        generalize zf F t i = G at hP hD hG hG0 hGt
        have loop2 : ∀ (fuel : Nat) (q : Nat), (q ≤ min t 301) → (∀ j, q ≤ j → j < 301 → G j = 0) → (q < fuel) → ∀ (H : Heap) (locs : List Loc) (ls : Array Slot), va_P (dC, dI) vwCl (wW ws k0 k1 h a cI (q : Int) G) H → va_D (ef_A ws) (wW ws k0 k1 h a cI (q : Int) G) → va_S (ef_A ws) s.heap H locs → lv_has ls 3 [(0, .ref h), (1, .int (iv ((t : Int))))] → W p l e ({ frames := 1, cells := 0, slots := 0, locals := 23 } : Room) s m ([.ref h, .int (iv ((t : Int)))] : List Value).toArray below meth c H locs 0 0 (ef_R below (dC, dI) vwCl ws (fun o w1 => o = none ∧ w1 = wW ws k0 k1 h a cI (wl (nv F (min t 301))) (wd (nv F (min t 301)))) [.ref h, .int (iv ((t : Int)))] s) (F0 m 35 ls []) := by
          intro fuel
          induction fuel with
          | zero => intro q g1 g2 g3; exfalso; omega
          | succ fuel ih =>
            intro q g1 g2 g3 H locs ls hP hD hS hl
            have hw : isW (wW ws k0 k1 h a cI (q : Int) G) k0 k1 h a cI (q : Int) G := hw0.w _ _
            refine lv_aload_n hx hb dX1_settle_35 rfl (lv_at hl 0 rfl) ?_
            refine va_get (D := (dC, dI)) (ci := 1) (v := .int (iv ((q : Int)))) (C := RX1) (T := TX1) (N := 2) hx hb hts (by decide +kernel) hown hK hP k0 hw.2.1 rfl 1 (by decide) (hts (.fieldLink RX1 15 "ExactFractions$Whole" "used" "I") (by decide +kernel)) (fun _ h9 => h9) rfl dX1_settle_36 ?_
            refine iw_if_le (tgt := 68) hx hb dX1_settle_39 (by decide) ⟨by omega, by omega⟩ (fun c2 => ?_) (fun c2 => ?_)
            ·
              have hs := settled hG g1 (by omega) g2 (Or.inl (by omega))
              rw [hGt] at hs
              have hP := isW.P hw0 _ hP hs.2
              have hD := isW.D hw0 hD0 ((q : Int)) (wd (nv F (min t 301)))
              rw [← hs.1] at hP hD
              exact ef_vret hx hb hr hlocks hP hD hS dX1_settle_68 (⟨rfl, rfl⟩)
            ·
              obtain ⟨r, rfl⟩ : ∃ r : Nat, q = r + 1 := ⟨q - 1, by omega⟩
              refine lv_aload_n hx hb dX1_settle_42 rfl (lv_at hl 0 rfl) ?_
              refine lv_aload_n hx hb dX1_settle_43 rfl (lv_at hl 0 rfl) ?_
              refine va_get (D := (dC, dI)) (ci := 1) (v := .int (iv (((r + 1 : Nat) : Int)))) (C := RX1) (T := TX1) (N := 2) hx hb hts (by decide +kernel) hown hK hP k0 hw.2.1 rfl 1 (by decide) (hts (.fieldLink RX1 15 "ExactFractions$Whole" "used" "I") (by decide +kernel)) (fun _ h9 => h9) rfl dX1_settle_44 ?_
              refine lv_iconst (v := iv (1)) hx hb dX1_settle_47 (by decide) ?_
              refine iw_isub hx hb dX1_settle_48 ?_
              refine iw_topi (y := iv ((r : Int))) (congrArg iv (by omega : (((((r + 1 : Nat) : Int)) - (1)) : Int) = ((r : Int)))) ?_
              refine ef_callV (As := [.int (iv ((r : Int)))]) (rest := []) ⟨hx, hb, hml, hown, hts⟩ (c_wordAt l dC dI ht hw (r : Int) ⟨by omega, by omega⟩) (cwV 1 hts gX1_settle_X1_wordAt rfl rfl rfl (by decide +kernel) ⟨Nat.le_of_ble_eq_true rfl, Nat.le_of_ble_eq_true rfl⟩) hK hNX hP hD hS k0 hw.2.1 rfl rfl rfl hl.1 rfl (Nat.le_of_ble_eq_true rfl) dX1_settle_49 ⟨Nat.zero_le _, Nat.zero_le _⟩ (fun o w1 H locs hq hP hD hS => ?_)
              obtain ⟨rfl, e9⟩ := hq
              rw [e9] at hP hD
              refine W.eq (g2 := F0 m 52 ls [.int (iv (wz G (r : Int)))]) rfl ?_
              refine iw_topi (y := iv ((G r : Int))) (by rw [wz_in (by omega)]) ?_
              have hGr := hG r
              refine iw_ifu_ne (tgt := 68) hx hb dX1_settle_52 (by decide) (by omega) (by omega) (fun c3 => ?_) (fun c3 => ?_)
              ·
                have hs := settled hG g1 (by omega) g2 (Or.inr (by rw [show r + 1 - 1 = r by omega]; omega))
                rw [hGt] at hs
                have hP := isW.P hw0 _ hP hs.2
                have hD := isW.D hw0 hD0 (((r + 1 : Nat) : Int)) (wd (nv F (min t 301)))
                rw [← hs.1] at hP hD
                exact ef_vret hx hb hr hlocks hP hD hS dX1_settle_68 (⟨rfl, rfl⟩)
              ·
                refine lv_aload_n hx hb dX1_settle_55 rfl (lv_at hl 0 rfl) ?_
                refine lv_dup hx hb dX1_settle_56 rfl ?_
                refine va_get (D := (dC, dI)) (ci := 1) (v := .int (iv (((r + 1 : Nat) : Int)))) (C := RX1) (T := TX1) (N := 2) hx hb hts (by decide +kernel) hown hK hP k0 hw.2.1 rfl 1 (by decide) (hts (.fieldLink RX1 15 "ExactFractions$Whole" "used" "I") (by decide +kernel)) (fun _ h9 => h9) rfl dX1_settle_57 ?_
                refine lv_iconst (v := iv (1)) hx hb dX1_settle_60 (by decide) ?_
                refine iw_isub hx hb dX1_settle_61 ?_
                refine iw_topi (y := iv ((r : Int))) (congrArg iv (by omega : (((((r + 1 : Nat) : Int)) - (1)) : Int) = ((r : Int)))) ?_
                refine va_put (D := (dC, dI)) (ci := 1) (v := .int (iv ((r : Int)))) (ty := .int) (C := RX1) (T := TX1) (N := 2) hx hb hts (by decide +kernel) tyX1 tyX1_ok nmX1 hown hK hP hD hS k0 hw.2.1 rfl 1 (by decide) (hts (.fieldLink RX1 15 "ExactFractions$Whole" "used" "I") (by decide +kernel)) (fun _ h9 => h9) rfl (by decide +kernel) rfl rfl (Nat.le_of_ble_eq_true rfl) dX1_settle_62 (fun H locs hP hD hS => ?_)
                have hP := efPu hw0.1 hP
                have hD := efDu hw0.1 hD
                refine lv_goto (tgt := 35) hx hb dX1_settle_65 (by decide) ?_
                exact ih (r) (by omega) (fun j q1 q2 => by rcases Nat.lt_or_ge r j with q3 | q3; exact g2 j (by omega) q2; rw [show j = r by omega]; omega) (by omega) H locs ls hP hD hS (lv_sub hl [0, 1] rfl)
        exact loop2 (302) (min t 301) (Nat.le_refl _) (hG0) (by omega) H locs ls hP hD hS (lv_sub hl [0, 1] rfl)
      ·
        refine lv_aload_n hx hb dX1_settle_10 rfl (lv_at hl 0 rfl) ?_
        refine lv_iload_n hx hb dX1_settle_11 rfl (lv_at hl 2 rfl) ?_
        refine lv_lconst (v := jv (0)) hx hb dX1_settle_12 (by decide) ?_
        refine ef_callV (As := [.int (iv ((i : Int))), .long (jv (0))]) (rest := []) ⟨hx, hb, hml, hown, hts⟩ (c_put l dC dI ht hw (i : Int) ⟨by omega, by omega⟩ 0) (cwV 2 hts gX1_settle_X1_put rfl rfl rfl (by decide +kernel) ⟨Nat.le_of_ble_eq_true rfl, Nat.le_of_ble_eq_true rfl⟩) hK hNX hP hD hS k0 hw.2.1 rfl rfl rfl hl.1 rfl (Nat.le_of_ble_eq_true rfl) dX1_settle_13 ⟨Nat.zero_le _, Nat.zero_le _⟩ (fun o w1 H locs hq hP hD hS => ?_)
        obtain ⟨rfl, rfl⟩ := hq
        have hP := efP2 hw0.1 hP
        have hD := efD2 hw0.1 hD
        have hw : isW (wW ws k0 k1 h a cI ((n : Int)) (wp (zf F t i) (i : Int) 0)) k0 k1 h a cI ((n : Int)) (wp (zf F t i) (i : Int) 0) := hw0.w _ _
        refine W.eq (g2 := F0 m 16 ls []) rfl ?_
        rw [zf_s h1 (by omega)] at hP hD
        refine lv_iinc (v := iv (((i + 1 : Nat) : Int))) (lv' := [(2, .int (iv (((i + 1 : Nat) : Int)))), (0, .ref h), (1, .int (iv ((t : Int))))]) hx hb dX1_settle_16 hl (k := 2) rfl (iv_inc i) (by decide) rfl (fun ls hl => ?_)
        refine lv_goto (tgt := 2) hx hb dX1_settle_19 (by decide) ?_
        exact ih (i + 1) (by omega) (by omega) (by omega) H locs ls hP hD hS (lv_sub hl [1, 2, 0] rfl)
  exact loop (1002) (t) (Nat.le_refl _) (by omega) (by omega) H locs ls hP hD hS (lv_sub hl [1, 2, 0] rfl)

set_option maxRecDepth 100000 in
set_option maxHeartbeats 4000000 in
/-- isZero -/
theorem c_isZero (l : Launch) (dC : Nat → ClassId) (dI : Nat → Nat → Nat) {cI : ClassId} {tys : List (ClassId × FieldType)} (ht : tys[0]? = some (cI, .int)) {ws : va_W} {k0 k1 h a X : Nat} (hw : isW ws k0 k1 h a cI (wl X : Int) (wd X)) (hX : wl X ≤ 301) : ef_C l yX1_isZero wsX1_isZero ({ frames := 0, cells := 0, slots := 0, locals := 0 } : Room) [.ref h] (dC, dI) vwCl tys ws (fun o w1 => o = some (.int (iv (if X = 0 then 1 else 0))) ∧ w1 = ws) := by
  refine ef_C.of (cc := cX1_isZero) (maxL := 1) (ret := (some .boolean)) (by decide) rfl (Nat.le_of_ble_eq_true rfl) ?_
  intro p e s m below meth c ls hx hb hml hr hts hown hlocks hK hNX hP hD hS hl
  have hl : lv_has ls 1 [(0, .ref h)] := hl
  have hown : s.vm.findClass RX1 = some m.cls := hown
  generalize hH : s.heap = H at hP ⊢
  have hS : va_S (ef_A ws) s.heap H [] := by rw [← hH]; exact hS
  generalize ([] : List Loc) = locs at hS ⊢
  refine lv_aload_n hx hb dX1_isZero_0 rfl (lv_at hl 0 rfl) ?_
  refine va_get (D := (dC, dI)) (ci := 1) (v := .int (iv ((wl X : Int)))) (C := RX1) (T := TX1) (N := 2) hx hb hts (by decide +kernel) hown hK hP k0 hw.2.1 rfl 1 (by decide) (hts (.fieldLink RX1 15 "ExactFractions$Whole" "used" "I") (by decide +kernel)) (fun _ h9 => h9) rfl dX1_isZero_1 ?_
  refine iw_if_ne (tgt := 11) hx hb dX1_isZero_4 (by decide) ⟨by omega, by omega⟩ (fun c1 => ?_) (fun c1 => ?_)
  ·
    refine lv_iconst (v := iv (0)) hx hb dX1_isZero_11 (by decide) ?_
    exact ef_zret hx hb hr hlocks (by decide) hP hD hS dX1_isZero_12 (by rw [if_neg (fun q => c1 (by rw [wl_0.2 q]; rfl))]; exact ⟨rfl, rfl⟩)
  ·
    refine lv_iconst (v := iv (1)) hx hb dX1_isZero_7 (by decide) ?_
    refine lv_goto (tgt := 12) hx hb dX1_isZero_8 (by decide) ?_
    exact ef_zret hx hb hr hlocks (by decide) hP hD hS dX1_isZero_12 (by rw [if_pos (wl_0.1 (by omega))]; exact ⟨rfl, rfl⟩)
