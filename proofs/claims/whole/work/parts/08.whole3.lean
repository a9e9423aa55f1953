set_option maxRecDepth 100000 in
set_option maxHeartbeats 4000000 in
/-- becomeMultiple(other, mu, mo) -/
theorem c_multiple (l : Launch) (dC : Nat → ClassId) (dI : Nat → Nat → Nat) {cI : ClassId} {tys : List (ClassId × FieldType)} (ht : tys[0]? = some (cI, .int)) {ws : va_W} {k0 k1 h a n : Nat} {F : Nat → Nat} (hw : isW ws k0 k1 h a cI (n : Int) F) (hn : n ≤ 301) (hF : ∀ j, F j < 4294967296) (hz : ∀ j, n ≤ j → j < 301 → F j = 0) {j0 j1 g b Y : Nat} (ho : isW ws j0 j1 g b cI (wl Y : Int) (wd Y)) (hY : wl Y ≤ 300) (hoa : apt k0 k1 j0 j1) (mu mo : Nat) (hmu : mu ≤ 1000000) (hmo : mo ≤ 1000000) : ef_C l yX1_becomeMultiple wsX1_becomeMultiple ({ frames := 2, cells := 0, slots := 0, locals := 45 } : Room) [.ref h, .ref g, .int (iv ((mu : Int))), .int (iv ((mo : Int)))] (dC, dI) vwCl tys ws (fun o w1 => o = none ∧ w1 = wW ws k0 k1 h a cI (wl (Y * mu + mo) : Int) (wd (Y * mu + mo))) := by
  refine ef_C.of (cc := cX1_becomeMultiple) (maxL := 7) (ret := none) (by decide) rfl (Nat.le_of_ble_eq_true rfl) ?_
  intro p e s m below meth c ls hx hb hml hr hts hown hlocks hK hNX hP hD hS hl
  have hl : lv_has ls 7 [(0, .ref h), (1, .ref g), (2, .int (iv ((mu : Int)))), (3, .int (iv ((mo : Int))))] := hl
  have hown : s.vm.findClass RX1 = some m.cls := hown
  generalize hH : s.heap = H at hP ⊢
  have hS : va_S (ef_A ws) s.heap H [] := by rw [← hH]; exact hS
  generalize ([] : List Loc) = locs at hS ⊢
  have hw0 := hw
  have ho0 := ho
  have hP := efP0 hw0 hP
  have hD := efD0 hw0 hD
  have hw : isW (wW ws k0 k1 h a cI ((n : Int)) (F)) k0 k1 h a cI ((n : Int)) (F) := hw0.w _ _
  have ho := ho0.o hoa (wo h a ((n : Int))) (wa cI a (F))
  refine lv_iload_n hx hb dX1_becomeMultiple_0 rfl (lv_at hl 3 rfl) ?_
  refine iw_i2l hx hb ⟨by omega, by omega⟩ dX1_becomeMultiple_1 ?_
  refine lv_lstore (lv' := [(4, .long (jv ((mo : Int)))), (0, .ref h), (1, .ref g), (2, .int (iv ((mu : Int)))), (3, .int (iv ((mo : Int))))]) hx hb dX1_becomeMultiple_2 hl (by decide) rfl (fun ls hl => ?_)
  refine lv_iconst (v := iv (0)) hx hb dX1_becomeMultiple_4 (by decide) ?_
  refine lv_istore (lv' := [(6, .int (iv (0))), (4, .long (jv ((mo : Int)))), (0, .ref h), (1, .ref g), (2, .int (iv ((mu : Int)))), (3, .int (iv ((mo : Int))))]) hx hb dX1_becomeMultiple_5 hl (by decide) rfl (fun ls hl => ?_)
  have loop : ∀ (fuel : Nat) (i : Nat) (cy : Nat) (G : Nat → Nat), (i ≤ wl Y) → (cy < 4294967296) → (∀ j, G j < 4294967296) → (nv G i + cy * 2 ^ (32 * i) = nv (wd Y) i * mu + mo) → (∀ j, i ≤ j → G j = F j) → (wl Y < i + fuel) → ∀ (H : Heap) (locs : List Loc) (ls : Array Slot), va_P (dC, dI) vwCl (wW ws k0 k1 h a cI (n : Int) G) H → va_D (ef_A ws) (wW ws k0 k1 h a cI (n : Int) G) → va_S (ef_A ws) s.heap H locs → lv_has ls 7 [(0, .ref h), (1, .ref g), (2, .int (iv ((mu : Int)))), (3, .int (iv ((mo : Int)))), (4, .long (jv ((cy : Int)))), (6, .int (iv ((i : Int))))] → W p l e ({ frames := 2, cells := 0, slots := 0, locals := 45 } : Room) s m ([.ref h, .ref g, .int (iv ((mu : Int))), .int (iv ((mo : Int)))] : List Value).toArray below meth c H locs 0 0 (ef_R below (dC, dI) vwCl ws (fun o w1 => o = none ∧ w1 = wW ws k0 k1 h a cI (wl (Y * mu + mo) : Int) (wd (Y * mu + mo))) [.ref h, .ref g, .int (iv ((mu : Int))), .int (iv ((mo : Int)))] s) (F0 m 7 ls []) := by
    intro fuel
    induction fuel with
    | zero => intro i cy G h1 hc h2 h3 h4 h5; exfalso; omega
    | succ fuel ih =>
      intro i cy G h1 hc h2 h3 h4 h5 H locs ls hP hD hS hl
      have hw : isW (wW ws k0 k1 h a cI ((n : Int)) (G)) k0 k1 h a cI ((n : Int)) (G) := hw0.w _ _
      have ho := ho0.o hoa (wo h a ((n : Int))) (wa cI a (G))
      refine lv_iload hx hb dX1_becomeMultiple_7 (lv_at hl 5 rfl) ?_
      refine lv_aload_n hx hb dX1_becomeMultiple_9 rfl (lv_at hl 1 rfl) ?_
      refine va_get (D := (dC, dI)) (ci := 1) (v := .int (iv ((wl Y : Int)))) (C := RX1) (T := TX1) (N := 2) hx hb hts (by decide +kernel) hown hK hP j0 ho.2.1 rfl 1 (by decide) (hts (.fieldLink RX1 15 "ExactFractions$Whole" "used" "I") (by decide +kernel)) (fun _ h9 => h9) rfl dX1_becomeMultiple_10 ?_
      refine iw_icmp_ge (tgt := 51) hx hb dX1_becomeMultiple_13 (by decide) ⟨by omega, by omega⟩ ⟨by omega, by omega⟩ (fun c1 => ?_) (fun c1 => ?_)
      ·
        have hi : i = wl Y := by omega
        subst hi
        refine lv_aload_n hx hb dX1_becomeMultiple_51 rfl (lv_at hl 0 rfl) ?_
        refine lv_aload_n hx hb dX1_becomeMultiple_52 rfl (lv_at hl 1 rfl) ?_
        refine va_get (D := (dC, dI)) (ci := 1) (v := .int (iv ((wl Y : Int)))) (C := RX1) (T := TX1) (N := 2) hx hb hts (by decide +kernel) hown hK hP j0 ho.2.1 rfl 1 (by decide) (hts (.fieldLink RX1 15 "ExactFractions$Whole" "used" "I") (by decide +kernel)) (fun _ h9 => h9) rfl dX1_becomeMultiple_53 ?_
        refine lv_lload hx hb dX1_becomeMultiple_56 (lv_at hl 4 rfl) ?_
        refine ef_callV (As := [.int (iv ((wl Y : Int))), .long (jv ((cy : Int)))]) (rest := []) ⟨hx, hb, hml, hown, hts⟩ (c_put l dC dI ht hw (wl Y : Int) ⟨by omega, by omega⟩ (cy : Int)) (cwV 2 hts gX1_becomeMultiple_X1_put rfl rfl rfl (by decide +kernel) ⟨Nat.le_of_ble_eq_true rfl, Nat.le_of_ble_eq_true rfl⟩) hK hNX hP hD hS k0 hw.2.1 rfl rfl rfl hl.1 rfl (Nat.le_of_ble_eq_true rfl) dX1_becomeMultiple_58 ⟨Nat.zero_le _, Nat.zero_le _⟩ (fun o w1 H locs hq hP hD hS => ?_)
        obtain ⟨rfl, rfl⟩ := hq
        have hP := efP2 hw0.1 hP
        have hD := efD2 hw0.1 hD
        have hw : isW (wW ws k0 k1 h a cI ((n : Int)) (wp G (wl Y : Int) (cy : Int))) k0 k1 h a cI ((n : Int)) (wp G (wl Y : Int) (cy : Int)) := hw0.w _ _
        have ho := ho0.o hoa (wo h a ((n : Int))) (wa cI a (wp G (wl Y : Int) (cy : Int)))
        refine W.eq (g2 := F0 m 61 ls []) rfl ?_
        have hv : nv (wp G (wl Y : Int) (cy : Int)) (min (wl Y + 1) 301) = Y * mu + mo := by
          rw [show min (wl Y + 1) 301 = wl Y + 1 by omega]
          show nv (wp G (wl Y : Int) (cy : Int)) (wl Y) + wp G (wl Y : Int) (cy : Int) (wl Y) * 2 ^ (32 * wl Y) = _
          rw [nv_cong (G := G) (fun j hj => wp_ne (by omega)), wp_at (by omega), Nat.mod_eq_of_lt hc, h3, nv_self]
        refine lv_aload_n hx hb dX1_becomeMultiple_61 rfl (lv_at hl 0 rfl) ?_
        refine lv_aload_n hx hb dX1_becomeMultiple_62 rfl (lv_at hl 1 rfl) ?_
        refine va_get (D := (dC, dI)) (ci := 1) (v := .int (iv ((wl Y : Int)))) (C := RX1) (T := TX1) (N := 2) hx hb hts (by decide +kernel) hown hK hP j0 ho.2.1 rfl 1 (by decide) (hts (.fieldLink RX1 15 "ExactFractions$Whole" "used" "I") (by decide +kernel)) (fun _ h9 => h9) rfl dX1_becomeMultiple_63 ?_
        refine lv_iconst (v := iv (1)) hx hb dX1_becomeMultiple_66 (by decide) ?_
        refine iw_iadd hx hb dX1_becomeMultiple_67 ?_
        refine iw_topi (y := iv (((wl Y + 1 : Nat) : Int))) (congrArg iv (by omega : ((((wl Y : Int)) + (1)) : Int) = (((wl Y + 1 : Nat) : Int)))) ?_
        refine ef_callV (As := [.int (iv (((wl Y + 1 : Nat) : Int)))]) (rest := []) ⟨hx, hb, hml, hown, hts⟩ (c_settle l dC dI ht hw hn (wp_lt h2 _ _) (wl Y + 1) (by omega) (fun j q1 q2 q3 => by rw [wp_ne (by omega), h4 j (by omega)]; exact hz j q2 q3)) (cwV 1 hts gX1_becomeMultiple_X1_settle rfl rfl rfl (by decide +kernel) ⟨Nat.le_of_ble_eq_true rfl, Nat.le_of_ble_eq_true rfl⟩) hK hNX hP hD hS k0 hw.2.1 rfl rfl rfl hl.1 rfl (Nat.le_of_ble_eq_true rfl) dX1_becomeMultiple_68 ⟨Nat.zero_le _, Nat.zero_le _⟩ (fun o w1 H locs hq hP hD hS => ?_)
        rw [hv] at hq
        obtain ⟨rfl, rfl⟩ := hq
        have hP := efP2 hw0.1 hP
        have hD := efD2 hw0.1 hD
        have hw : isW (wW ws k0 k1 h a cI ((wl (Y * mu + mo) : Int)) (wd (Y * mu + mo))) k0 k1 h a cI ((wl (Y * mu + mo) : Int)) (wd (Y * mu + mo)) := hw0.w _ _
        have ho := ho0.o hoa (wo h a ((wl (Y * mu + mo) : Int))) (wa cI a (wd (Y * mu + mo)))
        refine W.eq (g2 := F0 m 71 ls []) rfl ?_
        exact ef_vret hx hb hr hlocks hP hD hS dX1_becomeMultiple_71 (⟨rfl, rfl⟩)
      ·
        refine lv_lload hx hb dX1_becomeMultiple_16 (lv_at hl 4 rfl) ?_
        refine lv_aload_n hx hb dX1_becomeMultiple_18 rfl (lv_at hl 1 rfl) ?_
        refine lv_iload hx hb dX1_becomeMultiple_19 (lv_at hl 5 rfl) ?_
        refine ef_callV (As := [.int (iv ((i : Int)))]) (rest := [.long (jv ((cy : Int)))]) ⟨hx, hb, hml, hown, hts⟩ (c_valueAt l dC dI ht ho (wd_lt Y) (i : Int) ⟨by omega, by omega⟩) (cwV 1 hts gX1_becomeMultiple_X1_valueAt rfl rfl rfl (by decide +kernel) ⟨Nat.le_of_ble_eq_true rfl, Nat.le_of_ble_eq_true rfl⟩) hK hNX hP hD hS j0 ho.2.1 rfl rfl rfl hl.1 rfl (Nat.le_of_ble_eq_true rfl) dX1_becomeMultiple_21 ⟨Nat.zero_le _, Nat.zero_le _⟩ (fun o w1 H locs hq hP hD hS => ?_)
        obtain ⟨rfl, e9⟩ := hq
        rw [e9] at hP hD
        refine W.eq (g2 := F0 m 24 ls [.long (jv (wz (wd Y) (i : Int))), .long (jv ((cy : Int)))]) rfl ?_
        refine iw_topl (y := jv (((wd Y i : Nat) : Int))) (by rw [wz_in (by omega)]) ?_
        refine lv_iload_n hx hb dX1_becomeMultiple_24 rfl (lv_at hl 2 rfl) ?_
        refine iw_i2l hx hb ⟨by omega, by omega⟩ dX1_becomeMultiple_25 ?_
        refine iw_lmul hx hb dX1_becomeMultiple_26 ?_
        refine iw_ladd hx hb dX1_becomeMultiple_27 ?_
        have hyl := wd_lt Y i
        have hyb : wd Y i * mu ≤ 4294967295 * 1000000 := Nat.mul_le_mul (by omega) hmu
        obtain ⟨z, hz9⟩ : ∃ z, z = cy + wd Y i * mu := ⟨_, rfl⟩
        refine iw_topl (y := jv ((z : Int))) (congrArg jv (by rw [hz9]; push_cast; rfl : ((((cy : Int)) + ((((wd Y i : Nat) : Int)) * ((mu : Int)))) : Int) = ((z : Int)))) ?_
        refine lv_lstore (lv' := [(4, .long (jv ((z : Int)))), (0, .ref h), (1, .ref g), (2, .int (iv ((mu : Int)))), (3, .int (iv ((mo : Int)))), (6, .int (iv ((i : Int))))]) hx hb dX1_becomeMultiple_28 hl (by decide) rfl (fun ls hl => ?_)
        refine lv_aload_n hx hb dX1_becomeMultiple_30 rfl (lv_at hl 1 rfl) ?_
        refine lv_iload hx hb dX1_becomeMultiple_31 (lv_at hl 5 rfl) ?_
        refine lv_lload hx hb dX1_becomeMultiple_33 (lv_at hl 0 rfl) ?_
        refine ef_callV (As := [.int (iv ((i : Int))), .long (jv ((z : Int)))]) (rest := []) ⟨hx, hb, hml, hown, hts⟩ (c_put l dC dI ht hw (i : Int) ⟨by omega, by omega⟩ (z : Int)) (cwV 2 hts gX1_becomeMultiple_X1_put rfl rfl rfl (by decide +kernel) ⟨Nat.le_of_ble_eq_true rfl, Nat.le_of_ble_eq_true rfl⟩) hK hNX hP hD hS k0 hw.2.1 rfl rfl rfl hl.1 rfl (Nat.le_of_ble_eq_true rfl) dX1_becomeMultiple_35 ⟨Nat.zero_le _, Nat.zero_le _⟩ (fun o w1 H locs hq hP hD hS => ?_)
        obtain ⟨rfl, rfl⟩ := hq
        have hP := efP2 hw0.1 hP
        have hD := efD2 hw0.1 hD
        have hw : isW (wW ws k0 k1 h a cI ((n : Int)) (wp G (i : Int) (z : Int))) k0 k1 h a cI ((n : Int)) (wp G (i : Int) (z : Int)) := hw0.w _ _
        have ho := ho0.o hoa (wo h a ((n : Int))) (wa cI a (wp G (i : Int) (z : Int)))
        refine W.eq (g2 := F0 m 38 ls []) rfl ?_
        refine lv_lload hx hb dX1_becomeMultiple_38 (lv_at hl 0 rfl) ?_
        refine lv_bipush (v := iv (32)) hx hb dX1_becomeMultiple_40 (by decide) ?_
        refine iw_lushr hx hb (by omega) (by omega) dX1_becomeMultiple_42 ?_
        refine iw_topl (y := jv (((z / 4294967296 : Nat) : Int))) (congrArg jv (by omega : ((((z : Int)) / 4294967296) : Int) = (((z / 4294967296 : Nat) : Int)))) ?_
        refine lv_lstore (lv' := [(4, .long (jv (((z / 4294967296 : Nat) : Int)))), (0, .ref h), (1, .ref g), (2, .int (iv ((mu : Int)))), (3, .int (iv ((mo : Int)))), (6, .int (iv ((i : Int))))]) hx hb dX1_becomeMultiple_43 hl (by decide) rfl (fun ls hl => ?_)
        refine lv_iinc (v := iv (((i + 1 : Nat) : Int))) (lv' := [(6, .int (iv (((i + 1 : Nat) : Int)))), (4, .long (jv (((z / 4294967296 : Nat) : Int)))), (0, .ref h), (1, .ref g), (2, .int (iv ((mu : Int)))), (3, .int (iv ((mo : Int))))]) hx hb dX1_becomeMultiple_45 hl (k := 5) rfl (iv_inc i) (by decide) rfl (fun ls hl => ?_)
        refine lv_goto (tgt := 7) hx hb dX1_becomeMultiple_48 (by decide) ?_
        exact ih (i + 1) (z / 4294967296) (wp G (i : Int) (z : Int)) (by omega) (by omega) (wp_lt h2 _ _) (by
              rw [nv_step (by omega) h3 hz9]
              show _ = (nv (wd Y) i + wd Y i * 2 ^ (32 * i)) * mu + mo
              rw [Nat.add_mul, Nat.mul_right_comm (wd Y i)]
              omega) (fun j hj => by rw [wp_ne (by omega)]; exact h4 j (by omega)) (by omega) H locs ls hP hD hS (lv_sub hl [2, 3, 4, 5, 1, 0] rfl)
  exact loop (wl Y + 1) (0) (mo) (F) (Nat.zero_le _) (by omega) (hF) (by show 0 + mo * 2 ^ (32 * 0) = 0 * mu + mo; omega) (fun j _ => rfl) (by omega) H locs ls hP hD hS (lv_sub hl [2, 3, 4, 5, 1, 0] rfl)

set_option maxRecDepth 100000 in
set_option maxHeartbeats 4000000 in
/-- becomeSum(one, other) -/
theorem c_sum (l : Launch) (dC : Nat → ClassId) (dI : Nat → Nat → Nat) {cI : ClassId} {tys : List (ClassId × FieldType)} (ht : tys[0]? = some (cI, .int)) {ws : va_W} {k0 k1 h a n : Nat} {F : Nat → Nat} (hw : isW ws k0 k1 h a cI (n : Int) F) (hn : n ≤ 301) (hF : ∀ j, F j < 4294967296) (hz : ∀ j, n ≤ j → j < 301 → F j = 0) {j0 j1 g b Y : Nat} (ho : isW ws j0 j1 g b cI (wl Y : Int) (wd Y)) (hY : wl Y ≤ 300) (hoa : apt k0 k1 j0 j1) {i0 i1 g2 b2 Z : Nat} (hp : isW ws i0 i1 g2 b2 cI (wl Z : Int) (wd Z)) (hZ : wl Z ≤ 300) (hpa : apt k0 k1 i0 i1) : ef_C l yX1_becomeSum wsX1_becomeSum ({ frames := 2, cells := 0, slots := 0, locals := 45 } : Room) [.ref h, .ref g, .ref g2] (dC, dI) vwCl tys ws (fun o w1 => o = none ∧ w1 = wW ws k0 k1 h a cI (wl (Y + Z) : Int) (wd (Y + Z))) := by
  refine ef_C.of (cc := cX1_becomeSum) (maxL := 7) (ret := none) (by decide) rfl (Nat.le_of_ble_eq_true rfl) ?_
  intro p e s m below meth c ls hx hb hml hr hts hown hlocks hK hNX hP hD hS hl
  have hl : lv_has ls 7 [(0, .ref h), (1, .ref g), (2, .ref g2)] := hl
  have hown : s.vm.findClass RX1 = some m.cls := hown
  generalize hH : s.heap = H at hP ⊢
  have hS : va_S (ef_A ws) s.heap H [] := by rw [← hH]; exact hS
  generalize ([] : List Loc) = locs at hS ⊢
  have hw0 := hw
  have ho0 := ho
  have hp0 := hp
  have hP := efP0 hw0 hP
  have hD := efD0 hw0 hD
  have hw : isW (wW ws k0 k1 h a cI ((n : Int)) (F)) k0 k1 h a cI ((n : Int)) (F) := hw0.w _ _
  have ho := ho0.o hoa (wo h a ((n : Int))) (wa cI a (F))
  have hp := hp0.o hpa (wo h a ((n : Int))) (wa cI a (F))
  refine lv_aload_n hx hb dX1_becomeSum_0 rfl (lv_at hl 1 rfl) ?_
  refine va_get (D := (dC, dI)) (ci := 1) (v := .int (iv ((wl Y : Int)))) (C := RX1) (T := TX1) (N := 2) hx hb hts (by decide +kernel) hown hK hP j0 ho.2.1 rfl 1 (by decide) (hts (.fieldLink RX1 15 "ExactFractions$Whole" "used" "I") (by decide +kernel)) (fun _ h9 => h9) rfl dX1_becomeSum_1 ?_
  refine lv_aload_n hx hb dX1_becomeSum_4 rfl (lv_at hl 2 rfl) ?_
  refine va_get (D := (dC, dI)) (ci := 1) (v := .int (iv ((wl Z : Int)))) (C := RX1) (T := TX1) (N := 2) hx hb hts (by decide +kernel) hown hK hP i0 hp.2.1 rfl 1 (by decide) (hts (.fieldLink RX1 15 "ExactFractions$Whole" "used" "I") (by decide +kernel)) (fun _ h9 => h9) rfl dX1_becomeSum_5 ?_
  refine iw_mmax hx hb (hml.trans hl.1.symm) hown (hts (.methodLink RX1 39 Lib.Math.max.name) (by decide +kernel)) (hts (.static Lib.Math.max.name) (by decide +kernel)) (hts (.initialized "java/lang/Math") (by decide +kernel)) (hts (.code Lib.Math.max.name Lib.Math.max.code 2 (some .int)) (by decide +kernel)) (Nat.le_of_ble_eq_true rfl) (Nat.le_of_ble_eq_true rfl) (Nat.zero_le _) (Nat.zero_le _) ⟨by omega, by omega⟩ ⟨by omega, by omega⟩ dX1_becomeSum_8 ?_
  refine iw_topi (y := iv (((max (wl Y) (wl Z) : Nat) : Int))) (congrArg iv (by split <;> omega : ((if ((wl Y : Int)) < ((wl Z : Int)) then ((wl Z : Int)) else ((wl Y : Int))) : Int) = (((max (wl Y) (wl Z) : Nat) : Int)))) ?_
  obtain ⟨M, hM⟩ : ∃ M, M = max (wl Y) (wl Z) := ⟨_, rfl⟩
  rw [← hM]
  refine lv_istore_n (lv' := [(3, .int (iv ((M : Int)))), (0, .ref h), (1, .ref g), (2, .ref g2)]) hx hb dX1_becomeSum_11 rfl hl (by decide) rfl (fun ls hl => ?_)
  refine lv_lconst (v := jv (0)) hx hb dX1_becomeSum_12 (by decide) ?_
  refine lv_lstore (lv' := [(4, .long (jv (0))), (3, .int (iv ((M : Int)))), (0, .ref h), (1, .ref g), (2, .ref g2)]) hx hb dX1_becomeSum_13 hl (by decide) rfl (fun ls hl => ?_)
  refine lv_iconst (v := iv (0)) hx hb dX1_becomeSum_15 (by decide) ?_
  refine lv_istore (lv' := [(6, .int (iv (0))), (4, .long (jv (0))), (3, .int (iv ((M : Int)))), (0, .ref h), (1, .ref g), (2, .ref g2)]) hx hb dX1_becomeSum_16 hl (by decide) rfl (fun ls hl => ?_)
  have loop : ∀ (fuel : Nat) (i : Nat) (cy : Nat) (G : Nat → Nat), (i ≤ M) → (cy ≤ 1) → (∀ j, G j < 4294967296) → (nv G i + cy * 2 ^ (32 * i) = nv (wd Y) i + nv (wd Z) i) → (∀ j, i ≤ j → G j = F j) → (M < i + fuel) → ∀ (H : Heap) (locs : List Loc) (ls : Array Slot), va_P (dC, dI) vwCl (wW ws k0 k1 h a cI (n : Int) G) H → va_D (ef_A ws) (wW ws k0 k1 h a cI (n : Int) G) → va_S (ef_A ws) s.heap H locs → lv_has ls 7 [(0, .ref h), (1, .ref g), (2, .ref g2), (3, .int (iv ((M : Int)))), (4, .long (jv ((cy : Int)))), (6, .int (iv ((i : Int))))] → W p l e ({ frames := 2, cells := 0, slots := 0, locals := 45 } : Room) s m ([.ref h, .ref g, .ref g2] : List Value).toArray below meth c H locs 0 0 (ef_R below (dC, dI) vwCl ws (fun o w1 => o = none ∧ w1 = wW ws k0 k1 h a cI (wl (Y + Z) : Int) (wd (Y + Z))) [.ref h, .ref g, .ref g2] s) (F0 m 18 ls []) := by
    intro fuel
    induction fuel with
    | zero => intro i cy G h1 hc h2 h3 h4 h5; exfalso; omega
    | succ fuel ih =>
      intro i cy G h1 hc h2 h3 h4 h5 H locs ls hP hD hS hl
      have hw : isW (wW ws k0 k1 h a cI ((n : Int)) (G)) k0 k1 h a cI ((n : Int)) (G) := hw0.w _ _
      have ho := ho0.o hoa (wo h a ((n : Int))) (wa cI a (G))
      have hp := hp0.o hpa (wo h a ((n : Int))) (wa cI a (G))
      refine lv_iload hx hb dX1_becomeSum_18 (lv_at hl 5 rfl) ?_
      refine lv_iload_n hx hb dX1_becomeSum_20 rfl (lv_at hl 3 rfl) ?_
      refine iw_icmp_ge (tgt := 63) hx hb dX1_becomeSum_21 (by decide) ⟨by omega, by omega⟩ ⟨by omega, by omega⟩ (fun c1 => ?_) (fun c1 => ?_)
      ·
        have hi : i = M := by omega
        subst hi
        refine lv_aload_n hx hb dX1_becomeSum_63 rfl (lv_at hl 0 rfl) ?_
        refine lv_iload_n hx hb dX1_becomeSum_64 rfl (lv_at hl 3 rfl) ?_
        refine lv_lload hx hb dX1_becomeSum_65 (lv_at hl 4 rfl) ?_
        refine ef_callV (As := [.int (iv ((i : Int))), .long (jv ((cy : Int)))]) (rest := []) ⟨hx, hb, hml, hown, hts⟩ (c_put l dC dI ht hw (i : Int) ⟨by omega, by omega⟩ (cy : Int)) (cwV 2 hts gX1_becomeSum_X1_put rfl rfl rfl (by decide +kernel) ⟨Nat.le_of_ble_eq_true rfl, Nat.le_of_ble_eq_true rfl⟩) hK hNX hP hD hS k0 hw.2.1 rfl rfl rfl hl.1 rfl (Nat.le_of_ble_eq_true rfl) dX1_becomeSum_67 ⟨Nat.zero_le _, Nat.zero_le _⟩ (fun o w1 H locs hq hP hD hS => ?_)
        obtain ⟨rfl, rfl⟩ := hq
        have hP := efP2 hw0.1 hP
        have hD := efD2 hw0.1 hD
        have hw : isW (wW ws k0 k1 h a cI ((n : Int)) (wp G (i : Int) (cy : Int))) k0 k1 h a cI ((n : Int)) (wp G (i : Int) (cy : Int)) := hw0.w _ _
        have ho := ho0.o hoa (wo h a ((n : Int))) (wa cI a (wp G (i : Int) (cy : Int)))
        have hp := hp0.o hpa (wo h a ((n : Int))) (wa cI a (wp G (i : Int) (cy : Int)))
        refine W.eq (g2 := F0 m 70 ls []) rfl ?_
        have hv : nv (wp G (i : Int) (cy : Int)) (min (i + 1) 301) = Y + Z := by
          rw [show min (i + 1) 301 = i + 1 by omega]
          show nv (wp G (i : Int) (cy : Int)) i + wp G (i : Int) (cy : Int) i * 2 ^ (32 * i) = _
          rw [nv_cong (G := G) (fun j hj => wp_ne (by omega)), wp_at (by omega), Nat.mod_eq_of_lt (by omega), h3, nv_self' (by omega), nv_self' (by omega)]
        refine lv_aload_n hx hb dX1_becomeSum_70 rfl (lv_at hl 0 rfl) ?_
        refine lv_iload_n hx hb dX1_becomeSum_71 rfl (lv_at hl 3 rfl) ?_
        refine lv_iconst (v := iv (1)) hx hb dX1_becomeSum_72 (by decide) ?_
        refine iw_iadd hx hb dX1_becomeSum_73 ?_
        refine iw_topi (y := iv (((i + 1 : Nat) : Int))) (congrArg iv (by omega : ((((i : Int)) + (1)) : Int) = (((i + 1 : Nat) : Int)))) ?_
        refine ef_callV (As := [.int (iv (((i + 1 : Nat) : Int)))]) (rest := []) ⟨hx, hb, hml, hown, hts⟩ (c_settle l dC dI ht hw hn (wp_lt h2 _ _) (i + 1) (by omega) (fun j q1 q2 q3 => by rw [wp_ne (by omega), h4 j (by omega)]; exact hz j q2 q3)) (cwV 1 hts gX1_becomeSum_X1_settle rfl rfl rfl (by decide +kernel) ⟨Nat.le_of_ble_eq_true rfl, Nat.le_of_ble_eq_true rfl⟩) hK hNX hP hD hS k0 hw.2.1 rfl rfl rfl hl.1 rfl (Nat.le_of_ble_eq_true rfl) dX1_becomeSum_74 ⟨Nat.zero_le _, Nat.zero_le _⟩ (fun o w1 H locs hq hP hD hS => ?_)
        rw [hv] at hq
        obtain ⟨rfl, rfl⟩ := hq
        have hP := efP2 hw0.1 hP
        have hD := efD2 hw0.1 hD
        have hw : isW (wW ws k0 k1 h a cI ((wl (Y + Z) : Int)) (wd (Y + Z))) k0 k1 h a cI ((wl (Y + Z) : Int)) (wd (Y + Z)) := hw0.w _ _
        have ho := ho0.o hoa (wo h a ((wl (Y + Z) : Int))) (wa cI a (wd (Y + Z)))
        have hp := hp0.o hpa (wo h a ((wl (Y + Z) : Int))) (wa cI a (wd (Y + Z)))
        refine W.eq (g2 := F0 m 77 ls []) rfl ?_
        exact ef_vret hx hb hr hlocks hP hD hS dX1_becomeSum_77 (⟨rfl, rfl⟩)
      ·
        refine lv_lload hx hb dX1_becomeSum_24 (lv_at hl 4 rfl) ?_
        refine lv_aload_n hx hb dX1_becomeSum_26 rfl (lv_at hl 1 rfl) ?_
        refine lv_iload hx hb dX1_becomeSum_27 (lv_at hl 5 rfl) ?_
        refine ef_callV (As := [.int (iv ((i : Int)))]) (rest := [.long (jv ((cy : Int)))]) ⟨hx, hb, hml, hown, hts⟩ (c_valueAt l dC dI ht ho (wd_lt Y) (i : Int) ⟨by omega, by omega⟩) (cwV 1 hts gX1_becomeSum_X1_valueAt rfl rfl rfl (by decide +kernel) ⟨Nat.le_of_ble_eq_true rfl, Nat.le_of_ble_eq_true rfl⟩) hK hNX hP hD hS j0 ho.2.1 rfl rfl rfl hl.1 rfl (Nat.le_of_ble_eq_true rfl) dX1_becomeSum_29 ⟨Nat.zero_le _, Nat.zero_le _⟩ (fun o w1 H locs hq hP hD hS => ?_)
        obtain ⟨rfl, e9⟩ := hq
        rw [e9] at hP hD
        refine W.eq (g2 := F0 m 32 ls [.long (jv (wz (wd Y) (i : Int))), .long (jv ((cy : Int)))]) rfl ?_
        refine iw_topl (y := jv (((wd Y i : Nat) : Int))) (by rw [wz_in (by omega)]) ?_
        refine lv_aload_n hx hb dX1_becomeSum_32 rfl (lv_at hl 2 rfl) ?_
        refine lv_iload hx hb dX1_becomeSum_33 (lv_at hl 5 rfl) ?_
        refine ef_callV (As := [.int (iv ((i : Int)))]) (rest := [.long (jv (((wd Y i : Nat) : Int))), .long (jv ((cy : Int)))]) ⟨hx, hb, hml, hown, hts⟩ (c_valueAt l dC dI ht hp (wd_lt Z) (i : Int) ⟨by omega, by omega⟩) (cwV 1 hts gX1_becomeSum_X1_valueAt rfl rfl rfl (by decide +kernel) ⟨Nat.le_of_ble_eq_true rfl, Nat.le_of_ble_eq_true rfl⟩) hK hNX hP hD hS i0 hp.2.1 rfl rfl rfl hl.1 rfl (Nat.le_of_ble_eq_true rfl) dX1_becomeSum_35 ⟨Nat.zero_le _, Nat.zero_le _⟩ (fun o w1 H locs hq hP hD hS => ?_)
        obtain ⟨rfl, e9⟩ := hq
        rw [e9] at hP hD
        refine W.eq (g2 := F0 m 38 ls [.long (jv (wz (wd Z) (i : Int))), .long (jv (((wd Y i : Nat) : Int))), .long (jv ((cy : Int)))]) rfl ?_
        refine iw_topl (y := jv (((wd Z i : Nat) : Int))) (by rw [wz_in (by omega)]) ?_
        refine iw_ladd hx hb dX1_becomeSum_38 ?_
        refine iw_ladd hx hb dX1_becomeSum_39 ?_
        have hyl := wd_lt Y i
        have hzl := wd_lt Z i
        obtain ⟨z, hz9⟩ : ∃ z, z = cy + (wd Y i + wd Z i) := ⟨_, rfl⟩
        refine iw_topl (y := jv ((z : Int))) (congrArg jv (by omega : ((((cy : Int)) + ((((wd Y i : Nat) : Int)) + (((wd Z i : Nat) : Int)))) : Int) = ((z : Int)))) ?_
        refine lv_lstore (lv' := [(4, .long (jv ((z : Int)))), (0, .ref h), (1, .ref g), (2, .ref g2), (3, .int (iv ((M : Int)))), (6, .int (iv ((i : Int))))]) hx hb dX1_becomeSum_40 hl (by decide) rfl (fun ls hl => ?_)
        refine lv_aload_n hx hb dX1_becomeSum_42 rfl (lv_at hl 1 rfl) ?_
        refine lv_iload hx hb dX1_becomeSum_43 (lv_at hl 5 rfl) ?_
        refine lv_lload hx hb dX1_becomeSum_45 (lv_at hl 0 rfl) ?_
        refine ef_callV (As := [.int (iv ((i : Int))), .long (jv ((z : Int)))]) (rest := []) ⟨hx, hb, hml, hown, hts⟩ (c_put l dC dI ht hw (i : Int) ⟨by omega, by omega⟩ (z : Int)) (cwV 2 hts gX1_becomeSum_X1_put rfl rfl rfl (by decide +kernel) ⟨Nat.le_of_ble_eq_true rfl, Nat.le_of_ble_eq_true rfl⟩) hK hNX hP hD hS k0 hw.2.1 rfl rfl rfl hl.1 rfl (Nat.le_of_ble_eq_true rfl) dX1_becomeSum_47 ⟨Nat.zero_le _, Nat.zero_le _⟩ (fun o w1 H locs hq hP hD hS => ?_)
        obtain ⟨rfl, rfl⟩ := hq
        have hP := efP2 hw0.1 hP
        have hD := efD2 hw0.1 hD
        have hw : isW (wW ws k0 k1 h a cI ((n : Int)) (wp G (i : Int) (z : Int))) k0 k1 h a cI ((n : Int)) (wp G (i : Int) (z : Int)) := hw0.w _ _
        have ho := ho0.o hoa (wo h a ((n : Int))) (wa cI a (wp G (i : Int) (z : Int)))
        have hp := hp0.o hpa (wo h a ((n : Int))) (wa cI a (wp G (i : Int) (z : Int)))
        refine W.eq (g2 := F0 m 50 ls []) rfl ?_
        refine lv_lload hx hb dX1_becomeSum_50 (lv_at hl 0 rfl) ?_
        refine lv_bipush (v := iv (32)) hx hb dX1_becomeSum_52 (by decide) ?_
        refine iw_lushr hx hb (by omega) (by omega) dX1_becomeSum_54 ?_
        refine iw_topl (y := jv (((z / 4294967296 : Nat) : Int))) (congrArg jv (by omega : ((((z : Int)) / 4294967296) : Int) = (((z / 4294967296 : Nat) : Int)))) ?_
        refine lv_lstore (lv' := [(4, .long (jv (((z / 4294967296 : Nat) : Int)))), (0, .ref h), (1, .ref g), (2, .ref g2), (3, .int (iv ((M : Int)))), (6, .int (iv ((i : Int))))]) hx hb dX1_becomeSum_55 hl (by decide) rfl (fun ls hl => ?_)
        refine lv_iinc (v := iv (((i + 1 : Nat) : Int))) (lv' := [(6, .int (iv (((i + 1 : Nat) : Int)))), (4, .long (jv (((z / 4294967296 : Nat) : Int)))), (0, .ref h), (1, .ref g), (2, .ref g2), (3, .int (iv ((M : Int))))]) hx hb dX1_becomeSum_57 hl (k := 5) rfl (iv_inc i) (by decide) rfl (fun ls hl => ?_)
        refine lv_goto (tgt := 18) hx hb dX1_becomeSum_60 (by decide) ?_
        exact ih (i + 1) (z / 4294967296) (wp G (i : Int) (z : Int)) (by omega) (by omega) (wp_lt h2 _ _) (by
              rw [nv_step (by omega) h3 hz9]
              show _ = nv (wd Y) i + wd Y i * 2 ^ (32 * i) + (nv (wd Z) i + wd Z i * 2 ^ (32 * i))
              rw [Nat.add_mul]
              omega) (fun j hj => by rw [wp_ne (by omega)]; exact h4 j (by omega)) (by omega) H locs ls hP hD hS (lv_sub hl [2, 3, 4, 5, 1, 0] rfl)
  exact loop (M + 1) (0) (0) (F) (Nat.zero_le _) (by omega) (hF) (rfl) (fun j _ => rfl) (by omega) H locs ls hP hD hS (lv_sub hl [3, 4, 5, 2, 1, 0] rfl)

set_option maxRecDepth 100000 in
set_option maxHeartbeats 4000000 in
/-- becomeDifference(greater, lesser) -/
theorem c_diff (l : Launch) (dC : Nat → ClassId) (dI : Nat → Nat → Nat) {cI : ClassId} {tys : List (ClassId × FieldType)} (ht : tys[0]? = some (cI, .int)) {ws : va_W} {k0 k1 h a n : Nat} {F : Nat → Nat} (hw : isW ws k0 k1 h a cI (n : Int) F) (hn : n ≤ 301) (hF : ∀ j, F j < 4294967296) (hz : ∀ j, n ≤ j → j < 301 → F j = 0) {j0 j1 g b Y : Nat} (ho : isW ws j0 j1 g b cI (wl Y : Int) (wd Y)) (hY : wl Y ≤ 300) (hoa : apt k0 k1 j0 j1) {i0 i1 g2 b2 Z : Nat} (hp : isW ws i0 i1 g2 b2 cI (wl Z : Int) (wd Z)) (hZ : wl Z ≤ 300) (hpa : apt k0 k1 i0 i1) (hle : Z ≤ Y) : ef_C l yX1_becomeDifference wsX1_becomeDifference ({ frames := 2, cells := 0, slots := 0, locals := 45 } : Room) [.ref h, .ref g, .ref g2] (dC, dI) vwCl tys ws (fun o w1 => o = none ∧ w1 = wW ws k0 k1 h a cI (wl (Y - Z) : Int) (wd (Y - Z))) := by
  refine ef_C.of (cc := cX1_becomeDifference) (maxL := 6) (ret := none) (by decide) rfl (Nat.le_of_ble_eq_true rfl) ?_
  intro p e s m below meth c ls hx hb hml hr hts hown hlocks hK hNX hP hD hS hl
  have hl : lv_has ls 6 [(0, .ref h), (1, .ref g), (2, .ref g2)] := hl
  have hown : s.vm.findClass RX1 = some m.cls := hown
  generalize hH : s.heap = H at hP ⊢
  have hS : va_S (ef_A ws) s.heap H [] := by rw [← hH]; exact hS
  generalize ([] : List Loc) = locs at hS ⊢
  have hw0 := hw
  have ho0 := ho
  have hp0 := hp
  have hP := efP0 hw0 hP
  have hD := efD0 hw0 hD
  have hw : isW (wW ws k0 k1 h a cI ((n : Int)) (F)) k0 k1 h a cI ((n : Int)) (F) := hw0.w _ _
  have ho := ho0.o hoa (wo h a ((n : Int))) (wa cI a (F))
  have hp := hp0.o hpa (wo h a ((n : Int))) (wa cI a (F))
  have hwz : wl Z ≤ wl Y := wl_le (Nat.lt_of_le_of_lt hle (wl_lt Y))
  refine lv_lconst (v := jv (0)) hx hb dX1_becomeDifference_0 (by decide) ?_
  refine lv_lstore_n (lv' := [(3, .long (jv (0))), (0, .ref h), (1, .ref g), (2, .ref g2)]) hx hb dX1_becomeDifference_1 rfl hl (by decide) rfl (fun ls hl => ?_)
  refine lv_iconst (v := iv (0)) hx hb dX1_becomeDifference_2 (by decide) ?_
  refine lv_istore (lv' := [(5, .int (iv (0))), (3, .long (jv (0))), (0, .ref h), (1, .ref g), (2, .ref g2)]) hx hb dX1_becomeDifference_3 hl (by decide) rfl (fun ls hl => ?_)
  have loop : ∀ (fuel : Nat) (i : Nat) (bo : Nat) (G : Nat → Nat), (i ≤ wl Y) → (bo ≤ 1) → (∀ j, G j < 4294967296) → (nv G i + nv (wd Z) i = nv (wd Y) i + bo * 2 ^ (32 * i)) → (∀ j, i ≤ j → G j = F j) → (wl Y < i + fuel) → ∀ (H : Heap) (locs : List Loc) (ls : Array Slot), va_P (dC, dI) vwCl (wW ws k0 k1 h a cI (n : Int) G) H → va_D (ef_A ws) (wW ws k0 k1 h a cI (n : Int) G) → va_S (ef_A ws) s.heap H locs → lv_has ls 6 [(0, .ref h), (1, .ref g), (2, .ref g2), (3, .long (jv (-(bo : Int)))), (5, .int (iv ((i : Int))))] → W p l e ({ frames := 2, cells := 0, slots := 0, locals := 45 } : Room) s m ([.ref h, .ref g, .ref g2] : List Value).toArray below meth c H locs 0 0 (ef_R below (dC, dI) vwCl ws (fun o w1 => o = none ∧ w1 = wW ws k0 k1 h a cI (wl (Y - Z) : Int) (wd (Y - Z))) [.ref h, .ref g, .ref g2] s) (F0 m 5 ls []) := by
    intro fuel
    induction fuel with
    | zero => intro i bo G h1 hc h2 h3 h4 h5; exfalso; omega
    | succ fuel ih =>
      intro i bo G h1 hc h2 h3 h4 h5 H locs ls hP hD hS hl
      have hw : isW (wW ws k0 k1 h a cI ((n : Int)) (G)) k0 k1 h a cI ((n : Int)) (G) := hw0.w _ _
      have ho := ho0.o hoa (wo h a ((n : Int))) (wa cI a (G))
      have hp := hp0.o hpa (wo h a ((n : Int))) (wa cI a (G))
      refine lv_iload hx hb dX1_becomeDifference_5 (lv_at hl 4 rfl) ?_
      refine lv_aload_n hx hb dX1_becomeDifference_7 rfl (lv_at hl 1 rfl) ?_
      refine va_get (D := (dC, dI)) (ci := 1) (v := .int (iv ((wl Y : Int)))) (C := RX1) (T := TX1) (N := 2) hx hb hts (by decide +kernel) hown hK hP j0 ho.2.1 rfl 1 (by decide) (hts (.fieldLink RX1 15 "ExactFractions$Whole" "used" "I") (by decide +kernel)) (fun _ h9 => h9) rfl dX1_becomeDifference_8 ?_
      refine iw_icmp_ge (tgt := 48) hx hb dX1_becomeDifference_11 (by decide) ⟨by omega, by omega⟩ ⟨by omega, by omega⟩ (fun c1 => ?_) (fun c1 => ?_)
      ·
        have hi : i = wl Y := by omega
        subst hi
        have hv : nv G (min (wl Y) 301) = Y - Z := by
          rw [show min (wl Y) 301 = wl Y by omega]
          rw [nv_self' hwz, nv_self] at h3
          have q1 := nv_lt (F := G) (k := wl Y) (fun j _ => h2 j)
          have q2 : bo = 0 := by
            rcases Nat.lt_or_ge 0 bo with q | q
            · have q4 : bo = 1 := by omega
              rw [q4] at h3
              omega
            · omega
          rw [q2] at h3
          omega
        refine lv_aload_n hx hb dX1_becomeDifference_48 rfl (lv_at hl 0 rfl) ?_
        refine lv_aload_n hx hb dX1_becomeDifference_49 rfl (lv_at hl 1 rfl) ?_
        refine va_get (D := (dC, dI)) (ci := 1) (v := .int (iv ((wl Y : Int)))) (C := RX1) (T := TX1) (N := 2) hx hb hts (by decide +kernel) hown hK hP j0 ho.2.1 rfl 1 (by decide) (hts (.fieldLink RX1 15 "ExactFractions$Whole" "used" "I") (by decide +kernel)) (fun _ h9 => h9) rfl dX1_becomeDifference_50 ?_
        refine ef_callV (As := [.int (iv ((wl Y : Int)))]) (rest := []) ⟨hx, hb, hml, hown, hts⟩ (c_settle l dC dI ht hw hn h2 (wl Y) (by omega) (fun j q1 q2 q3 => by rw [h4 j (by omega)]; exact hz j q2 q3)) (cwV 1 hts gX1_becomeDifference_X1_settle rfl rfl rfl (by decide +kernel) ⟨Nat.le_of_ble_eq_true rfl, Nat.le_of_ble_eq_true rfl⟩) hK hNX hP hD hS k0 hw.2.1 rfl rfl rfl hl.1 rfl (Nat.le_of_ble_eq_true rfl) dX1_becomeDifference_53 ⟨Nat.zero_le _, Nat.zero_le _⟩ (fun o w1 H locs hq hP hD hS => ?_)
        rw [hv] at hq
        obtain ⟨rfl, rfl⟩ := hq
        have hP := efP2 hw0.1 hP
        have hD := efD2 hw0.1 hD
        have hw : isW (wW ws k0 k1 h a cI ((wl (Y - Z) : Int)) (wd (Y - Z))) k0 k1 h a cI ((wl (Y - Z) : Int)) (wd (Y - Z)) := hw0.w _ _
        have ho := ho0.o hoa (wo h a ((wl (Y - Z) : Int))) (wa cI a (wd (Y - Z)))
        have hp := hp0.o hpa (wo h a ((wl (Y - Z) : Int))) (wa cI a (wd (Y - Z)))
        refine W.eq (g2 := F0 m 56 ls []) rfl ?_
        exact ef_vret hx hb hr hlocks hP hD hS dX1_becomeDifference_56 (⟨rfl, rfl⟩)
      ·
        refine lv_lload_n hx hb dX1_becomeDifference_14 rfl (lv_at hl 3 rfl) ?_
        refine lv_aload_n hx hb dX1_becomeDifference_15 rfl (lv_at hl 1 rfl) ?_
        refine lv_iload hx hb dX1_becomeDifference_16 (lv_at hl 4 rfl) ?_
        refine ef_callV (As := [.int (iv ((i : Int)))]) (rest := [.long (jv (-(bo : Int)))]) ⟨hx, hb, hml, hown, hts⟩ (c_valueAt l dC dI ht ho (wd_lt Y) (i : Int) ⟨by omega, by omega⟩) (cwV 1 hts gX1_becomeDifference_X1_valueAt rfl rfl rfl (by decide +kernel) ⟨Nat.le_of_ble_eq_true rfl, Nat.le_of_ble_eq_true rfl⟩) hK hNX hP hD hS j0 ho.2.1 rfl rfl rfl hl.1 rfl (Nat.le_of_ble_eq_true rfl) dX1_becomeDifference_18 ⟨Nat.zero_le _, Nat.zero_le _⟩ (fun o w1 H locs hq hP hD hS => ?_)
        obtain ⟨rfl, e9⟩ := hq
        rw [e9] at hP hD
        refine W.eq (g2 := F0 m 21 ls [.long (jv (wz (wd Y) (i : Int))), .long (jv (-(bo : Int)))]) rfl ?_
        refine iw_topl (y := jv (((wd Y i : Nat) : Int))) (by rw [wz_in (by omega)]) ?_
        refine lv_aload_n hx hb dX1_becomeDifference_21 rfl (lv_at hl 2 rfl) ?_
        refine lv_iload hx hb dX1_becomeDifference_22 (lv_at hl 4 rfl) ?_
        refine ef_callV (As := [.int (iv ((i : Int)))]) (rest := [.long (jv (((wd Y i : Nat) : Int))), .long (jv (-(bo : Int)))]) ⟨hx, hb, hml, hown, hts⟩ (c_valueAt l dC dI ht hp (wd_lt Z) (i : Int) ⟨by omega, by omega⟩) (cwV 1 hts gX1_becomeDifference_X1_valueAt rfl rfl rfl (by decide +kernel) ⟨Nat.le_of_ble_eq_true rfl, Nat.le_of_ble_eq_true rfl⟩) hK hNX hP hD hS i0 hp.2.1 rfl rfl rfl hl.1 rfl (Nat.le_of_ble_eq_true rfl) dX1_becomeDifference_24 ⟨Nat.zero_le _, Nat.zero_le _⟩ (fun o w1 H locs hq hP hD hS => ?_)
        obtain ⟨rfl, e9⟩ := hq
        rw [e9] at hP hD
        refine W.eq (g2 := F0 m 27 ls [.long (jv (wz (wd Z) (i : Int))), .long (jv (((wd Y i : Nat) : Int))), .long (jv (-(bo : Int)))]) rfl ?_
        refine iw_topl (y := jv (((wd Z i : Nat) : Int))) (by rw [wz_in (by omega)]) ?_
        refine iw_lsub hx hb dX1_becomeDifference_27 ?_
        refine iw_ladd hx hb dX1_becomeDifference_28 ?_
        have hyl := wd_lt Y i
        have hzl := wd_lt Z i
        obtain ⟨z, hz9⟩ : ∃ z : Int, z = -(bo : Int) + ((wd Y i : Int) - (wd Z i : Int)) := ⟨_, rfl⟩
        refine iw_topl (y := jv (z)) (congrArg jv (by rw [hz9] : (((-(bo : Int)) + ((((wd Y i : Nat) : Int)) - (((wd Z i : Nat) : Int)))) : Int) = (z))) ?_
        refine lv_lstore_n (lv' := [(3, .long (jv (z))), (0, .ref h), (1, .ref g), (2, .ref g2), (5, .int (iv ((i : Int))))]) hx hb dX1_becomeDifference_29 rfl hl (by decide) rfl (fun ls hl => ?_)
        refine lv_aload_n hx hb dX1_becomeDifference_30 rfl (lv_at hl 1 rfl) ?_
        refine lv_iload hx hb dX1_becomeDifference_31 (lv_at hl 4 rfl) ?_
        refine lv_lload_n hx hb dX1_becomeDifference_33 rfl (lv_at hl 0 rfl) ?_
        refine ef_callV (As := [.int (iv ((i : Int))), .long (jv (z))]) (rest := []) ⟨hx, hb, hml, hown, hts⟩ (c_put l dC dI ht hw (i : Int) ⟨by omega, by omega⟩ z) (cwV 2 hts gX1_becomeDifference_X1_put rfl rfl rfl (by decide +kernel) ⟨Nat.le_of_ble_eq_true rfl, Nat.le_of_ble_eq_true rfl⟩) hK hNX hP hD hS k0 hw.2.1 rfl rfl rfl hl.1 rfl (Nat.le_of_ble_eq_true rfl) dX1_becomeDifference_34 ⟨Nat.zero_le _, Nat.zero_le _⟩ (fun o w1 H locs hq hP hD hS => ?_)
        obtain ⟨rfl, rfl⟩ := hq
        have hP := efP2 hw0.1 hP
        have hD := efD2 hw0.1 hD
        have hw : isW (wW ws k0 k1 h a cI ((n : Int)) (wp G (i : Int) z)) k0 k1 h a cI ((n : Int)) (wp G (i : Int) z) := hw0.w _ _
        have ho := ho0.o hoa (wo h a ((n : Int))) (wa cI a (wp G (i : Int) z))
        have hp := hp0.o hpa (wo h a ((n : Int))) (wa cI a (wp G (i : Int) z))
        refine W.eq (g2 := F0 m 37 ls []) rfl ?_
        obtain ⟨bo2, hbo2⟩ : ∃ q : Nat, q = if z < 0 then 1 else 0 := ⟨_, rfl⟩
        have hbo3 : z / 4294967296 = -(bo2 : Int) := by rw [hbo2]; split <;> omega
        refine lv_lload_n hx hb dX1_becomeDifference_37 rfl (lv_at hl 0 rfl) ?_
        refine lv_bipush (v := iv (32)) hx hb dX1_becomeDifference_38 (by decide) ?_
        refine iw_lshr hx hb ⟨by omega, by omega⟩ dX1_becomeDifference_40 ?_
        refine iw_topl (y := jv (-(bo2 : Int))) (congrArg jv (by exact hbo3 : (((z) / 4294967296) : Int) = (-(bo2 : Int)))) ?_
        refine lv_lstore_n (lv' := [(3, .long (jv (-(bo2 : Int)))), (0, .ref h), (1, .ref g), (2, .ref g2), (5, .int (iv ((i : Int))))]) hx hb dX1_becomeDifference_41 rfl hl (by decide) rfl (fun ls hl => ?_)
        refine lv_iinc (v := iv (((i + 1 : Nat) : Int))) (lv' := [(5, .int (iv (((i + 1 : Nat) : Int)))), (3, .long (jv (-(bo2 : Int)))), (0, .ref h), (1, .ref g), (2, .ref g2)]) hx hb dX1_becomeDifference_42 hl (k := 4) rfl (iv_inc i) (by decide) rfl (fun ls hl => ?_)
        refine lv_goto (tgt := 5) hx hb dX1_becomeDifference_45 (by decide) ?_
        exact ih (i + 1) (bo2) (wp G (i : Int) z) (by omega) (by rw [hbo2]; split <;> omega) (wp_lt h2 _ _) (nv_dstep (by omega) h3 (by rw [hz9] at hbo3 ⊢; omega)) (fun j hj => by rw [wp_ne (by omega)]; exact h4 j (by omega)) (by omega) H locs ls hP hD hS (lv_sub hl [2, 3, 4, 1, 0] rfl)
  exact loop (wl Y + 1) (0) (0) (F) (Nat.zero_le _) (by omega) (hF) (rfl) (fun j _ => rfl) (by omega) H locs ls hP hD hS (lv_sub hl [2, 3, 4, 1, 0] rfl)

set_option maxRecDepth 100000 in
set_option maxHeartbeats 4000000 in
/-- becomeDifference(greater, lesser), the greater is this -/
theorem c_diffA (l : Launch) (dC : Nat → ClassId) (dI : Nat → Nat → Nat) {cI : ClassId} {tys : List (ClassId × FieldType)} (ht : tys[0]? = some (cI, .int)) {ws : va_W} {k0 k1 h a Y : Nat} (hw : isW ws k0 k1 h a cI (wl Y : Int) (wd Y)) (hY : wl Y ≤ 300) {i0 i1 g2 b2 Z : Nat} (hp : isW ws i0 i1 g2 b2 cI (wl Z : Int) (wd Z)) (hZ : wl Z ≤ 300) (hpa : apt k0 k1 i0 i1) (hle : Z ≤ Y) : ef_C l yX1_becomeDifference wsX1_becomeDifference ({ frames := 2, cells := 0, slots := 0, locals := 45 } : Room) [.ref h, .ref h, .ref g2] (dC, dI) vwCl tys ws (fun o w1 => o = none ∧ w1 = wW ws k0 k1 h a cI (wl (Y - Z) : Int) (wd (Y - Z))) := by
  refine ef_C.of (cc := cX1_becomeDifference) (maxL := 6) (ret := none) (by decide) rfl (Nat.le_of_ble_eq_true rfl) ?_
  intro p e s m below meth c ls hx hb hml hr hts hown hlocks hK hNX hP hD hS hl
  have hl : lv_has ls 6 [(0, .ref h), (1, .ref h), (2, .ref g2)] := hl
  have hown : s.vm.findClass RX1 = some m.cls := hown
  generalize hH : s.heap = H at hP ⊢
  have hS : va_S (ef_A ws) s.heap H [] := by rw [← hH]; exact hS
  generalize ([] : List Loc) = locs at hS ⊢
  have hn : wl Y ≤ 301 := by omega
  have hF := wd_lt Y
  have hz : ∀ j, wl Y ≤ j → j < 301 → wd Y j = 0 := fun j q _ => wd_above q
  have hw0 := hw
  have hp0 := hp
  have hP := efP0 hw0 hP
  have hD := efD0 hw0 hD
  have hw : isW (wW ws k0 k1 h a cI ((wl Y : Int)) (wd Y)) k0 k1 h a cI ((wl Y : Int)) (wd Y) := hw0.w _ _
  have hp := hp0.o hpa (wo h a ((wl Y : Int))) (wa cI a (wd Y))
  have hwz : wl Z ≤ wl Y := wl_le (Nat.lt_of_le_of_lt hle (wl_lt Y))
  refine lv_lconst (v := jv (0)) hx hb dX1_becomeDifference_0 (by decide) ?_
  refine lv_lstore_n (lv' := [(3, .long (jv (0))), (0, .ref h), (1, .ref h), (2, .ref g2)]) hx hb dX1_becomeDifference_1 rfl hl (by decide) rfl (fun ls hl => ?_)
  refine lv_iconst (v := iv (0)) hx hb dX1_becomeDifference_2 (by decide) ?_
  refine lv_istore (lv' := [(5, .int (iv (0))), (3, .long (jv (0))), (0, .ref h), (1, .ref h), (2, .ref g2)]) hx hb dX1_becomeDifference_3 hl (by decide) rfl (fun ls hl => ?_)
  have loop : ∀ (fuel : Nat) (i : Nat) (bo : Nat) (G : Nat → Nat), (i ≤ wl Y) → (bo ≤ 1) → (∀ j, G j < 4294967296) → (nv G i + nv (wd Z) i = nv (wd Y) i + bo * 2 ^ (32 * i)) → (∀ j, i ≤ j → G j = wd Y j) → (wl Y < i + fuel) → ∀ (H : Heap) (locs : List Loc) (ls : Array Slot), va_P (dC, dI) vwCl (wW ws k0 k1 h a cI (wl Y : Int) G) H → va_D (ef_A ws) (wW ws k0 k1 h a cI (wl Y : Int) G) → va_S (ef_A ws) s.heap H locs → lv_has ls 6 [(0, .ref h), (1, .ref h), (2, .ref g2), (3, .long (jv (-(bo : Int)))), (5, .int (iv ((i : Int))))] → W p l e ({ frames := 2, cells := 0, slots := 0, locals := 45 } : Room) s m ([.ref h, .ref h, .ref g2] : List Value).toArray below meth c H locs 0 0 (ef_R below (dC, dI) vwCl ws (fun o w1 => o = none ∧ w1 = wW ws k0 k1 h a cI (wl (Y - Z) : Int) (wd (Y - Z))) [.ref h, .ref h, .ref g2] s) (F0 m 5 ls []) := by
    intro fuel
    induction fuel with
    | zero => intro i bo G h1 hc h2 h3 h4 h5; exfalso; omega
    | succ fuel ih =>
      intro i bo G h1 hc h2 h3 h4 h5 H locs ls hP hD hS hl
      have hw : isW (wW ws k0 k1 h a cI ((wl Y : Int)) (G)) k0 k1 h a cI ((wl Y : Int)) (G) := hw0.w _ _
      have hp := hp0.o hpa (wo h a ((wl Y : Int))) (wa cI a (G))
      refine lv_iload hx hb dX1_becomeDifference_5 (lv_at hl 4 rfl) ?_
      refine lv_aload_n hx hb dX1_becomeDifference_7 rfl (lv_at hl 1 rfl) ?_
      refine va_get (D := (dC, dI)) (ci := 1) (v := .int (iv ((wl Y : Int)))) (C := RX1) (T := TX1) (N := 2) hx hb hts (by decide +kernel) hown hK hP k0 hw.2.1 rfl 1 (by decide) (hts (.fieldLink RX1 15 "ExactFractions$Whole" "used" "I") (by decide +kernel)) (fun _ h9 => h9) rfl dX1_becomeDifference_8 ?_
      refine iw_icmp_ge (tgt := 48) hx hb dX1_becomeDifference_11 (by decide) ⟨by omega, by omega⟩ ⟨by omega, by omega⟩ (fun c1 => ?_) (fun c1 => ?_)
      ·
        have hi : i = wl Y := by omega
        subst hi
        have hv : nv G (min (wl Y) 301) = Y - Z := by
          rw [show min (wl Y) 301 = wl Y by omega]
          rw [nv_self' hwz, nv_self] at h3
          have q1 := nv_lt (F := G) (k := wl Y) (fun j _ => h2 j)
          have q2 : bo = 0 := by
            rcases Nat.lt_or_ge 0 bo with q | q
            · have q4 : bo = 1 := by omega
              rw [q4] at h3
              omega
            · omega
          rw [q2] at h3
          omega
        refine lv_aload_n hx hb dX1_becomeDifference_48 rfl (lv_at hl 0 rfl) ?_
        refine lv_aload_n hx hb dX1_becomeDifference_49 rfl (lv_at hl 1 rfl) ?_
        refine va_get (D := (dC, dI)) (ci := 1) (v := .int (iv ((wl Y : Int)))) (C := RX1) (T := TX1) (N := 2) hx hb hts (by decide +kernel) hown hK hP k0 hw.2.1 rfl 1 (by decide) (hts (.fieldLink RX1 15 "ExactFractions$Whole" "used" "I") (by decide +kernel)) (fun _ h9 => h9) rfl dX1_becomeDifference_50 ?_
        refine ef_callV (As := [.int (iv ((wl Y : Int)))]) (rest := []) ⟨hx, hb, hml, hown, hts⟩ (c_settle l dC dI ht hw hn h2 (wl Y) (by omega) (fun j q1 q2 q3 => by rw [h4 j (by omega)]; exact hz j q2 q3)) (cwV 1 hts gX1_becomeDifference_X1_settle rfl rfl rfl (by decide +kernel) ⟨Nat.le_of_ble_eq_true rfl, Nat.le_of_ble_eq_true rfl⟩) hK hNX hP hD hS k0 hw.2.1 rfl rfl rfl hl.1 rfl (Nat.le_of_ble_eq_true rfl) dX1_becomeDifference_53 ⟨Nat.zero_le _, Nat.zero_le _⟩ (fun o w1 H locs hq hP hD hS => ?_)
        rw [hv] at hq
        obtain ⟨rfl, rfl⟩ := hq
        have hP := efP2 hw0.1 hP
        have hD := efD2 hw0.1 hD
        have hw : isW (wW ws k0 k1 h a cI ((wl (Y - Z) : Int)) (wd (Y - Z))) k0 k1 h a cI ((wl (Y - Z) : Int)) (wd (Y - Z)) := hw0.w _ _
        have hp := hp0.o hpa (wo h a ((wl (Y - Z) : Int))) (wa cI a (wd (Y - Z)))
        refine W.eq (g2 := F0 m 56 ls []) rfl ?_
        exact ef_vret hx hb hr hlocks hP hD hS dX1_becomeDifference_56 (⟨rfl, rfl⟩)
      ·
        refine lv_lload_n hx hb dX1_becomeDifference_14 rfl (lv_at hl 3 rfl) ?_
        refine lv_aload_n hx hb dX1_becomeDifference_15 rfl (lv_at hl 1 rfl) ?_
        refine lv_iload hx hb dX1_becomeDifference_16 (lv_at hl 4 rfl) ?_
        refine ef_callV (As := [.int (iv ((i : Int)))]) (rest := [.long (jv (-(bo : Int)))]) ⟨hx, hb, hml, hown, hts⟩ (c_valueAt l dC dI ht hw h2 (i : Int) ⟨by omega, by omega⟩) (cwV 1 hts gX1_becomeDifference_X1_valueAt rfl rfl rfl (by decide +kernel) ⟨Nat.le_of_ble_eq_true rfl, Nat.le_of_ble_eq_true rfl⟩) hK hNX hP hD hS k0 hw.2.1 rfl rfl rfl hl.1 rfl (Nat.le_of_ble_eq_true rfl) dX1_becomeDifference_18 ⟨Nat.zero_le _, Nat.zero_le _⟩ (fun o w1 H locs hq hP hD hS => ?_)
        obtain ⟨rfl, e9⟩ := hq
        rw [e9] at hP hD
        refine W.eq (g2 := F0 m 21 ls [.long (jv (wz (G) (i : Int))), .long (jv (-(bo : Int)))]) rfl ?_
        refine iw_topl (y := jv (((G i : Nat) : Int))) (by rw [wz_in (by omega)]) ?_
        refine iw_topl (y := jv ((wd Y i : Int))) (congrArg jv (by rw [h4 i (by omega)] : ((((G i : Nat) : Int)) : Int) = ((wd Y i : Int)))) ?_
        refine lv_aload_n hx hb dX1_becomeDifference_21 rfl (lv_at hl 2 rfl) ?_
        refine lv_iload hx hb dX1_becomeDifference_22 (lv_at hl 4 rfl) ?_
        refine ef_callV (As := [.int (iv ((i : Int)))]) (rest := [.long (jv ((wd Y i : Int))), .long (jv (-(bo : Int)))]) ⟨hx, hb, hml, hown, hts⟩ (c_valueAt l dC dI ht hp (wd_lt Z) (i : Int) ⟨by omega, by omega⟩) (cwV 1 hts gX1_becomeDifference_X1_valueAt rfl rfl rfl (by decide +kernel) ⟨Nat.le_of_ble_eq_true rfl, Nat.le_of_ble_eq_true rfl⟩) hK hNX hP hD hS i0 hp.2.1 rfl rfl rfl hl.1 rfl (Nat.le_of_ble_eq_true rfl) dX1_becomeDifference_24 ⟨Nat.zero_le _, Nat.zero_le _⟩ (fun o w1 H locs hq hP hD hS => ?_)
        obtain ⟨rfl, e9⟩ := hq
        rw [e9] at hP hD
        refine W.eq (g2 := F0 m 27 ls [.long (jv (wz (wd Z) (i : Int))), .long (jv ((wd Y i : Int))), .long (jv (-(bo : Int)))]) rfl ?_
        refine iw_topl (y := jv (((wd Z i : Nat) : Int))) (by rw [wz_in (by omega)]) ?_
        refine iw_lsub hx hb dX1_becomeDifference_27 ?_
        refine iw_ladd hx hb dX1_becomeDifference_28 ?_
        have hyl := wd_lt Y i
        have hzl := wd_lt Z i
        obtain ⟨z, hz9⟩ : ∃ z : Int, z = -(bo : Int) + ((wd Y i : Int) - (wd Z i : Int)) := ⟨_, rfl⟩
        refine iw_topl (y := jv (z)) (congrArg jv (by rw [hz9] : (((-(bo : Int)) + (((wd Y i : Int)) - (((wd Z i : Nat) : Int)))) : Int) = (z))) ?_
        refine lv_lstore_n (lv' := [(3, .long (jv (z))), (0, .ref h), (1, .ref h), (2, .ref g2), (5, .int (iv ((i : Int))))]) hx hb dX1_becomeDifference_29 rfl hl (by decide) rfl (fun ls hl => ?_)
        refine lv_aload_n hx hb dX1_becomeDifference_30 rfl (lv_at hl 1 rfl) ?_
        refine lv_iload hx hb dX1_becomeDifference_31 (lv_at hl 4 rfl) ?_
        refine lv_lload_n hx hb dX1_becomeDifference_33 rfl (lv_at hl 0 rfl) ?_
        refine ef_callV (As := [.int (iv ((i : Int))), .long (jv (z))]) (rest := []) ⟨hx, hb, hml, hown, hts⟩ (c_put l dC dI ht hw (i : Int) ⟨by omega, by omega⟩ z) (cwV 2 hts gX1_becomeDifference_X1_put rfl rfl rfl (by decide +kernel) ⟨Nat.le_of_ble_eq_true rfl, Nat.le_of_ble_eq_true rfl⟩) hK hNX hP hD hS k0 hw.2.1 rfl rfl rfl hl.1 rfl (Nat.le_of_ble_eq_true rfl) dX1_becomeDifference_34 ⟨Nat.zero_le _, Nat.zero_le _⟩ (fun o w1 H locs hq hP hD hS => ?_)
        obtain ⟨rfl, rfl⟩ := hq
        have hP := efP2 hw0.1 hP
        have hD := efD2 hw0.1 hD
        have hw : isW (wW ws k0 k1 h a cI ((wl Y : Int)) (wp G (i : Int) z)) k0 k1 h a cI ((wl Y : Int)) (wp G (i : Int) z) := hw0.w _ _
        have hp := hp0.o hpa (wo h a ((wl Y : Int))) (wa cI a (wp G (i : Int) z))
        refine W.eq (g2 := F0 m 37 ls []) rfl ?_
        obtain ⟨bo2, hbo2⟩ : ∃ q : Nat, q = if z < 0 then 1 else 0 := ⟨_, rfl⟩
        have hbo3 : z / 4294967296 = -(bo2 : Int) := by rw [hbo2]; split <;> omega
        refine lv_lload_n hx hb dX1_becomeDifference_37 rfl (lv_at hl 0 rfl) ?_
        refine lv_bipush (v := iv (32)) hx hb dX1_becomeDifference_38 (by decide) ?_
        refine iw_lshr hx hb ⟨by omega, by omega⟩ dX1_becomeDifference_40 ?_
        refine iw_topl (y := jv (-(bo2 : Int))) (congrArg jv (by exact hbo3 : (((z) / 4294967296) : Int) = (-(bo2 : Int)))) ?_
        refine lv_lstore_n (lv' := [(3, .long (jv (-(bo2 : Int)))), (0, .ref h), (1, .ref h), (2, .ref g2), (5, .int (iv ((i : Int))))]) hx hb dX1_becomeDifference_41 rfl hl (by decide) rfl (fun ls hl => ?_)
        refine lv_iinc (v := iv (((i + 1 : Nat) : Int))) (lv' := [(5, .int (iv (((i + 1 : Nat) : Int)))), (3, .long (jv (-(bo2 : Int)))), (0, .ref h), (1, .ref h), (2, .ref g2)]) hx hb dX1_becomeDifference_42 hl (k := 4) rfl (iv_inc i) (by decide) rfl (fun ls hl => ?_)
        refine lv_goto (tgt := 5) hx hb dX1_becomeDifference_45 (by decide) ?_
        exact ih (i + 1) (bo2) (wp G (i : Int) z) (by omega) (by rw [hbo2]; split <;> omega) (wp_lt h2 _ _) (nv_dstep (by omega) h3 (by rw [hz9] at hbo3 ⊢; omega)) (fun j hj => by rw [wp_ne (by omega)]; exact h4 j (by omega)) (by omega) H locs ls hP hD hS (lv_sub hl [2, 3, 4, 1, 0] rfl)
  exact loop (wl Y + 1) (0) (0) (wd Y) (Nat.zero_le _) (by omega) (hF) (rfl) (fun j _ => rfl) (by omega) H locs ls hP hD hS (lv_sub hl [2, 3, 4, 1, 0] rfl)
