set_option maxRecDepth 100000 in
set_option maxHeartbeats 4000000 in
/-- addMultiple(other, mu, pl) -/
theorem c_addMul (l : Launch) (dC : Nat → ClassId) (dI : Nat → Nat → Nat) {cI : ClassId} {tys : List (ClassId × FieldType)} (ht : tys[0]? = some (cI, .int)) {ws : va_W} {k0 k1 h a n : Nat} {F : Nat → Nat} (hw : isW ws k0 k1 h a cI (n : Int) F) (hF : ∀ j, F j < 4294967296) {j0 j1 g b Y : Nat} (ho : isW ws j0 j1 g b cI (wl Y : Int) (wd Y)) (hY : wl Y ≤ 300) (hoa : apt k0 k1 j0 j1) (mu pl : Nat) (hmu : mu < 4294967296) (hpl : pl + wl Y < 301) : ef_C l yX1_addMultiple wsX1_addMultiple ({ frames := 2, cells := 0, slots := 0, locals := 42 } : Room) [.ref h, .ref g, .long (jv ((mu : Int))), .int (iv ((pl : Int)))] (dC, dI) vwCl tys ws (fun o w1 => o = none ∧ ∃ G : Nat → Nat, w1 = wW ws k0 k1 h a cI (n : Int) G ∧ (∀ j, G j < 4294967296) ∧ (∀ j, j < pl ∨ pl + wl Y < j → G j = F j) ∧ nv G (pl + wl Y + 1) = nv F (pl + wl Y) + mu * Y * 2 ^ (32 * pl)) := by
  refine ef_C.of (cc := cX1_addMultiple) (maxL := 8) (ret := none) (by decide) rfl (Nat.le_of_ble_eq_true rfl) ?_
  intro p e s m below meth c ls hx hb hml hr hts hown hlocks hK hNX hP hD hS hl
  have hl : lv_has ls 8 [(0, .ref h), (1, .ref g), (2, .long (jv ((mu : Int)))), (4, .int (iv ((pl : Int))))] := hl
  have hown : s.vm.findClass RX1 = some m.cls := hown
  generalize hH : s.heap = H at hP ⊢
  have hS : va_S (ef_A ws) s.heap H [] := by rw [← hH]; exact hS
  generalize ([] : List Loc) = locs at hS ⊢
  have hw0 := hw
  have ho0 := ho
  have hP := efP0 hw0 hP
  have hD := efD0 hw0 hD
  have hw : isW (wW ws k0 k1 h a cI ((n : Int)) (F)) k0 k1 h a cI ((n : Int)) (F) := hw0.w _ _
  have ho := ho0.o hoa (wo h a ((n : Int))) (wa cI a (F))
  refine lv_lconst (v := jv (0)) hx hb dX1_addMultiple_0 (by decide) ?_
  refine lv_lstore (lv' := [(5, .long (jv (0))), (0, .ref h), (1, .ref g), (2, .long (jv ((mu : Int)))), (4, .int (iv ((pl : Int))))]) hx hb dX1_addMultiple_1 hl (by decide) rfl (fun ls hl => ?_)
  refine lv_iconst (v := iv (0)) hx hb dX1_addMultiple_3 (by decide) ?_
  refine lv_istore (lv' := [(7, .int (iv (0))), (5, .long (jv (0))), (0, .ref h), (1, .ref g), (2, .long (jv ((mu : Int)))), (4, .int (iv ((pl : Int))))]) hx hb dX1_addMultiple_4 hl (by decide) rfl (fun ls hl => ?_)
  have loop : ∀ (fuel : Nat) (i : Nat) (cy : Nat) (G : Nat → Nat), (i ≤ wl Y) → (cy < 4294967296) → (∀ j, G j < 4294967296) → (nv G (pl + i) + cy * 2 ^ (32 * (pl + i)) = nv F (pl + i) + mu * nv (wd Y) i * 2 ^ (32 * pl)) → (∀ j, j < pl ∨ pl + i ≤ j → G j = F j) → (wl Y < i + fuel) → ∀ (H : Heap) (locs : List Loc) (ls : Array Slot), va_P (dC, dI) vwCl (wW ws k0 k1 h a cI (n : Int) G) H → va_D (ef_A ws) (wW ws k0 k1 h a cI (n : Int) G) → va_S (ef_A ws) s.heap H locs → lv_has ls 8 [(0, .ref h), (1, .ref g), (2, .long (jv ((mu : Int)))), (4, .int (iv ((pl : Int)))), (5, .long (jv ((cy : Int)))), (7, .int (iv ((i : Int))))] → W p l e ({ frames := 2, cells := 0, slots := 0, locals := 42 } : Room) s m ([.ref h, .ref g, .long (jv ((mu : Int))), .int (iv ((pl : Int)))] : List Value).toArray below meth c H locs 0 0 (ef_R below (dC, dI) vwCl ws (fun o w1 => o = none ∧ ∃ G : Nat → Nat, w1 = wW ws k0 k1 h a cI (n : Int) G ∧ (∀ j, G j < 4294967296) ∧ (∀ j, j < pl ∨ pl + wl Y < j → G j = F j) ∧ nv G (pl + wl Y + 1) = nv F (pl + wl Y) + mu * Y * 2 ^ (32 * pl)) [.ref h, .ref g, .long (jv ((mu : Int))), .int (iv ((pl : Int)))] s) (F0 m 6 ls []) := by
    intro fuel
    induction fuel with
    | zero => intro i cy G h1 hc h2 h3 h4 h5; exfalso; omega
    | succ fuel ih =>
      intro i cy G h1 hc h2 h3 h4 h5 H locs ls hP hD hS hl
      have hw : isW (wW ws k0 k1 h a cI ((n : Int)) (G)) k0 k1 h a cI ((n : Int)) (G) := hw0.w _ _
      have ho := ho0.o hoa (wo h a ((n : Int))) (wa cI a (G))
      refine lv_iload hx hb dX1_addMultiple_6 (lv_at hl 5 rfl) ?_
      refine lv_aload_n hx hb dX1_addMultiple_8 rfl (lv_at hl 1 rfl) ?_
      refine va_get (D := (dC, dI)) (ci := 1) (v := .int (iv ((wl Y : Int)))) (C := RX1) (T := TX1) (N := 2) hx hb hts (by decide +kernel) hown hK hP j0 ho.2.1 rfl 1 (by decide) (hts (.fieldLink RX1 15 "ExactFractions$Whole" "used" "I") (by decide +kernel)) (fun _ h9 => h9) rfl dX1_addMultiple_9 ?_
      refine iw_icmp_ge (tgt := 62) hx hb dX1_addMultiple_12 (by decide) ⟨by omega, by omega⟩ ⟨by omega, by omega⟩ (fun c1 => ?_) (fun c1 => ?_)
      ·
        have hi : i = wl Y := by omega
        subst hi
        refine lv_aload_n hx hb dX1_addMultiple_62 rfl (lv_at hl 0 rfl) ?_
        refine lv_iload hx hb dX1_addMultiple_63 (lv_at hl 3 rfl) ?_
        refine lv_aload_n hx hb dX1_addMultiple_65 rfl (lv_at hl 1 rfl) ?_
        refine va_get (D := (dC, dI)) (ci := 1) (v := .int (iv ((wl Y : Int)))) (C := RX1) (T := TX1) (N := 2) hx hb hts (by decide +kernel) hown hK hP j0 ho.2.1 rfl 1 (by decide) (hts (.fieldLink RX1 15 "ExactFractions$Whole" "used" "I") (by decide +kernel)) (fun _ h9 => h9) rfl dX1_addMultiple_66 ?_
        refine iw_iadd hx hb dX1_addMultiple_69 ?_
        refine iw_topi (y := iv (((pl + wl Y : Nat) : Int))) (congrArg iv (by omega : ((((pl : Int)) + ((wl Y : Int))) : Int) = (((pl + wl Y : Nat) : Int)))) ?_
        refine lv_lload hx hb dX1_addMultiple_70 (lv_at hl 4 rfl) ?_
        refine ef_callV (As := [.int (iv (((pl + wl Y : Nat) : Int))), .long (jv ((cy : Int)))]) (rest := []) ⟨hx, hb, hml, hown, hts⟩ (c_put l dC dI ht hw ((pl + wl Y : Nat) : Int) ⟨by omega, by omega⟩ (cy : Int)) (cwV 2 hts gX1_addMultiple_X1_put rfl rfl rfl (by decide +kernel) ⟨Nat.le_of_ble_eq_true rfl, Nat.le_of_ble_eq_true rfl⟩) hK hNX hP hD hS k0 hw.2.1 rfl rfl rfl hl.1 rfl (Nat.le_of_ble_eq_true rfl) dX1_addMultiple_72 ⟨Nat.zero_le _, Nat.zero_le _⟩ (fun o w1 H locs hq hP hD hS => ?_)
        obtain ⟨rfl, rfl⟩ := hq
        have hP := efP2 hw0.1 hP
        have hD := efD2 hw0.1 hD
        have hw : isW (wW ws k0 k1 h a cI ((n : Int)) (wp G ((pl + wl Y : Nat) : Int) (cy : Int))) k0 k1 h a cI ((n : Int)) (wp G ((pl + wl Y : Nat) : Int) (cy : Int)) := hw0.w _ _
        have ho := ho0.o hoa (wo h a ((n : Int))) (wa cI a (wp G ((pl + wl Y : Nat) : Int) (cy : Int)))
        refine W.eq (g2 := F0 m 75 ls []) rfl ?_
        exact ef_vret hx hb hr hlocks hP hD hS dX1_addMultiple_75 (⟨rfl, _, rfl, wp_lt h2 _ _, fun j hj => by rw [wp_ne (by omega)]; exact h4 j (by omega), by
              show nv (wp G ((pl + wl Y : Nat) : Int) (cy : Int)) (pl + wl Y) + wp G ((pl + wl Y : Nat) : Int) (cy : Int) (pl + wl Y) * 2 ^ (32 * (pl + wl Y)) = _
              rw [nv_cong (G := G) (fun j hj => wp_ne (by omega)), wp_at (by omega), Nat.mod_eq_of_lt hc, h3, nv_self]⟩)
      ·
        refine lv_lload hx hb dX1_addMultiple_15 (lv_at hl 4 rfl) ?_
        refine lv_aload_n hx hb dX1_addMultiple_17 rfl (lv_at hl 1 rfl) ?_
        refine lv_iload hx hb dX1_addMultiple_18 (lv_at hl 5 rfl) ?_
        refine ef_callV (As := [.int (iv ((i : Int)))]) (rest := [.long (jv ((cy : Int)))]) ⟨hx, hb, hml, hown, hts⟩ (c_valueAt l dC dI ht ho (wd_lt Y) (i : Int) ⟨by omega, by omega⟩) (cwV 1 hts gX1_addMultiple_X1_valueAt rfl rfl rfl (by decide +kernel) ⟨Nat.le_of_ble_eq_true rfl, Nat.le_of_ble_eq_true rfl⟩) hK hNX hP hD hS j0 ho.2.1 rfl rfl rfl hl.1 rfl (Nat.le_of_ble_eq_true rfl) dX1_addMultiple_20 ⟨Nat.zero_le _, Nat.zero_le _⟩ (fun o w1 H locs hq hP hD hS => ?_)
        obtain ⟨rfl, e9⟩ := hq
        rw [e9] at hP hD
        refine W.eq (g2 := F0 m 23 ls [.long (jv (wz (wd Y) (i : Int))), .long (jv ((cy : Int)))]) rfl ?_
        refine iw_topl (y := jv (((wd Y i : Nat) : Int))) (by rw [wz_in (by omega)]) ?_
        refine lv_lload_n hx hb dX1_addMultiple_23 rfl (lv_at hl 2 rfl) ?_
        refine iw_lmul hx hb dX1_addMultiple_24 ?_
        refine lv_aload_n hx hb dX1_addMultiple_25 rfl (lv_at hl 0 rfl) ?_
        refine lv_iload hx hb dX1_addMultiple_26 (lv_at hl 3 rfl) ?_
        refine lv_iload hx hb dX1_addMultiple_28 (lv_at hl 5 rfl) ?_
        refine iw_iadd hx hb dX1_addMultiple_30 ?_
        refine iw_topi (y := iv (((pl + i : Nat) : Int))) (congrArg iv (by omega : ((((pl : Int)) + ((i : Int))) : Int) = (((pl + i : Nat) : Int)))) ?_
        refine ef_callV (As := [.int (iv (((pl + i : Nat) : Int)))]) (rest := [.long (jv ((((wd Y i : Nat) : Int)) * ((mu : Int)))), .long (jv ((cy : Int)))]) ⟨hx, hb, hml, hown, hts⟩ (c_valueAt l dC dI ht hw h2 ((pl + i : Nat) : Int) ⟨by omega, by omega⟩) (cwV 1 hts gX1_addMultiple_X1_valueAt rfl rfl rfl (by decide +kernel) ⟨Nat.le_of_ble_eq_true rfl, Nat.le_of_ble_eq_true rfl⟩) hK hNX hP hD hS k0 hw.2.1 rfl rfl rfl hl.1 rfl (Nat.le_of_ble_eq_true rfl) dX1_addMultiple_31 ⟨Nat.zero_le _, Nat.zero_le _⟩ (fun o w1 H locs hq hP hD hS => ?_)
        obtain ⟨rfl, e9⟩ := hq
        rw [e9] at hP hD
        refine W.eq (g2 := F0 m 34 ls [.long (jv (wz (G) ((pl + i : Nat) : Int))), .long (jv ((((wd Y i : Nat) : Int)) * ((mu : Int)))), .long (jv ((cy : Int)))]) rfl ?_
        refine iw_topl (y := jv (((G (pl + i) : Nat) : Int))) (by rw [wz_in (by omega)]) ?_
        refine iw_topl (y := jv ((F (pl + i) : Int))) (congrArg jv (by rw [h4 (pl + i) (by omega)] : ((((G (pl + i) : Nat) : Int)) : Int) = ((F (pl + i) : Int)))) ?_
        refine iw_ladd hx hb dX1_addMultiple_34 ?_
        refine iw_ladd hx hb dX1_addMultiple_35 ?_
        have hyl := wd_lt Y i
        have hfl := hF (pl + i)
        have hyb : wd Y i * mu ≤ 4294967295 * 4294967295 := Nat.mul_le_mul (by omega) (by omega)
        obtain ⟨z, hz9⟩ : ∃ z, z = cy + (wd Y i * mu + F (pl + i)) := ⟨_, rfl⟩
        refine iw_topl (y := jv ((z : Int))) (congrArg jv (by rw [hz9]; push_cast; rfl : ((((cy : Int)) + (((((wd Y i : Nat) : Int)) * ((mu : Int))) + ((F (pl + i) : Int)))) : Int) = ((z : Int)))) ?_
        refine lv_lstore (lv' := [(5, .long (jv ((z : Int)))), (0, .ref h), (1, .ref g), (2, .long (jv ((mu : Int)))), (4, .int (iv ((pl : Int)))), (7, .int (iv ((i : Int))))]) hx hb dX1_addMultiple_36 hl (by decide) rfl (fun ls hl => ?_)
        refine lv_aload_n hx hb dX1_addMultiple_38 rfl (lv_at hl 1 rfl) ?_
        refine lv_iload hx hb dX1_addMultiple_39 (lv_at hl 4 rfl) ?_
        refine lv_iload hx hb dX1_addMultiple_41 (lv_at hl 5 rfl) ?_
        refine iw_iadd hx hb dX1_addMultiple_43 ?_
        refine iw_topi (y := iv (((pl + i : Nat) : Int))) (congrArg iv (by omega : ((((pl : Int)) + ((i : Int))) : Int) = (((pl + i : Nat) : Int)))) ?_
        refine lv_lload hx hb dX1_addMultiple_44 (lv_at hl 0 rfl) ?_
        refine ef_callV (As := [.int (iv (((pl + i : Nat) : Int))), .long (jv ((z : Int)))]) (rest := []) ⟨hx, hb, hml, hown, hts⟩ (c_put l dC dI ht hw ((pl + i : Nat) : Int) ⟨by omega, by omega⟩ (z : Int)) (cwV 2 hts gX1_addMultiple_X1_put rfl rfl rfl (by decide +kernel) ⟨Nat.le_of_ble_eq_true rfl, Nat.le_of_ble_eq_true rfl⟩) hK hNX hP hD hS k0 hw.2.1 rfl rfl rfl hl.1 rfl (Nat.le_of_ble_eq_true rfl) dX1_addMultiple_46 ⟨Nat.zero_le _, Nat.zero_le _⟩ (fun o w1 H locs hq hP hD hS => ?_)
        obtain ⟨rfl, rfl⟩ := hq
        have hP := efP2 hw0.1 hP
        have hD := efD2 hw0.1 hD
        have hw : isW (wW ws k0 k1 h a cI ((n : Int)) (wp G ((pl + i : Nat) : Int) (z : Int))) k0 k1 h a cI ((n : Int)) (wp G ((pl + i : Nat) : Int) (z : Int)) := hw0.w _ _
        have ho := ho0.o hoa (wo h a ((n : Int))) (wa cI a (wp G ((pl + i : Nat) : Int) (z : Int)))
        refine W.eq (g2 := F0 m 49 ls []) rfl ?_
        refine lv_lload hx hb dX1_addMultiple_49 (lv_at hl 0 rfl) ?_
        refine lv_bipush (v := iv (32)) hx hb dX1_addMultiple_51 (by decide) ?_
        refine iw_lushr hx hb (by omega) (by omega) dX1_addMultiple_53 ?_
        refine iw_topl (y := jv (((z / 4294967296 : Nat) : Int))) (congrArg jv (by omega : ((((z : Int)) / 4294967296) : Int) = (((z / 4294967296 : Nat) : Int)))) ?_
        refine lv_lstore (lv' := [(5, .long (jv (((z / 4294967296 : Nat) : Int)))), (0, .ref h), (1, .ref g), (2, .long (jv ((mu : Int)))), (4, .int (iv ((pl : Int)))), (7, .int (iv ((i : Int))))]) hx hb dX1_addMultiple_54 hl (by decide) rfl (fun ls hl => ?_)
        refine lv_iinc (v := iv (((i + 1 : Nat) : Int))) (lv' := [(7, .int (iv (((i + 1 : Nat) : Int)))), (5, .long (jv (((z / 4294967296 : Nat) : Int)))), (0, .ref h), (1, .ref g), (2, .long (jv ((mu : Int)))), (4, .int (iv ((pl : Int))))]) hx hb dX1_addMultiple_56 hl (k := 5) rfl (iv_inc i) (by decide) rfl (fun ls hl => ?_)
        refine lv_goto (tgt := 6) hx hb dX1_addMultiple_59 (by decide) ?_
        exact ih (i + 1) (z / 4294967296) (wp G ((pl + i : Nat) : Int) (z : Int)) (by omega) (by omega) (wp_lt h2 _ _) (by
              have q := nv_step (i := pl + i) (by omega) h3 hz9
              rw [amul_step] at q
              exact q) (fun j hj => by rw [wp_ne (by omega)]; exact h4 j (by omega)) (by omega) H locs ls hP hD hS (lv_sub hl [2, 3, 4, 5, 1, 0] rfl)
  exact loop (wl Y + 1) (0) (0) (F) (Nat.zero_le _) (by omega) (hF) (by show nv F pl + 0 * _ = nv F pl + mu * 0 * _; rw [Nat.mul_zero, Nat.zero_mul, Nat.zero_mul]) (fun j _ => rfl) (by omega) H locs ls hP hD hS (lv_sub hl [2, 3, 4, 5, 1, 0] rfl)

set_option maxRecDepth 100000 in
set_option maxHeartbeats 4000000 in
/-- becomeProduct(one, other) -/
theorem c_product (l : Launch) (dC : Nat → ClassId) (dI : Nat → Nat → Nat) {cI : ClassId} {tys : List (ClassId × FieldType)} (ht : tys[0]? = some (cI, .int)) {ws : va_W} {k0 k1 h a n : Nat} {F : Nat → Nat} (hw : isW ws k0 k1 h a cI (n : Int) F) (hn : n ≤ 301) (hF : ∀ j, F j < 4294967296) (hz : ∀ j, n ≤ j → j < 301 → F j = 0) {j0 j1 g b Y : Nat} (ho : isW ws j0 j1 g b cI (wl Y : Int) (wd Y)) (hY : wl Y ≤ 300) (hoa : apt k0 k1 j0 j1) {i0 i1 g2 b2 Z : Nat} (hp : isW ws i0 i1 g2 b2 cI (wl Z : Int) (wd Z)) (hZ : wl Z ≤ 300) (hpa : apt k0 k1 i0 i1) (hYZ : wl Y + wl Z ≤ 300) : ef_C l yX1_becomeProduct wsX1_becomeProduct ({ frames := 3, cells := 0, slots := 0, locals := 69 } : Room) [.ref h, .ref g, .ref g2] (dC, dI) vwCl tys ws (fun o w1 => o = none ∧ w1 = wW ws k0 k1 h a cI (wl (Y * Z) : Int) (wd (Y * Z))) := by
  refine ef_C.of (cc := cX1_becomeProduct) (maxL := 4) (ret := none) (by decide) rfl (Nat.le_of_ble_eq_true rfl) ?_
  intro p e s m below meth c ls hx hb hml hr hts hown hlocks hK hNX hP hD hS hl
  have hl : lv_has ls 4 [(0, .ref h), (1, .ref g), (2, .ref g2)] := hl
  have hown : s.vm.findClass RX1 = some m.cls := hown
  generalize hH : s.heap = H at hP ⊢
  have hS : va_S (ef_A ws) s.heap H [] := by rw [← hH]; exact hS
  generalize ([] : List Loc) = locs at hS ⊢
  have hw0 := hw
  have ho0 := ho
  have hp0 := hp
  have hP := efP0 hw0 hP
  have hD := efD0 hw0 hD
  have hw : isW (wW ws k0 k1 h a cI ((n : Int)) (F)) k0 k1 h a cI ((n : Int)) (F) := hw0.w _ _
  have ho := ho0.o hoa (wo h a ((n : Int))) (wa cI a (F))
  have hp := hp0.o hpa (wo h a ((n : Int))) (wa cI a (F))
  refine lv_aload_n hx hb dX1_becomeProduct_0 rfl (lv_at hl 0 rfl) ?_
  refine lv_iconst (v := iv (0)) hx hb dX1_becomeProduct_1 (by decide) ?_
  refine iw_topi (y := iv (((0 : Nat) : Int))) (congrArg iv (by omega : ((0) : Int) = (((0 : Nat) : Int)))) ?_
  refine ef_callV (As := [.int (iv (((0 : Nat) : Int)))]) (rest := []) ⟨hx, hb, hml, hown, hts⟩ (c_settle l dC dI ht hw hn hF 0 (by omega) (fun j q1 q2 q3 => hz j q2 q3)) (cwV 1 hts gX1_becomeProduct_X1_settle rfl rfl rfl (by decide +kernel) ⟨Nat.le_of_ble_eq_true rfl, Nat.le_of_ble_eq_true rfl⟩) hK hNX hP hD hS k0 hw.2.1 rfl rfl rfl hl.1 rfl (Nat.le_of_ble_eq_true rfl) dX1_becomeProduct_2 ⟨Nat.zero_le _, Nat.zero_le _⟩ (fun o w1 H locs hq hP hD hS => ?_)
  rw [show nv F (min 0 301) = 0 from rfl, show wl 0 = 0 from rfl] at hq
  obtain ⟨rfl, rfl⟩ := hq
  have hP := efP2 hw0.1 hP
  have hD := efD2 hw0.1 hD
  have hw : isW (wW ws k0 k1 h a cI (((0 : Nat) : Int)) (wd 0)) k0 k1 h a cI (((0 : Nat) : Int)) (wd 0) := hw0.w _ _
  have ho := ho0.o hoa (wo h a (((0 : Nat) : Int))) (wa cI a (wd 0))
  have hp := hp0.o hpa (wo h a (((0 : Nat) : Int))) (wa cI a (wd 0))
  refine W.eq (g2 := F0 m 5 ls []) rfl ?_
  refine lv_iconst (v := iv (0)) hx hb dX1_becomeProduct_5 (by decide) ?_
  refine lv_istore_n (lv' := [(3, .int (iv (0))), (0, .ref h), (1, .ref g), (2, .ref g2)]) hx hb dX1_becomeProduct_6 rfl hl (by decide) rfl (fun ls hl => ?_)
  have loop : ∀ (fuel : Nat) (i : Nat) (G : Nat → Nat), (i ≤ wl Y) → (∀ j, G j < 4294967296) → (nv G (i + wl Z) = nv (wd Y) i * Z) → (∀ j, i + wl Z ≤ j → G j = 0) → (wl Y < i + fuel) → ∀ (H : Heap) (locs : List Loc) (ls : Array Slot), va_P (dC, dI) vwCl (wW ws k0 k1 h a cI ((0 : Nat) : Int) G) H → va_D (ef_A ws) (wW ws k0 k1 h a cI ((0 : Nat) : Int) G) → va_S (ef_A ws) s.heap H locs → lv_has ls 4 [(0, .ref h), (1, .ref g), (2, .ref g2), (3, .int (iv ((i : Int))))] → W p l e ({ frames := 3, cells := 0, slots := 0, locals := 69 } : Room) s m ([.ref h, .ref g, .ref g2] : List Value).toArray below meth c H locs 0 0 (ef_R below (dC, dI) vwCl ws (fun o w1 => o = none ∧ w1 = wW ws k0 k1 h a cI (wl (Y * Z) : Int) (wd (Y * Z))) [.ref h, .ref g, .ref g2] s) (F0 m 7 ls []) := by
    intro fuel
    induction fuel with
    | zero => intro i G h1 h2 h3 h4 h5; exfalso; omega
    | succ fuel ih =>
      intro i G h1 h2 h3 h4 h5 H locs ls hP hD hS hl
      have hw : isW (wW ws k0 k1 h a cI (((0 : Nat) : Int)) (G)) k0 k1 h a cI (((0 : Nat) : Int)) (G) := hw0.w _ _
      have ho := ho0.o hoa (wo h a (((0 : Nat) : Int))) (wa cI a (G))
      have hp := hp0.o hpa (wo h a (((0 : Nat) : Int))) (wa cI a (G))
      refine lv_iload_n hx hb dX1_becomeProduct_7 rfl (lv_at hl 3 rfl) ?_
      refine lv_aload_n hx hb dX1_becomeProduct_8 rfl (lv_at hl 1 rfl) ?_
      refine va_get (D := (dC, dI)) (ci := 1) (v := .int (iv ((wl Y : Int)))) (C := RX1) (T := TX1) (N := 2) hx hb hts (by decide +kernel) hown hK hP j0 ho.2.1 rfl 1 (by decide) (hts (.fieldLink RX1 15 "ExactFractions$Whole" "used" "I") (by decide +kernel)) (fun _ h9 => h9) rfl dX1_becomeProduct_9 ?_
      refine iw_icmp_ge (tgt := 32) hx hb dX1_becomeProduct_12 (by decide) ⟨by omega, by omega⟩ ⟨by omega, by omega⟩ (fun c1 => ?_) (fun c1 => ?_)
      ·
        have hi : i = wl Y := by omega
        subst hi
        have hv : nv G (min (wl Y + wl Z) 301) = Y * Z := by rw [show min (wl Y + wl Z) 301 = wl Y + wl Z by omega, h3, nv_self]
        refine lv_aload_n hx hb dX1_becomeProduct_32 rfl (lv_at hl 0 rfl) ?_
        refine lv_aload_n hx hb dX1_becomeProduct_33 rfl (lv_at hl 1 rfl) ?_
        refine va_get (D := (dC, dI)) (ci := 1) (v := .int (iv ((wl Y : Int)))) (C := RX1) (T := TX1) (N := 2) hx hb hts (by decide +kernel) hown hK hP j0 ho.2.1 rfl 1 (by decide) (hts (.fieldLink RX1 15 "ExactFractions$Whole" "used" "I") (by decide +kernel)) (fun _ h9 => h9) rfl dX1_becomeProduct_34 ?_
        refine lv_aload_n hx hb dX1_becomeProduct_37 rfl (lv_at hl 2 rfl) ?_
        refine va_get (D := (dC, dI)) (ci := 1) (v := .int (iv ((wl Z : Int)))) (C := RX1) (T := TX1) (N := 2) hx hb hts (by decide +kernel) hown hK hP i0 hp.2.1 rfl 1 (by decide) (hts (.fieldLink RX1 15 "ExactFractions$Whole" "used" "I") (by decide +kernel)) (fun _ h9 => h9) rfl dX1_becomeProduct_38 ?_
        refine iw_iadd hx hb dX1_becomeProduct_41 ?_
        refine iw_topi (y := iv (((wl Y + wl Z : Nat) : Int))) (congrArg iv (by omega : ((((wl Y : Int)) + ((wl Z : Int))) : Int) = (((wl Y + wl Z : Nat) : Int)))) ?_
        refine ef_callV (As := [.int (iv (((wl Y + wl Z : Nat) : Int)))]) (rest := []) ⟨hx, hb, hml, hown, hts⟩ (c_settle l dC dI ht hw (Nat.zero_le _) h2 (wl Y + wl Z) (by omega) (fun j q1 q2 q3 => h4 j q1)) (cwV 1 hts gX1_becomeProduct_X1_settle rfl rfl rfl (by decide +kernel) ⟨Nat.le_of_ble_eq_true rfl, Nat.le_of_ble_eq_true rfl⟩) hK hNX hP hD hS k0 hw.2.1 rfl rfl rfl hl.1 rfl (Nat.le_of_ble_eq_true rfl) dX1_becomeProduct_42 ⟨Nat.zero_le _, Nat.zero_le _⟩ (fun o w1 H locs hq hP hD hS => ?_)
        rw [hv] at hq
        obtain ⟨rfl, rfl⟩ := hq
        have hP := efP2 hw0.1 hP
        have hD := efD2 hw0.1 hD
        have hw : isW (wW ws k0 k1 h a cI ((wl (Y * Z) : Int)) (wd (Y * Z))) k0 k1 h a cI ((wl (Y * Z) : Int)) (wd (Y * Z)) := hw0.w _ _
        have ho := ho0.o hoa (wo h a ((wl (Y * Z) : Int))) (wa cI a (wd (Y * Z)))
        have hp := hp0.o hpa (wo h a ((wl (Y * Z) : Int))) (wa cI a (wd (Y * Z)))
        refine W.eq (g2 := F0 m 45 ls []) rfl ?_
        exact ef_vret hx hb hr hlocks hP hD hS dX1_becomeProduct_45 (⟨rfl, rfl⟩)
      ·
        refine lv_aload_n hx hb dX1_becomeProduct_15 rfl (lv_at hl 0 rfl) ?_
        refine lv_aload_n hx hb dX1_becomeProduct_16 rfl (lv_at hl 2 rfl) ?_
        refine lv_aload_n hx hb dX1_becomeProduct_17 rfl (lv_at hl 1 rfl) ?_
        refine lv_iload_n hx hb dX1_becomeProduct_18 rfl (lv_at hl 3 rfl) ?_
        refine ef_callV (As := [.int (iv ((i : Int)))]) (rest := [.ref g2, .ref h]) ⟨hx, hb, hml, hown, hts⟩ (c_valueAt l dC dI ht ho (wd_lt Y) (i : Int) ⟨by omega, by omega⟩) (cwV 1 hts gX1_becomeProduct_X1_valueAt rfl rfl rfl (by decide +kernel) ⟨Nat.le_of_ble_eq_true rfl, Nat.le_of_ble_eq_true rfl⟩) hK hNX hP hD hS j0 ho.2.1 rfl rfl rfl hl.1 rfl (Nat.le_of_ble_eq_true rfl) dX1_becomeProduct_19 ⟨Nat.zero_le _, Nat.zero_le _⟩ (fun o w1 H locs hq hP hD hS => ?_)
        obtain ⟨rfl, e9⟩ := hq
        rw [e9] at hP hD
        refine W.eq (g2 := F0 m 22 ls [.long (jv (wz (wd Y) (i : Int))), .ref g2, .ref h]) rfl ?_
        refine iw_topl (y := jv (((wd Y i : Nat) : Int))) (by rw [wz_in (by omega)]) ?_
        refine lv_iload_n hx hb dX1_becomeProduct_22 rfl (lv_at hl 3 rfl) ?_
        refine ef_callV (As := [.ref g2, .long (jv (((wd Y i : Nat) : Int))), .int (iv ((i : Int)))]) (rest := []) ⟨hx, hb, hml, hown, hts⟩ (c_addMul l dC dI ht hw h2 hp hZ hpa (wd Y i) i (wd_lt Y i) (by omega)) (cwV 3 hts gX1_becomeProduct_X1_addMultiple rfl rfl rfl (by decide +kernel) ⟨Nat.le_of_ble_eq_true rfl, Nat.le_of_ble_eq_true rfl⟩) hK hNX hP hD hS k0 hw.2.1 rfl rfl rfl hl.1 rfl (Nat.le_of_ble_eq_true rfl) dX1_becomeProduct_23 ⟨Nat.zero_le _, Nat.zero_le _⟩ (fun o w1 H locs hq hP hD hS => ?_)
        obtain ⟨rfl, G2, rfl, k2, k4, k3⟩ := hq
        have hP := efP2 hw0.1 hP
        have hD := efD2 hw0.1 hD
        have hw : isW (wW ws k0 k1 h a cI (((0 : Nat) : Int)) (G2)) k0 k1 h a cI (((0 : Nat) : Int)) (G2) := hw0.w _ _
        have ho := ho0.o hoa (wo h a (((0 : Nat) : Int))) (wa cI a (G2))
        have hp := hp0.o hpa (wo h a (((0 : Nat) : Int))) (wa cI a (G2))
        refine W.eq (g2 := F0 m 26 ls []) rfl ?_
        refine lv_iinc (v := iv (((i + 1 : Nat) : Int))) (lv' := [(3, .int (iv (((i + 1 : Nat) : Int)))), (0, .ref h), (1, .ref g), (2, .ref g2)]) hx hb dX1_becomeProduct_26 hl (k := 3) rfl (iv_inc i) (by decide) rfl (fun ls hl => ?_)
        refine lv_goto (tgt := 7) hx hb dX1_becomeProduct_29 (by decide) ?_
        exact ih (i + 1) (G2) (by omega) (k2) (by
              rw [show i + 1 + wl Z = i + wl Z + 1 by omega, k3, h3]
              show _ = (nv (wd Y) i + wd Y i * 2 ^ (32 * i)) * Z
              rw [Nat.add_mul, Nat.mul_right_comm]) (fun j hj => by rw [k4 j (by omega)]; exact h4 j (by omega)) (by omega) H locs ls hP hD hS (lv_sub hl [1, 2, 3, 0] rfl)
  exact loop (wl Y + 1) (0) (wd 0) (Nat.zero_le _) (wd_lt 0) (by rw [nv_wd, Nat.zero_mod]; show 0 = 0 * Z; rw [Nat.zero_mul]) (fun j _ => wd_above (Nat.zero_le _)) (by omega) H locs ls hP hD hS (lv_sub hl [1, 2, 3, 0] rfl)

set_option maxRecDepth 100000 in
set_option maxHeartbeats 4000000 in
/-- shiftUp(k) -/
theorem c_shiftUp (l : Launch) (dC : Nat → ClassId) (dI : Nat → Nat → Nat) {cI : ClassId} {tys : List (ClassId × FieldType)} (ht : tys[0]? = some (cI, .int)) {ws : va_W} {k0 k1 h a X : Nat} (hw : isW ws k0 k1 h a cI (wl X : Int) (wd X)) (hX : wl X ≤ 301) (k : Nat) (hk : wl X + k / 32 + 1 ≤ 301) : ef_C l yX1_shiftUp wsX1_shiftUp ({ frames := 2, cells := 0, slots := 0, locals := 45 } : Room) [.ref h, .int (iv ((k : Int)))] (dC, dI) vwCl tys ws (fun o w1 => o = none ∧ w1 = wW ws k0 k1 h a cI (wl (X * 2 ^ k) : Int) (wd (X * 2 ^ k))) := by
  refine ef_C.of (cc := cX1_shiftUp) (maxL := 8) (ret := none) (by decide) rfl (Nat.le_of_ble_eq_true rfl) ?_
  intro p e s m below meth c ls hx hb hml hr hts hown hlocks hK hNX hP hD hS hl
  have hl : lv_has ls 8 [(0, .ref h), (1, .int (iv ((k : Int))))] := hl
  have hown : s.vm.findClass RX1 = some m.cls := hown
  generalize hH : s.heap = H at hP ⊢
  have hS : va_S (ef_A ws) s.heap H [] := by rw [← hH]; exact hS
  generalize ([] : List Loc) = locs at hS ⊢
  have hw0 := hw
  have hP := efP0 hw0 hP
  have hD := efD0 hw0 hD
  have hw : isW (wW ws k0 k1 h a cI ((wl X : Int)) (wd X)) k0 k1 h a cI ((wl X : Int)) (wd X) := hw0.w _ _
  refine lv_iload_n hx hb dX1_shiftUp_0 rfl (lv_at hl 1 rfl) ?_
  refine lv_iconst (v := iv (5)) hx hb dX1_shiftUp_1 (by decide) ?_
  refine iw_ishr5 hx hb (by omega) dX1_shiftUp_2 ?_
  refine lv_istore_n (lv' := [(2, .int (iv (((k / 32 : Nat) : Int)))), (0, .ref h), (1, .int (iv ((k : Int))))]) hx hb dX1_shiftUp_3 rfl hl (by decide) rfl (fun ls hl => ?_)
  refine lv_iload_n hx hb dX1_shiftUp_4 rfl (lv_at hl 2 rfl) ?_
  refine lv_bipush (v := iv (31)) hx hb dX1_shiftUp_5 (by decide) ?_
  refine iw_iand31 hx hb (by omega) dX1_shiftUp_7 ?_
  obtain ⟨pq, hpq⟩ : ∃ q, q = k / 32 := ⟨_, rfl⟩
  obtain ⟨rq, hrq⟩ : ∃ q, q = k % 32 := ⟨_, rfl⟩
  have hkk : k = 32 * pq + rq := by omega
  have hsz0 : wl (X * 2 ^ k) ≤ wl X + pq + 1 := wl_le (by
    rw [show 32 * (wl X + pq + 1) = 32 * wl X + (32 * pq + 32) by omega, Nat.pow_add]
    exact Nat.mul_lt_mul_of_lt_of_le (wl_lt X) (Nat.pow_le_pow_right (by decide) (by omega)) (Nat.pow_pos (by decide)))
  rw [← hrq]
  rw [← hpq] at hl
  refine lv_istore_n (lv' := [(3, .int (iv ((rq : Int)))), (2, .int (iv ((pq : Int)))), (0, .ref h), (1, .int (iv ((k : Int))))]) hx hb dX1_shiftUp_8 rfl hl (by decide) rfl (fun ls hl => ?_)
  refine lv_aload_n hx hb dX1_shiftUp_9 rfl (lv_at hl 2 rfl) ?_
  refine va_get (D := (dC, dI)) (ci := 1) (v := .int (iv ((wl X : Int)))) (C := RX1) (T := TX1) (N := 2) hx hb hts (by decide +kernel) hown hK hP k0 hw.2.1 rfl 1 (by decide) (hts (.fieldLink RX1 15 "ExactFractions$Whole" "used" "I") (by decide +kernel)) (fun _ h9 => h9) rfl dX1_shiftUp_10 ?_
  refine lv_iload_n hx hb dX1_shiftUp_13 rfl (lv_at hl 1 rfl) ?_
  refine iw_iadd hx hb dX1_shiftUp_14 ?_
  refine lv_iconst (v := iv (1)) hx hb dX1_shiftUp_15 (by decide) ?_
  refine iw_iadd hx hb dX1_shiftUp_16 ?_
  refine iw_topi (y := iv (((wl X + pq + 1 : Nat) : Int))) (congrArg iv (by omega : (((((wl X : Int)) + ((pq : Int))) + (1)) : Int) = (((wl X + pq + 1 : Nat) : Int)))) ?_
  refine lv_istore (lv' := [(4, .int (iv (((wl X + pq + 1 : Nat) : Int)))), (3, .int (iv ((rq : Int)))), (2, .int (iv ((pq : Int)))), (0, .ref h), (1, .int (iv ((k : Int))))]) hx hb dX1_shiftUp_17 hl (by decide) rfl (fun ls hl => ?_)
  refine lv_iload hx hb dX1_shiftUp_19 (lv_at hl 0 rfl) ?_
  refine lv_iconst (v := iv (1)) hx hb dX1_shiftUp_21 (by decide) ?_
  refine iw_isub hx hb dX1_shiftUp_22 ?_
  refine lv_istore (lv' := [(5, .int (iv ((((wl X + pq + 1 : Nat) : Int)) - (1)))), (4, .int (iv (((wl X + pq + 1 : Nat) : Int)))), (3, .int (iv ((rq : Int)))), (2, .int (iv ((pq : Int)))), (0, .ref h), (1, .int (iv ((k : Int))))]) hx hb dX1_shiftUp_23 hl (by decide) rfl (fun ls hl => ?_)
  have loop : ∀ (fuel : Nat) (n : Nat) (G : Nat → Nat), (n ≤ wl X + pq + 1) → (∀ j, G j < 4294967296) → (∀ j, G j = if n ≤ j then wd (X * 2 ^ k) j else wd X j) → (n < fuel) → ∀ (H : Heap) (locs : List Loc) (ls : Array Slot), va_P (dC, dI) vwCl (wW ws k0 k1 h a cI (wl X : Int) G) H → va_D (ef_A ws) (wW ws k0 k1 h a cI (wl X : Int) G) → va_S (ef_A ws) s.heap H locs → lv_has ls 8 [(0, .ref h), (1, .int (iv ((k : Int)))), (2, .int (iv ((pq : Int)))), (3, .int (iv ((rq : Int)))), (4, .int (iv (((wl X + pq + 1 : Nat) : Int)))), (5, .int (iv ((n : Int) - 1)))] → W p l e ({ frames := 2, cells := 0, slots := 0, locals := 45 } : Room) s m ([.ref h, .int (iv ((k : Int)))] : List Value).toArray below meth c H locs 0 0 (ef_R below (dC, dI) vwCl ws (fun o w1 => o = none ∧ w1 = wW ws k0 k1 h a cI (wl (X * 2 ^ k) : Int) (wd (X * 2 ^ k))) [.ref h, .int (iv ((k : Int)))] s) (F0 m 25 ls []) := by
    intro fuel
    induction fuel with
    | zero => intro n G h1 h2 h3 h5; exfalso; omega
    | succ fuel ih =>
      intro n G h1 h2 h3 h5 H locs ls hP hD hS hl
      have hw : isW (wW ws k0 k1 h a cI ((wl X : Int)) (G)) k0 k1 h a cI ((wl X : Int)) (G) := hw0.w _ _
      refine lv_iload hx hb dX1_shiftUp_25 (lv_at hl 5 rfl) ?_
      refine iw_if_lt (tgt := 73) hx hb dX1_shiftUp_27 (by decide) ⟨by omega, by omega⟩ (fun c1 => ?_) (fun c1 => ?_)
      ·
        have hn0 : n = 0 := by omega
        subst hn0
        have hG : ∀ j, G j = wd (X * 2 ^ k) j := fun j => by rw [h3 j, if_pos (Nat.zero_le _)]
        have hsz : wl (X * 2 ^ k) ≤ wl X + pq + 1 := wl_le (by
          rw [show 32 * (wl X + pq + 1) = 32 * wl X + (32 * pq + 32) by omega, Nat.pow_add]
          exact Nat.mul_lt_mul_of_lt_of_le (wl_lt X) (Nat.pow_le_pow_right (by decide) (by omega)) (Nat.pow_pos (by decide)))
        have hv : nv G (min (wl X + pq + 1) 301) = X * 2 ^ k := by rw [show min (wl X + pq + 1) 301 = wl X + pq + 1 by omega, nv_cong (fun j _ => hG j), nv_self' hsz]
        refine lv_aload_n hx hb dX1_shiftUp_73 rfl (lv_at hl 0 rfl) ?_
        refine lv_iload hx hb dX1_shiftUp_74 (lv_at hl 4 rfl) ?_
        refine ef_callV (As := [.int (iv (((wl X + pq + 1 : Nat) : Int)))]) (rest := []) ⟨hx, hb, hml, hown, hts⟩ (c_settle l dC dI ht hw hX h2 (wl X + pq + 1) (by omega) (fun j q1 q2 q3 => by rw [hG j]; exact wd_above (by omega))) (cwV 1 hts gX1_shiftUp_X1_settle rfl rfl rfl (by decide +kernel) ⟨Nat.le_of_ble_eq_true rfl, Nat.le_of_ble_eq_true rfl⟩) hK hNX hP hD hS k0 hw.2.1 rfl rfl rfl hl.1 rfl (Nat.le_of_ble_eq_true rfl) dX1_shiftUp_76 ⟨Nat.zero_le _, Nat.zero_le _⟩ (fun o w1 H locs hq hP hD hS => ?_)
        rw [hv] at hq
        obtain ⟨rfl, rfl⟩ := hq
        have hP := efP2 hw0.1 hP
        have hD := efD2 hw0.1 hD
        have hw : isW (wW ws k0 k1 h a cI ((wl (X * 2 ^ k) : Int)) (wd (X * 2 ^ k))) k0 k1 h a cI ((wl (X * 2 ^ k) : Int)) (wd (X * 2 ^ k)) := hw0.w _ _
        refine W.eq (g2 := F0 m 79 ls []) rfl ?_
        exact ef_vret hx hb hr hlocks hP hD hS dX1_shiftUp_79 (⟨rfl, rfl⟩)
      ·
        obtain ⟨i, rfl⟩ : ∃ i : Nat, n = i + 1 := ⟨n - 1, by omega⟩
        have hGl : ∀ j, j ≤ i → G j = wd X j := fun j hj => by rw [h3 j, if_neg (by omega)]
        obtain ⟨wh, hw1⟩ : ∃ q, q = if pq ≤ i then wd X (i - pq) else 0 := ⟨_, rfl⟩
        obtain ⟨wq, hw2⟩ : ∃ q, q = if pq + 1 ≤ i then wd X (i - pq - 1) else 0 := ⟨_, rfl⟩
        have hl1 : wh < 4294967296 := by rw [hw1]; split; exact wd_lt _ _; decide
        have hl0 : wq < 4294967296 := by rw [hw2]; split; exact wd_lt _ _; decide
        have e1 : wz G ((i : Int) - (pq : Int)) = wh := by
          rw [hw1]
          split
          · rw [show (i : Int) - (pq : Int) = ((i - pq : Nat) : Int) by omega, wz_in (by omega)]; exact hGl _ (by omega)
          · exact wz_out (by omega)
        have e0 : wz G ((i : Int) - (pq : Int) - 1) = wq := by
          rw [hw2]
          split
          · rw [show (i : Int) - (pq : Int) - 1 = ((i - pq - 1 : Nat) : Int) by omega, wz_in (by omega)]; exact hGl _ (by omega)
          · exact wz_out (by omega)
        refine lv_aload_n hx hb dX1_shiftUp_30 rfl (lv_at hl 0 rfl) ?_
        refine lv_iload hx hb dX1_shiftUp_31 (lv_at hl 5 rfl) ?_
        refine lv_iload_n hx hb dX1_shiftUp_33 rfl (lv_at hl 2 rfl) ?_
        refine iw_isub hx hb dX1_shiftUp_34 ?_
        refine iw_topi (y := iv ((i : Int) - (pq : Int))) (congrArg iv (by omega : (((((i + 1 : Nat) : Int) - 1) - ((pq : Int))) : Int) = ((i : Int) - (pq : Int)))) ?_
        refine ef_callV (As := [.int (iv ((i : Int) - (pq : Int)))]) (rest := []) ⟨hx, hb, hml, hown, hts⟩ (c_valueAt l dC dI ht hw h2 ((i : Int) - (pq : Int)) ⟨by omega, by omega⟩) (cwV 1 hts gX1_shiftUp_X1_valueAt rfl rfl rfl (by decide +kernel) ⟨Nat.le_of_ble_eq_true rfl, Nat.le_of_ble_eq_true rfl⟩) hK hNX hP hD hS k0 hw.2.1 rfl rfl rfl hl.1 rfl (Nat.le_of_ble_eq_true rfl) dX1_shiftUp_35 ⟨Nat.zero_le _, Nat.zero_le _⟩ (fun o w1 H locs hq hP hD hS => ?_)
        obtain ⟨rfl, e9⟩ := hq
        rw [e9] at hP hD
        refine W.eq (g2 := F0 m 38 ls [.long (jv (wz G ((i : Int) - (pq : Int))))]) rfl ?_
        refine iw_topl (y := jv ((wh : Int))) (by rw [e1]) ?_
        refine lv_bipush (v := iv (32)) hx hb dX1_shiftUp_38 (by decide) ?_
        refine iw_topi (y := iv (((32 : Nat) : Int))) (congrArg iv (by omega : ((32) : Int) = (((32 : Nat) : Int)))) ?_
        refine iw_lshlk (w := wh) (k := 32) hx hb (by decide) dX1_shiftUp_40 ?_
        refine iw_topl (y := jv (((wh * 4294967296 : Nat) : Int))) (congrArg jv (by rfl : ((((wh * 2 ^ 32 : Nat) : Int)) : Int) = (((wh * 4294967296 : Nat) : Int)))) ?_
        refine lv_aload_n hx hb dX1_shiftUp_41 rfl (lv_at hl 0 rfl) ?_
        refine lv_iload hx hb dX1_shiftUp_42 (lv_at hl 5 rfl) ?_
        refine lv_iload_n hx hb dX1_shiftUp_44 rfl (lv_at hl 2 rfl) ?_
        refine iw_isub hx hb dX1_shiftUp_45 ?_
        refine lv_iconst (v := iv (1)) hx hb dX1_shiftUp_46 (by decide) ?_
        refine iw_isub hx hb dX1_shiftUp_47 ?_
        refine iw_topi (y := iv ((i : Int) - (pq : Int) - 1)) (congrArg iv (by omega : ((((((i + 1 : Nat) : Int) - 1) - ((pq : Int))) - (1)) : Int) = ((i : Int) - (pq : Int) - 1))) ?_
        refine ef_callV (As := [.int (iv ((i : Int) - (pq : Int) - 1))]) (rest := [.long (jv (((wh * 4294967296 : Nat) : Int)))]) ⟨hx, hb, hml, hown, hts⟩ (c_valueAt l dC dI ht hw h2 ((i : Int) - (pq : Int) - 1) ⟨by omega, by omega⟩) (cwV 1 hts gX1_shiftUp_X1_valueAt rfl rfl rfl (by decide +kernel) ⟨Nat.le_of_ble_eq_true rfl, Nat.le_of_ble_eq_true rfl⟩) hK hNX hP hD hS k0 hw.2.1 rfl rfl rfl hl.1 rfl (Nat.le_of_ble_eq_true rfl) dX1_shiftUp_48 ⟨Nat.zero_le _, Nat.zero_le _⟩ (fun o w1 H locs hq hP hD hS => ?_)
        obtain ⟨rfl, e9⟩ := hq
        rw [e9] at hP hD
        refine W.eq (g2 := F0 m 51 ls [.long (jv (wz G ((i : Int) - (pq : Int) - 1))), .long (jv (((wh * 4294967296 : Nat) : Int)))]) rfl ?_
        refine iw_topl (y := jv ((wq : Int))) (by rw [e0]) ?_
        refine iw_lor hx hb hl1 hl0 dX1_shiftUp_51 ?_
        obtain ⟨z, hz9⟩ : ∃ z, z = wh * 4294967296 + wq := ⟨_, rfl⟩
        refine iw_topl (y := jv ((z : Int))) (congrArg jv (by rw [hz9] : ((((wh * 4294967296 + wq : Nat) : Int)) : Int) = ((z : Int)))) ?_
        refine lv_lstore (lv' := [(6, .long (jv ((z : Int)))), (0, .ref h), (1, .int (iv ((k : Int)))), (2, .int (iv ((pq : Int)))), (3, .int (iv ((rq : Int)))), (4, .int (iv (((wl X + pq + 1 : Nat) : Int)))), (5, .int (iv (((i + 1 : Nat) : Int) - 1)))]) hx hb dX1_shiftUp_52 hl (by decide) rfl (fun ls hl => ?_)
        refine lv_aload_n hx hb dX1_shiftUp_54 rfl (lv_at hl 1 rfl) ?_
        refine lv_iload hx hb dX1_shiftUp_55 (lv_at hl 6 rfl) ?_
        refine iw_topi (y := iv ((i : Int))) (congrArg iv (by omega : ((((i + 1 : Nat) : Int) - 1) : Int) = ((i : Int)))) ?_
        refine lv_lload hx hb dX1_shiftUp_57 (lv_at hl 0 rfl) ?_
        refine lv_bipush (v := iv (32)) hx hb dX1_shiftUp_59 (by decide) ?_
        refine lv_iload_n hx hb dX1_shiftUp_61 rfl (lv_at hl 4 rfl) ?_
        refine iw_isub hx hb dX1_shiftUp_62 ?_
        refine iw_topi (y := iv (((32 - rq : Nat) : Int))) (congrArg iv (by omega : (((32) - ((rq : Int))) : Int) = (((32 - rq : Nat) : Int)))) ?_
        refine iw_lushrk hx hb (by omega) (by omega) dX1_shiftUp_63 ?_
        refine ef_callV (As := [.int (iv ((i : Int))), .long (jv (((z / 2 ^ (32 - rq) : Nat) : Int)))]) (rest := []) ⟨hx, hb, hml, hown, hts⟩ (c_put l dC dI ht hw (i : Int) ⟨by omega, by omega⟩ ((z / 2 ^ (32 - rq) : Nat) : Int)) (cwV 2 hts gX1_shiftUp_X1_put rfl rfl rfl (by decide +kernel) ⟨Nat.le_of_ble_eq_true rfl, Nat.le_of_ble_eq_true rfl⟩) hK hNX hP hD hS k0 hw.2.1 rfl rfl rfl hl.1 rfl (Nat.le_of_ble_eq_true rfl) dX1_shiftUp_64 ⟨Nat.zero_le _, Nat.zero_le _⟩ (fun o w1 H locs hq hP hD hS => ?_)
        obtain ⟨rfl, rfl⟩ := hq
        have hP := efP2 hw0.1 hP
        have hD := efD2 hw0.1 hD
        have hw : isW (wW ws k0 k1 h a cI ((wl X : Int)) (wp G (i : Int) ((z / 2 ^ (32 - rq) : Nat) : Int))) k0 k1 h a cI ((wl X : Int)) (wp G (i : Int) ((z / 2 ^ (32 - rq) : Nat) : Int)) := hw0.w _ _
        refine W.eq (g2 := F0 m 67 ls []) rfl ?_
        refine lv_iinc (v := iv ((i : Int) - 1)) (lv' := [(5, .int (iv ((i : Int) - 1))), (6, .long (jv ((z : Int)))), (0, .ref h), (1, .int (iv ((k : Int)))), (2, .int (iv ((pq : Int)))), (3, .int (iv ((rq : Int)))), (4, .int (iv (((wl X + pq + 1 : Nat) : Int))))]) hx hb dX1_shiftUp_67 hl (k := 6) rfl (by rw [show ((i + 1 : Nat) : Int) - 1 = (i : Int) by omega]; exact iv_add (i : Int) (-1)) (by decide) rfl (fun ls hl => ?_)
        refine lv_goto (tgt := 25) hx hb dX1_shiftUp_70 (by decide) ?_
        exact ih (i) (wp G (i : Int) ((z / 2 ^ (32 - rq) : Nat) : Int)) (by omega) (wp_lt h2 _ _) (fun j => by
              by_cases q : j = i
              · subst q
                rw [wp_at (by omega), if_pos (Nat.le_refl _), hkk, wd_shift X pq rq j (by omega), hz9, hw1, hw2]
              · rw [wp_ne (by omega), h3 j]
                by_cases q2 : i + 1 ≤ j
                · rw [if_pos q2, if_pos (by omega)]
                · rw [if_neg q2, if_neg (by omega)]) (by omega) H locs ls hP hD hS (lv_sub hl [2, 3, 4, 5, 6, 0] rfl)
  exact loop (wl X + pq + 2) (wl X + pq + 1) (wd X) (Nat.le_refl _) (wd_lt X) (fun j => by
        by_cases q : wl X + pq + 1 ≤ j
        · rw [if_pos q, wd_above (by omega), wd_above (Nat.le_trans hsz0 q)]
        · rw [if_neg q]) (by omega) H locs ls hP hD hS (lv_sub hl [4, 5, 3, 2, 1, 0] rfl)
