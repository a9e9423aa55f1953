set_option maxRecDepth 100000 in
set_option maxHeartbeats 4000000 in
/-- grow(mu, mo) -/
theorem b_grow (l : Launch) (dC : Nat → ClassId) (dI : Nat → Nat → Nat) {cI : ClassId} {tys : List (ClassId × FieldType)} (ht : tys[0]? = some (cI, .int)) {ws : va_W} {k0 k1 h a X : Nat} {F : Nat → Nat} (hw : isB ws k0 k1 h a cI (dn X : Int) F) (hd : dgo X F) (hX : dn X ≤ 637) (mu mo : Nat) (hmu1 : 1 ≤ mu) (hmu : mu ≤ 1000000) (hmo : mo ≤ 1000000) : ef_C l ry_B_grow rw_B_grow ({ frames := 0, cells := 0, slots := 0, locals := 0 } : Room) [.ref h, .int (iv ((mu : Int))), .int (iv ((mo : Int)))] (dC, dI) vwCl tys ws (fun o w1 => o = none ∧ ∃ F2 : Nat → Nat, w1 = bW ws k0 k1 h a cI (dn (X * mu + mo) : Int) F2 ∧ dgo (X * mu + mo) F2) := by
  refine ef_C.of (cc := rc_B_grow) (maxL := 8) (ret := none) (by decide) rfl (Nat.le_of_ble_eq_true rfl) ?_
  intro p e s m below meth c ls hx hb hml hr hts hown hlocks hK hNX hP hD hS hl
  have hl : lv_has ls 8 [(0, .ref h), (1, .int (iv ((mu : Int)))), (2, .int (iv ((mo : Int))))] := hl
  have hown : s.vm.findClass rR3 = some m.cls := hown
  generalize hH : s.heap = H at hP ⊢
  have hS : va_S (ef_A ws) s.heap H [] := by rw [← hH]; exact hS
  generalize ([] : List Loc) = locs at hS ⊢
  have hw0 := hw
  have hP := egP0 hw0 hP
  have hD := egD0 hw0 hD
  have hw : isB (bW ws k0 k1 h a cI ((dn X : Int)) (F)) k0 k1 h a cI ((dn X : Int)) (F) := hw0.w _ _
  refine lv_iload_n hx hb rd_B_grow_0 rfl (lv_at hl 2 rfl) ?_
  refine iw_i2l hx hb ⟨by omega, by omega⟩ rd_B_grow_1 ?_
  refine lv_lstore_n (lv' := [(3, .long (jv ((mo : Int)))), (0, .ref h), (1, .int (iv ((mu : Int)))), (2, .int (iv ((mo : Int))))]) hx hb rd_B_grow_2 rfl hl (by decide) rfl (fun ls hl => ?_)
  refine lv_iconst (v := iv (0)) hx hb rd_B_grow_3 (by decide) ?_
  refine lv_istore (lv' := [(5, .int (iv (0))), (3, .long (jv ((mo : Int)))), (0, .ref h), (1, .int (iv ((mu : Int)))), (2, .int (iv ((mo : Int))))]) hx hb rd_B_grow_4 hl (by decide) rfl (fun ls hl => ?_)
  have loop : ∀ (fuel : Nat) (i : Nat) (cy : Nat) (G : Nat → Nat), (i ≤ dn X) → (cy ≤ 1000000) → (∀ j, j < i → G j < 65536) → (nd G i + cy * 2 ^ (16 * i) = nd (dg X) i * mu + mo) → (∀ j, i ≤ j → G j = F j) → (dn X < i + fuel) → ∀ (H : Heap) (locs : List Loc) (ls : Array Slot), va_P (dC, dI) vwCl (bW ws k0 k1 h a cI ((dn X : Int)) G) H → va_D (ef_A ws) (bW ws k0 k1 h a cI ((dn X : Int)) G) → va_S (ef_A ws) s.heap H locs → lv_has ls 8 [(0, .ref h), (1, .int (iv ((mu : Int)))), (2, .int (iv ((mo : Int)))), (3, .long (jv ((cy : Int)))), (5, .int (iv ((i : Int))))] → W p l e ({ frames := 0, cells := 0, slots := 0, locals := 0 } : Room) s m ([.ref h, .int (iv ((mu : Int))), .int (iv ((mo : Int)))] : List Value).toArray below meth c H locs 0 0 (ef_R below (dC, dI) vwCl ws (fun o w1 => o = none ∧ ∃ F2 : Nat → Nat, w1 = bW ws k0 k1 h a cI (dn (X * mu + mo) : Int) F2 ∧ dgo (X * mu + mo) F2) [.ref h, .int (iv ((mu : Int))), .int (iv ((mo : Int)))] s) (F0 m 6 ls []) := by
    intro fuel
    induction fuel with
    | zero => intro i cy G h1 hc h2 h3 h4 h5; exfalso; omega
    | succ fuel ih =>
      intro i cy G h1 hc h2 h3 h4 h5 H locs ls hP hD hS hl
      have hw : isB (bW ws k0 k1 h a cI ((dn X : Int)) (G)) k0 k1 h a cI ((dn X : Int)) (G) := hw0.w _ _
      refine lv_iload hx hb rd_B_grow_6 (lv_at hl 4 rfl) ?_
      refine lv_aload_n hx hb rd_B_grow_8 rfl (lv_at hl 0 rfl) ?_
      refine va_get (D := (dC, dI)) (ci := 3) (v := .int (iv ((dn X : Int)))) (C := rR3) (T := rT3) (N := 2) hx hb hts (fun w h => List.mem_cons_of_mem _ (rin3 w h)) hown hK hP k0 hw.2.1 rfl 1 (by decide) (hts _ (List.mem_cons_of_mem _ rm_268)) (fun _ h9 => h9) rfl rd_B_grow_9 ?_
      refine iw_icmp_ge (tgt := 56) hx hb rd_B_grow_12 (by decide) ⟨by omega, by omega⟩ ⟨by omega, by omega⟩ (fun c1 => ?_) (fun c1 => ?_)
      ·
        have hi2 : i = dn X := by omega
        subst hi2
        rw [nd_self] at h3
        have htop : cy = 0 → dn X = 0 ∨ G (dn X - 1) ≠ 0 := by
          intro q
          rcases Nat.eq_zero_or_pos (dn X) with q1 | q1
          · exact Or.inl q1
          · right
            intro q2
            have q3 : X ≠ 0 := fun q4 => by rw [dn_0.2 q4] at q1; omega
            have q5 := dn_ge q3
            have q6 := nd_lt (F := G) (k := dn X - 1) (fun j hj => h2 j (by omega))
            have q7 : nd G (dn X) = nd G (dn X - 1) := by
              have e : nd G (dn X - 1 + 1) = nd G (dn X - 1) + G (dn X - 1) * 2 ^ (16 * (dn X - 1)) := rfl
              rw [show dn X - 1 + 1 = dn X by omega, q2, Nat.zero_mul, Nat.add_zero] at e
              exact e
            have q8 : X * 1 ≤ X * mu := Nat.mul_le_mul_left _ hmu1
            rw [q, Nat.zero_mul, Nat.add_zero, q7] at h3
            omega
        obtain ⟨n0, hn0⟩ : ∃ n0, n0 = dn X := ⟨_, rfl⟩
        rw [← hn0] at h2 h3 htop hP hD hX
        clear h1 h4 h5 hw
        generalize X * mu + mo = S at h3 ⊢
        have loop2 : ∀ (fuel : Nat) (i : Nat) (cy : Nat) (G : Nat → Nat), (i ≤ n0 + 2) → (cy < 65536 ^ (n0 + 2 - i)) → (cy ≤ 1000000) → (∀ j, j < i → G j < 65536) → (nd G i + cy * 2 ^ (16 * i) = S) → (cy = 0 → i = 0 ∨ G (i - 1) ≠ 0) → (n0 + 2 < i + fuel) → ∀ (H : Heap) (locs : List Loc) (ls : Array Slot), va_P (dC, dI) vwCl (bW ws k0 k1 h a cI ((i : Int)) G) H → va_D (ef_A ws) (bW ws k0 k1 h a cI ((i : Int)) G) → va_S (ef_A ws) s.heap H locs → lv_has ls 8 [(0, .ref h), (3, .long (jv ((cy : Int))))] → W p l e ({ frames := 0, cells := 0, slots := 0, locals := 0 } : Room) s m ([.ref h, .int (iv ((mu : Int))), .int (iv ((mo : Int)))] : List Value).toArray below meth c H locs 0 0 (ef_R below (dC, dI) vwCl ws (fun o w1 => o = none ∧ ∃ F2 : Nat → Nat, w1 = bW ws k0 k1 h a cI (dn S : Int) F2 ∧ dgo S F2) [.ref h, .int (iv ((mu : Int))), .int (iv ((mo : Int)))] s) (F0 m 56 ls []) := by
          intro fuel
          induction fuel with
          | zero => intro i cy G h1 hc hc2 h2 h3 h4 h5; exfalso; omega
          | succ fuel ih =>
            intro i cy G h1 hc hc2 h2 h3 h4 h5 H locs ls hP hD hS hl
            have hw : isB (bW ws k0 k1 h a cI ((i : Int)) (G)) k0 k1 h a cI ((i : Int)) (G) := hw0.w _ _
            refine lv_lload_n hx hb rd_B_grow_56 rfl (lv_at hl 1 rfl) ?_
            refine lv_lconst (v := jv (0)) hx hb rd_B_grow_57 (by decide) ?_
            refine iw_lcmp hx hb (⟨by omega, by omega⟩) (⟨by omega, by omega⟩) rd_B_grow_58 ?_
            refine iw_if_le (tgt := 95) hx hb rd_B_grow_59 (by decide) (ir_zc _ _) (fun c2 => ?_) (fun c2 => ?_)
            ·
              have c3 : cy = 0 := by have := (zc_le _ _).1 c2; omega
              have hs := dgo_of h2 (h4 c3)
              rw [c3, Nat.zero_mul, Nat.add_zero] at h3
              rw [h3] at hs
              exact ef_vret hx hb hr hlocks hP hD hS rd_B_grow_95 (⟨rfl, G, by rw [hs.1], hs.2⟩)
            ·
              have c3 : cy ≠ 0 := fun q => by have := mt (zc_le (cy : Int) 0).2 (by omega); omega
              have hi : i < n0 + 2 := by
                rcases Nat.lt_or_ge i (n0 + 2) with q | q
                · exact q
                · rw [show n0 + 2 - i = 0 by omega, Nat.pow_zero] at hc; omega
              refine lv_aload_n hx hb rd_B_grow_62 rfl (lv_at hl 0 rfl) ?_
              refine va_get (D := (dC, dI)) (ci := 3) (v := .ref a) (C := rR3) (T := rT3) (N := 2) hx hb hts (fun w h => List.mem_cons_of_mem _ (rin3 w h)) hown hK hP k0 hw.2.1 rfl 0 (by decide) (hts _ (List.mem_cons_of_mem _ rm_266)) (fun _ h9 => h9) rfl rd_B_grow_63 ?_
              refine lv_aload_n hx hb rd_B_grow_66 rfl (lv_at hl 0 rfl) ?_
              refine va_get (D := (dC, dI)) (ci := 3) (v := .int (iv ((i : Int)))) (C := rR3) (T := rT3) (N := 2) hx hb hts (fun w h => List.mem_cons_of_mem _ (rin3 w h)) hown hK hP k0 hw.2.1 rfl 1 (by decide) (hts _ (List.mem_cons_of_mem _ rm_268)) (fun _ h9 => h9) rfl rd_B_grow_67 ?_
              refine lv_lload_n hx hb rd_B_grow_70 rfl (lv_at hl 1 rfl) ?_
              refine lv_ldc2 (v := 65535) hx hb hown (hts _ (List.mem_cons_of_mem _ rm_309)) rd_B_grow_71 ?_
              refine iw_land16 hx hb rd_B_grow_74 ?_
              refine iw_l2i hx hb rd_B_grow_75 ?_
              refine iw_topi (y := iv (((cy % 65536 : Nat) : Int))) (congrArg iv (by omega : ((((cy : Int)) % 65536) : Int) = (((cy % 65536 : Nat) : Int)))) ?_
              refine iw_iast (i := i) (v := cy % 65536) hx hb hK hP hD hS k1 0 hw.2.2 ht (by omega) (by decide) rd_B_grow_76 (fun H locs hP hD hS => ?_)
              have hP := egPa hP
              have hD := egDa hD
              have hw : isB (bW ws k0 k1 h a cI ((i : Int)) (va_up (G) (i) (cy % 65536))) k0 k1 h a cI ((i : Int)) (va_up (G) (i) (cy % 65536)) := hw0.w _ _
              refine lv_aload_n hx hb rd_B_grow_77 rfl (lv_at hl 0 rfl) ?_
              refine lv_dup hx hb rd_B_grow_78 rfl ?_
              refine va_get (D := (dC, dI)) (ci := 3) (v := .int (iv ((i : Int)))) (C := rR3) (T := rT3) (N := 2) hx hb hts (fun w h => List.mem_cons_of_mem _ (rin3 w h)) hown hK hP k0 hw.2.1 rfl 1 (by decide) (hts _ (List.mem_cons_of_mem _ rm_268)) (fun _ h9 => h9) rfl rd_B_grow_79 ?_
              refine lv_iconst (v := iv (1)) hx hb rd_B_grow_82 (by decide) ?_
              refine iw_iadd hx hb rd_B_grow_83 ?_
              refine iw_topi (y := iv (((i + 1 : Nat) : Int))) (congrArg iv (by omega : ((((i : Int)) + (1)) : Int) = (((i + 1 : Nat) : Int)))) ?_
              refine va_put (D := (dC, dI)) (ci := 3) (v := .int (iv (((i + 1 : Nat) : Int)))) (ty := .int) (C := rR3) (T := rT3) (N := 2) hx hb hts (fun w h => List.mem_cons_of_mem _ (rin3 w h)) rty3 rtyok3 rnm3 hown hK hP hD hS k0 hw.2.1 rfl 1 (by decide) (hts _ (List.mem_cons_of_mem _ rm_268)) (fun _ h9 => h9) rfl (by decide +kernel) rfl rfl (Nat.le_of_ble_eq_true rfl) rd_B_grow_84 (fun H locs hP hD hS => ?_)
              have hP := egPu hw0.1 hP
              have hD := egDu hw0.1 hD
              have hw : isB (bW ws k0 k1 h a cI (((i + 1 : Nat) : Int)) (va_up (G) (i) (cy % 65536))) k0 k1 h a cI (((i + 1 : Nat) : Int)) (va_up (G) (i) (cy % 65536)) := hw0.w _ _
              refine lv_lload_n hx hb rd_B_grow_87 rfl (lv_at hl 1 rfl) ?_
              refine lv_bipush (v := iv (16)) hx hb rd_B_grow_88 (by decide) ?_
              refine iw_lshr16 hx hb ⟨by omega, by omega⟩ rd_B_grow_90 ?_
              refine iw_topl (y := jv (((cy / 65536 : Nat) : Int))) (congrArg jv (by omega : ((((cy : Int)) / 65536) : Int) = (((cy / 65536 : Nat) : Int)))) ?_
              refine lv_lstore_n (lv' := [(3, .long (jv (((cy / 65536 : Nat) : Int)))), (0, .ref h)]) hx hb rd_B_grow_91 rfl hl (by decide) rfl (fun ls hl => ?_)
              refine lv_goto (tgt := 56) hx hb rd_B_grow_92 (by decide) ?_
              exact ih (i + 1) (cy / 65536) (va_up G i (cy % 65536)) (by omega) (by
                    rw [show n0 + 2 - i = n0 + 2 - (i + 1) + 1 by omega, Nat.pow_succ] at hc
                    exact Nat.div_lt_of_lt_mul (by rw [Nat.mul_comm]; exact hc)) (by omega) (fun j hj => by
                    by_cases q : j = i
                    · rw [q, ef_up_at]; omega
                    · rw [ef_up_ne q]; exact h2 j (by omega)) (by have := nd_step (y := 0) h3 rfl; rw [Nat.zero_mul, Nat.add_zero] at this; exact this) (fun q => Or.inr (by rw [show i + 1 - 1 = i by omega, ef_up_at]; omega)) (by omega) H locs ls hP hD hS (lv_sub hl [1, 0] rfl)
        exact loop2 (3) (n0) (cy) (G) (by omega) (by rw [show n0 + 2 - n0 = 2 by omega]; have : (65536 : Nat) ^ 2 = 4294967296 := rfl; omega) (hc) (h2) (h3) (htop) (by omega) H locs ls hP hD hS (lv_sub hl [0, 3] rfl)
      ·
        have hdi := hd i (by omega)
        have hgi := h4 i (Nat.le_refl _)
        have hdl := dg_lt X i
        refine lv_aload_n hx hb rd_B_grow_15 rfl (lv_at hl 0 rfl) ?_
        refine va_get (D := (dC, dI)) (ci := 3) (v := .ref a) (C := rR3) (T := rT3) (N := 2) hx hb hts (fun w h => List.mem_cons_of_mem _ (rin3 w h)) hown hK hP k0 hw.2.1 rfl 0 (by decide) (hts _ (List.mem_cons_of_mem _ rm_266)) (fun _ h9 => h9) rfl rd_B_grow_16 ?_
        refine lv_iload hx hb rd_B_grow_19 (lv_at hl 4 rfl) ?_
        refine iw_iald (i := i) hx hb hK hP k1 0 hw.2.2 ht (by omega) (by decide) rd_B_grow_21 ?_
        refine iw_topi (y := iv (((dg X i : Nat) : Int))) (congrArg iv (by rw [hgi, hdi] : (((G) (i)) : Int) = (((dg X i : Nat) : Int)))) ?_
        have hyb : dg X i * mu ≤ 65535 * 1000000 := Nat.mul_le_mul (by omega) hmu
        refine iw_i2l hx hb ⟨by omega, by omega⟩ rd_B_grow_22 ?_
        refine lv_iload_n hx hb rd_B_grow_23 rfl (lv_at hl 1 rfl) ?_
        refine iw_i2l hx hb ⟨by omega, by omega⟩ rd_B_grow_24 ?_
        refine iw_lmul hx hb rd_B_grow_25 ?_
        refine lv_lload_n hx hb rd_B_grow_26 rfl (lv_at hl 3 rfl) ?_
        refine iw_ladd hx hb rd_B_grow_27 ?_
        obtain ⟨z, hz9⟩ : ∃ z, z = cy + dg X i * mu := ⟨_, rfl⟩
        refine iw_topl (y := jv ((z : Int))) (congrArg jv (by rw [hz9]; push_cast; omega : ((((((dg X i : Nat) : Int)) * ((mu : Int))) + ((cy : Int))) : Int) = ((z : Int)))) ?_
        refine lv_lstore (lv' := [(6, .long (jv ((z : Int)))), (0, .ref h), (1, .int (iv ((mu : Int)))), (2, .int (iv ((mo : Int)))), (3, .long (jv ((cy : Int)))), (5, .int (iv ((i : Int))))]) hx hb rd_B_grow_28 hl (by decide) rfl (fun ls hl => ?_)
        refine lv_aload_n hx hb rd_B_grow_30 rfl (lv_at hl 1 rfl) ?_
        refine va_get (D := (dC, dI)) (ci := 3) (v := .ref a) (C := rR3) (T := rT3) (N := 2) hx hb hts (fun w h => List.mem_cons_of_mem _ (rin3 w h)) hown hK hP k0 hw.2.1 rfl 0 (by decide) (hts _ (List.mem_cons_of_mem _ rm_266)) (fun _ h9 => h9) rfl rd_B_grow_31 ?_
        refine lv_iload hx hb rd_B_grow_34 (lv_at hl 5 rfl) ?_
        refine lv_lload hx hb rd_B_grow_36 (lv_at hl 0 rfl) ?_
        refine lv_ldc2 (v := 65535) hx hb hown (hts _ (List.mem_cons_of_mem _ rm_309)) rd_B_grow_38 ?_
        refine iw_land16 hx hb rd_B_grow_41 ?_
        refine iw_l2i hx hb rd_B_grow_42 ?_
        refine iw_topi (y := iv (((z % 65536 : Nat) : Int))) (congrArg iv (by omega : ((((z : Int)) % 65536) : Int) = (((z % 65536 : Nat) : Int)))) ?_
        refine iw_iast (i := i) (v := z % 65536) hx hb hK hP hD hS k1 0 hw.2.2 ht (by omega) (by decide) rd_B_grow_43 (fun H locs hP hD hS => ?_)
        have hP := egPa hP
        have hD := egDa hD
        have hw : isB (bW ws k0 k1 h a cI ((dn X : Int)) (va_up (G) (i) (z % 65536))) k0 k1 h a cI ((dn X : Int)) (va_up (G) (i) (z % 65536)) := hw0.w _ _
        refine lv_lload hx hb rd_B_grow_44 (lv_at hl 0 rfl) ?_
        refine lv_bipush (v := iv (16)) hx hb rd_B_grow_46 (by decide) ?_
        refine iw_lshr16 hx hb ⟨by omega, by omega⟩ rd_B_grow_48 ?_
        refine iw_topl (y := jv (((z / 65536 : Nat) : Int))) (congrArg jv (by omega : ((((z : Int)) / 65536) : Int) = (((z / 65536 : Nat) : Int)))) ?_
        refine lv_lstore_n (lv' := [(3, .long (jv (((z / 65536 : Nat) : Int)))), (6, .long (jv ((z : Int)))), (0, .ref h), (1, .int (iv ((mu : Int)))), (2, .int (iv ((mo : Int)))), (5, .int (iv ((i : Int))))]) hx hb rd_B_grow_49 rfl hl (by decide) rfl (fun ls hl => ?_)
        refine lv_iinc (v := iv (((i + 1 : Nat) : Int))) (lv' := [(5, .int (iv (((i + 1 : Nat) : Int)))), (3, .long (jv (((z / 65536 : Nat) : Int)))), (6, .long (jv ((z : Int)))), (0, .ref h), (1, .int (iv ((mu : Int)))), (2, .int (iv ((mo : Int))))]) hx hb rd_B_grow_50 hl (k := 5) rfl (iv_inc i) (by decide) rfl (fun ls hl => ?_)
        refine lv_goto (tgt := 6) hx hb rd_B_grow_53 (by decide) ?_
        exact ih (i + 1) (z / 65536) (va_up G i (z % 65536)) (by omega) (by omega) (fun j hj => by
              by_cases q : j = i
              · rw [q, ef_up_at]; omega
              · rw [ef_up_ne q]; exact h2 j (by omega)) (by
              rw [nd_step h3 hz9]
              show _ = (nd (dg X) i + dg X i * 2 ^ (16 * i)) * mu + mo
              rw [Nat.add_mul, Nat.mul_right_comm (dg X i)]
              omega) (fun j hj => by rw [ef_up_ne (by omega)]; exact h4 j (by omega)) (by omega) H locs ls hP hD hS (lv_sub hl [3, 4, 5, 1, 0] rfl)
  exact loop (dn X + 1) (0) (mo) (F) (Nat.zero_le _) (hmo) (fun j hj => absurd hj (by omega)) (by show 0 + mo * 2 ^ (16 * 0) = 0 * mu + mo; omega) (fun j _ => rfl) (by omega) H locs ls hP hD hS (lv_sub hl [2, 3, 4, 1, 0] rfl)

set_option maxRecDepth 100000 in
set_option maxHeartbeats 4000000 in
/-- compare -/
theorem b_compare (l : Launch) (dC : Nat → ClassId) (dI : Nat → Nat → Nat) {cI : ClassId} {tys : List (ClassId × FieldType)} (ht : tys[0]? = some (cI, .int)) {ws : va_W} {k0 k1 h a X : Nat} {F : Nat → Nat} (hw : isB ws k0 k1 h a cI (dn X : Int) F) (hd : dgo X F) (hX : dn X ≤ 640) {j0 j1 g b Y : Nat} {G : Nat → Nat} (ho : isB ws j0 j1 g b cI (dn Y : Int) G) (hdo : dgo Y G) (hY : dn Y ≤ 640) : ef_C l ry_B_compare rw_B_compare ({ frames := 0, cells := 0, slots := 0, locals := 0 } : Room) [.ref h, .ref g] (dC, dI) vwCl tys ws (fun o w1 => o = some (.int (iv (zc X Y))) ∧ w1 = ws) := by
  refine ef_C.of (cc := rc_B_compare) (maxL := 3) (ret := (some .int)) (by decide) rfl (Nat.le_of_ble_eq_true rfl) ?_
  intro p e s m below meth c ls hx hb hml hr hts hown hlocks hK hNX hP hD hS hl
  have hl : lv_has ls 3 [(0, .ref h), (1, .ref g)] := hl
  have hown : s.vm.findClass rR3 = some m.cls := hown
  generalize hH : s.heap = H at hP ⊢
  have hS : va_S (ef_A ws) s.heap H [] := by rw [← hH]; exact hS
  generalize ([] : List Loc) = locs at hS ⊢
  refine lv_aload_n hx hb rd_B_compare_0 rfl (lv_at hl 0 rfl) ?_
  refine va_get (D := (dC, dI)) (ci := 3) (v := .int (iv ((dn X : Int)))) (C := rR3) (T := rT3) (N := 2) hx hb hts (fun w h => List.mem_cons_of_mem _ (rin3 w h)) hown hK hP k0 hw.2.1 rfl 1 (by decide) (hts _ (List.mem_cons_of_mem _ rm_268)) (fun _ h9 => h9) rfl rd_B_compare_1 ?_
  refine lv_aload_n hx hb rd_B_compare_4 rfl (lv_at hl 1 rfl) ?_
  refine va_get (D := (dC, dI)) (ci := 3) (v := .int (iv ((dn Y : Int)))) (C := rR3) (T := rT3) (N := 2) hx hb hts (fun w h => List.mem_cons_of_mem _ (rin3 w h)) hown hK hP j0 ho.2.1 rfl 1 (by decide) (hts _ (List.mem_cons_of_mem _ rm_268)) (fun _ h9 => h9) rfl rd_B_compare_5 ?_
  refine iw_icmp_eq (tgt := 28) hx hb rd_B_compare_8 (by decide) ⟨by omega, by omega⟩ ⟨by omega, by omega⟩ (fun c1 => ?_) (fun c1 => ?_)
  ·
    have hn : dn X = dn Y := by omega
    refine lv_aload_n hx hb rd_B_compare_28 rfl (lv_at hl 0 rfl) ?_
    refine va_get (D := (dC, dI)) (ci := 3) (v := .int (iv ((dn X : Int)))) (C := rR3) (T := rT3) (N := 2) hx hb hts (fun w h => List.mem_cons_of_mem _ (rin3 w h)) hown hK hP k0 hw.2.1 rfl 1 (by decide) (hts _ (List.mem_cons_of_mem _ rm_268)) (fun _ h9 => h9) rfl rd_B_compare_29 ?_
    refine lv_iconst (v := iv (1)) hx hb rd_B_compare_32 (by decide) ?_
    refine iw_isub hx hb rd_B_compare_33 ?_
    refine lv_istore_n (lv' := [(2, .int (iv (((dn X : Int)) - (1)))), (0, .ref h), (1, .ref g)]) hx hb rd_B_compare_34 rfl hl (by decide) rfl (fun ls hl => ?_)
    have loop : ∀ (fuel : Nat) (n : Nat), (n ≤ dn X) → (X / 2 ^ (16 * n) = Y / 2 ^ (16 * n)) → (n < fuel) → ∀ (H : Heap) (locs : List Loc) (ls : Array Slot), va_P (dC, dI) vwCl (ws) H → va_D (ef_A ws) (ws) → va_S (ef_A ws) s.heap H locs → lv_has ls 3 [(0, .ref h), (1, .ref g), (2, .int (iv ((n : Int) - 1)))] → W p l e ({ frames := 0, cells := 0, slots := 0, locals := 0 } : Room) s m ([.ref h, .ref g] : List Value).toArray below meth c H locs 0 0 (ef_R below (dC, dI) vwCl ws (fun o w1 => o = some (.int (iv (zc X Y))) ∧ w1 = ws) [.ref h, .ref g] s) (F0 m 35 ls []) := by
      intro fuel
      induction fuel with
      | zero => intro n g1 g2 g3; exfalso; omega
      | succ fuel ih =>
        intro n g1 g2 g3 H locs ls hP hD hS hl
        refine lv_iload_n hx hb rd_B_compare_35 rfl (lv_at hl 2 rfl) ?_
        refine iw_if_lt (tgt := 81) hx hb rd_B_compare_36 (by decide) ⟨by omega, by omega⟩ (fun c2 => ?_) (fun c2 => ?_)
        ·
          have n0 : n = 0 := by omega
          subst n0
          rw [Nat.mul_zero, Nat.pow_zero, Nat.div_one, Nat.div_one] at g2
          refine lv_iconst (v := iv (0)) hx hb rd_B_compare_81 (by decide) ?_
          exact ef_iret hx hb hr hlocks hP hD hS rd_B_compare_82 (by unfold zc; rw [if_neg (by omega), if_pos (by omega)]; exact ⟨rfl, rfl⟩)
        ·
          obtain ⟨r, rfl⟩ : ∃ r : Nat, n = r + 1 := ⟨n - 1, by omega⟩
          have hdx := dg_div X r
          have hdy := dg_div Y r
          have hx1 := dg_lt X r
          have hy1 := dg_lt Y r
          have hfx := hd r (by omega)
          have hfy := hdo r (by omega)
          refine lv_aload_n hx hb rd_B_compare_39 rfl (lv_at hl 0 rfl) ?_
          refine va_get (D := (dC, dI)) (ci := 3) (v := .ref a) (C := rR3) (T := rT3) (N := 2) hx hb hts (fun w h => List.mem_cons_of_mem _ (rin3 w h)) hown hK hP k0 hw.2.1 rfl 0 (by decide) (hts _ (List.mem_cons_of_mem _ rm_266)) (fun _ h9 => h9) rfl rd_B_compare_40 ?_
          refine lv_iload_n hx hb rd_B_compare_43 rfl (lv_at hl 2 rfl) ?_
          refine iw_topi (y := iv ((r : Int))) (congrArg iv (by omega : ((((r + 1 : Nat) : Int) - 1) : Int) = ((r : Int)))) ?_
          refine iw_iald (i := r) hx hb hK hP k1 0 hw.2.2 ht (by omega) (by decide) rd_B_compare_44 ?_
          refine iw_topi (y := iv (((dg X r : Nat) : Int))) (congrArg iv (by rw [hfx] : (((F) (r)) : Int) = (((dg X r : Nat) : Int)))) ?_
          refine lv_aload_n hx hb rd_B_compare_45 rfl (lv_at hl 1 rfl) ?_
          refine va_get (D := (dC, dI)) (ci := 3) (v := .ref b) (C := rR3) (T := rT3) (N := 2) hx hb hts (fun w h => List.mem_cons_of_mem _ (rin3 w h)) hown hK hP j0 ho.2.1 rfl 0 (by decide) (hts _ (List.mem_cons_of_mem _ rm_266)) (fun _ h9 => h9) rfl rd_B_compare_46 ?_
          refine lv_iload_n hx hb rd_B_compare_49 rfl (lv_at hl 2 rfl) ?_
          refine iw_topi (y := iv ((r : Int))) (congrArg iv (by omega : ((((r + 1 : Nat) : Int) - 1) : Int) = ((r : Int)))) ?_
          refine iw_iald (i := r) hx hb hK hP j1 0 ho.2.2 ht (by omega) (by decide) rd_B_compare_50 ?_
          refine iw_topi (y := iv (((dg Y r : Nat) : Int))) (congrArg iv (by rw [hfy] : (((G) (r)) : Int) = (((dg Y r : Nat) : Int)))) ?_
          refine iw_icmp_eq (tgt := 75) hx hb rd_B_compare_51 (by decide) ⟨by omega, by omega⟩ ⟨by omega, by omega⟩ (fun c3 => ?_) (fun c3 => ?_)
          ·
            refine lv_iinc (v := iv ((r : Int) - 1)) (lv' := [(2, .int (iv ((r : Int) - 1))), (0, .ref h), (1, .ref g)]) hx hb rd_B_compare_75 hl (k := 2) rfl (by rw [show ((r + 1 : Nat) : Int) - 1 = (r : Int) by omega]; exact iv_add (r : Int) (-1)) (by decide) rfl (fun ls hl => ?_)
            refine lv_goto (tgt := 35) hx hb rd_B_compare_78 (by decide) ?_
            exact ih (r) (by omega) (by rw [hdx, hdy, g2]; omega) (by omega) H locs ls hP hD hS (lv_sub hl [1, 2, 0] rfl)
          ·
            refine lv_aload_n hx hb rd_B_compare_54 rfl (lv_at hl 0 rfl) ?_
            refine va_get (D := (dC, dI)) (ci := 3) (v := .ref a) (C := rR3) (T := rT3) (N := 2) hx hb hts (fun w h => List.mem_cons_of_mem _ (rin3 w h)) hown hK hP k0 hw.2.1 rfl 0 (by decide) (hts _ (List.mem_cons_of_mem _ rm_266)) (fun _ h9 => h9) rfl rd_B_compare_55 ?_
            refine lv_iload_n hx hb rd_B_compare_58 rfl (lv_at hl 2 rfl) ?_
            refine iw_topi (y := iv ((r : Int))) (congrArg iv (by omega : ((((r + 1 : Nat) : Int) - 1) : Int) = ((r : Int)))) ?_
            refine iw_iald (i := r) hx hb hK hP k1 0 hw.2.2 ht (by omega) (by decide) rd_B_compare_59 ?_
            refine iw_topi (y := iv (((dg X r : Nat) : Int))) (congrArg iv (by rw [hfx] : (((F) (r)) : Int) = (((dg X r : Nat) : Int)))) ?_
            refine lv_aload_n hx hb rd_B_compare_60 rfl (lv_at hl 1 rfl) ?_
            refine va_get (D := (dC, dI)) (ci := 3) (v := .ref b) (C := rR3) (T := rT3) (N := 2) hx hb hts (fun w h => List.mem_cons_of_mem _ (rin3 w h)) hown hK hP j0 ho.2.1 rfl 0 (by decide) (hts _ (List.mem_cons_of_mem _ rm_266)) (fun _ h9 => h9) rfl rd_B_compare_61 ?_
            refine lv_iload_n hx hb rd_B_compare_64 rfl (lv_at hl 2 rfl) ?_
            refine iw_topi (y := iv ((r : Int))) (congrArg iv (by omega : ((((r + 1 : Nat) : Int) - 1) : Int) = ((r : Int)))) ?_
            refine iw_iald (i := r) hx hb hK hP j1 0 ho.2.2 ht (by omega) (by decide) rd_B_compare_65 ?_
            refine iw_topi (y := iv (((dg Y r : Nat) : Int))) (congrArg iv (by rw [hfy] : (((G) (r)) : Int) = (((dg Y r : Nat) : Int)))) ?_
            refine iw_icmp_ge (tgt := 73) hx hb rd_B_compare_66 (by decide) ⟨by omega, by omega⟩ ⟨by omega, by omega⟩ (fun c4 => ?_) (fun c4 => ?_)
            ·
              have c6 : Y < X := div_lt_of (P := 2 ^ (16 * r)) (by rw [hdx, hdy, g2]; omega)
              refine lv_iconst (v := iv (1)) hx hb rd_B_compare_73 (by decide) ?_
              exact ef_iret hx hb hr hlocks hP hD hS rd_B_compare_74 (by rw [zc_gt (by omega)]; exact ⟨rfl, rfl⟩)
            ·
              have c6 : X < Y := div_lt_of (P := 2 ^ (16 * r)) (by rw [hdx, hdy, g2]; omega)
              refine lv_iconst (v := iv (-1)) hx hb rd_B_compare_69 (by decide) ?_
              refine lv_goto (tgt := 74) hx hb rd_B_compare_70 (by decide) ?_
              exact ef_iret hx hb hr hlocks hP hD hS rd_B_compare_74 (by rw [zc_lt (by omega)]; exact ⟨rfl, rfl⟩)
    exact loop (641) (dn X) (Nat.le_refl _) (by rw [Nat.div_eq_of_lt (dn_lt X), Nat.div_eq_of_lt (by rw [hn]; exact dn_lt Y)]) (by omega) H locs ls hP hD hS (lv_sub hl [1, 2, 0] rfl)
  ·
    refine lv_aload_n hx hb rd_B_compare_11 rfl (lv_at hl 0 rfl) ?_
    refine va_get (D := (dC, dI)) (ci := 3) (v := .int (iv ((dn X : Int)))) (C := rR3) (T := rT3) (N := 2) hx hb hts (fun w h => List.mem_cons_of_mem _ (rin3 w h)) hown hK hP k0 hw.2.1 rfl 1 (by decide) (hts _ (List.mem_cons_of_mem _ rm_268)) (fun _ h9 => h9) rfl rd_B_compare_12 ?_
    refine lv_aload_n hx hb rd_B_compare_15 rfl (lv_at hl 1 rfl) ?_
    refine va_get (D := (dC, dI)) (ci := 3) (v := .int (iv ((dn Y : Int)))) (C := rR3) (T := rT3) (N := 2) hx hb hts (fun w h => List.mem_cons_of_mem _ (rin3 w h)) hown hK hP j0 ho.2.1 rfl 1 (by decide) (hts _ (List.mem_cons_of_mem _ rm_268)) (fun _ h9 => h9) rfl rd_B_compare_16 ?_
    refine iw_icmp_ge (tgt := 26) hx hb rd_B_compare_19 (by decide) ⟨by omega, by omega⟩ ⟨by omega, by omega⟩ (fun c5 => ?_) (fun c5 => ?_)
    ·
      have c6 : Y < X := by
        rcases Nat.lt_or_ge Y X with q | q
        · exact q
        · have := dn_le (Nat.lt_of_le_of_lt q (dn_lt Y)); omega
      refine lv_iconst (v := iv (1)) hx hb rd_B_compare_26 (by decide) ?_
      exact ef_iret hx hb hr hlocks hP hD hS rd_B_compare_27 (by rw [zc_gt (by omega)]; exact ⟨rfl, rfl⟩)
    ·
      have c6 : X < Y := by
        rcases Nat.lt_or_ge X Y with q | q
        · exact q
        · have := dn_le (Nat.lt_of_le_of_lt q (dn_lt X)); omega
      refine lv_iconst (v := iv (-1)) hx hb rd_B_compare_22 (by decide) ?_
      refine lv_goto (tgt := 27) hx hb rd_B_compare_23 (by decide) ?_
      exact ef_iret hx hb hr hlocks hP hD hS rd_B_compare_27 (by rw [zc_lt (by omega)]; exact ⟨rfl, rfl⟩)

set_option maxRecDepth 100000 in
set_option maxHeartbeats 4000000 in
/-- subtract -/
theorem b_subtract (l : Launch) (dC : Nat → ClassId) (dI : Nat → Nat → Nat) {cI : ClassId} {tys : List (ClassId × FieldType)} (ht : tys[0]? = some (cI, .int)) {ws : va_W} {k0 k1 h a X : Nat} {F : Nat → Nat} (hw : isB ws k0 k1 h a cI (dn X : Int) F) (hd : dgo X F) (hX : dn X ≤ 640) {j0 j1 g b Y : Nat} {G : Nat → Nat} (ho : isB ws j0 j1 g b cI (dn Y : Int) G) (hdo : dgo Y G) (hY : dn Y ≤ 640) (hoa : apt k0 k1 j0 j1) (hle : Y ≤ X) : ef_C l ry_B_subtract rw_B_subtract ({ frames := 1, cells := 0, slots := 0, locals := 20 } : Room) [.ref h, .ref g] (dC, dI) vwCl tys ws (fun o w1 => o = none ∧ ∃ F2 : Nat → Nat, w1 = bW ws k0 k1 h a cI (dn (X - Y) : Int) F2 ∧ dgo (X - Y) F2) := by
  refine ef_C.of (cc := rc_B_subtract) (maxL := 5) (ret := none) (by decide) rfl (Nat.le_of_ble_eq_true rfl) ?_
  intro p e s m below meth c ls hx hb hml hr hts hown hlocks hK hNX hP hD hS hl
  have hl : lv_has ls 5 [(0, .ref h), (1, .ref g)] := hl
  have hown : s.vm.findClass rR3 = some m.cls := hown
  generalize hH : s.heap = H at hP ⊢
  have hS : va_S (ef_A ws) s.heap H [] := by rw [← hH]; exact hS
  generalize ([] : List Loc) = locs at hS ⊢
  have hw0 := hw
  have ho0 := ho
  have hP := egP0 hw0 hP
  have hD := egD0 hw0 hD
  have hw : isB (bW ws k0 k1 h a cI ((dn X : Int)) (F)) k0 k1 h a cI ((dn X : Int)) (F) := hw0.w _ _
  have ho := ho0.o hoa (bo h a ((dn X : Int))) (ba cI a (F))
  have hyx : dn Y ≤ dn X := dn_le (Nat.lt_of_le_of_lt hle (dn_lt X))
  refine lv_iconst (v := iv (0)) hx hb rd_B_subtract_0 (by decide) ?_
  refine lv_istore_n (lv' := [(2, .int (iv (0))), (0, .ref h), (1, .ref g)]) hx hb rd_B_subtract_1 rfl hl (by decide) rfl (fun ls hl => ?_)
  refine lv_iconst (v := iv (0)) hx hb rd_B_subtract_2 (by decide) ?_
  refine lv_istore_n (lv' := [(3, .int (iv (0))), (2, .int (iv (0))), (0, .ref h), (1, .ref g)]) hx hb rd_B_subtract_3 rfl hl (by decide) rfl (fun ls hl => ?_)
  have loop : ∀ (fuel : Nat) (i : Nat) (bz : Nat) (K : Nat → Nat), (i ≤ dn X) → (bz ≤ 1) → (∀ j, j < i → K j < 65536) → (nd K i + nd (dg Y) i = nd (dg X) i + bz * 2 ^ (16 * i)) → (∀ j, i ≤ j → K j = F j) → (dn X < i + fuel) → ∀ (H : Heap) (locs : List Loc) (ls : Array Slot), va_P (dC, dI) vwCl (bW ws k0 k1 h a cI ((dn X : Int)) K) H → va_D (ef_A ws) (bW ws k0 k1 h a cI ((dn X : Int)) K) → va_S (ef_A ws) s.heap H locs → lv_has ls 5 [(0, .ref h), (1, .ref g), (2, .int (iv ((bz : Int)))), (3, .int (iv ((i : Int))))] → W p l e ({ frames := 1, cells := 0, slots := 0, locals := 20 } : Room) s m ([.ref h, .ref g] : List Value).toArray below meth c H locs 0 0 (ef_R below (dC, dI) vwCl ws (fun o w1 => o = none ∧ ∃ F2 : Nat → Nat, w1 = bW ws k0 k1 h a cI (dn (X - Y) : Int) F2 ∧ dgo (X - Y) F2) [.ref h, .ref g] s) (F0 m 4 ls []) := by
    intro fuel
    induction fuel with
    | zero => intro i bz K h1 hc h2 h3 h4 h5; exfalso; omega
    | succ fuel ih =>
      intro i bz K h1 hc h2 h3 h4 h5 H locs ls hP hD hS hl
      have hw : isB (bW ws k0 k1 h a cI ((dn X : Int)) (K)) k0 k1 h a cI ((dn X : Int)) (K) := hw0.w _ _
      have ho := ho0.o hoa (bo h a ((dn X : Int))) (ba cI a (K))
      refine lv_iload_n hx hb rd_B_subtract_4 rfl (lv_at hl 3 rfl) ?_
      refine lv_aload_n hx hb rd_B_subtract_5 rfl (lv_at hl 0 rfl) ?_
      refine va_get (D := (dC, dI)) (ci := 3) (v := .int (iv ((dn X : Int)))) (C := rR3) (T := rT3) (N := 2) hx hb hts (fun w h => List.mem_cons_of_mem _ (rin3 w h)) hown hK hP k0 hw.2.1 rfl 1 (by decide) (hts _ (List.mem_cons_of_mem _ rm_268)) (fun _ h9 => h9) rfl rd_B_subtract_6 ?_
      refine iw_icmp_ge (tgt := 69) hx hb rd_B_subtract_9 (by decide) ⟨by omega, by omega⟩ ⟨by omega, by omega⟩ (fun c1 => ?_) (fun c1 => ?_)
      ·
        have hi2 : i = dn X := by omega
        subst hi2
        have hv : nd K (dn X) = X - Y := by
          rw [nd_self' hyx, nd_self] at h3
          have q1 := nd_lt (F := K) (k := dn X) h2
          have q2 : bz = 0 := by
            rcases Nat.lt_or_ge 0 bz with q | q
            · have q4 : bz = 1 := by omega
              rw [q4] at h3
              omega
            · omega
          rw [q2] at h3
          omega
        refine lv_aload_n hx hb rd_B_subtract_69 rfl (lv_at hl 0 rfl) ?_
        refine ef_callV (As := []) (rest := []) ⟨hx, hb, hml, hown, hts⟩ (b_trim l dC dI ht hw hX h2) (cwV 0 hts (ef_goodV rm_394 rm_396 rm_14 rm_25 rm_397) rfl rfl rfl (by decide +kernel) ⟨Nat.le_of_ble_eq_true rfl, Nat.le_of_ble_eq_true rfl⟩) hK hNX hP hD hS k0 hw.2.1 rfl rfl rfl hl.1 rfl (Nat.le_of_ble_eq_true rfl) rd_B_subtract_70 ⟨Nat.zero_le _, Nat.zero_le _⟩ (fun o w1 H locs hq hP hD hS => ?_)
        rw [hv] at hq
        obtain ⟨rfl, rfl, hdn⟩ := hq
        have hP := egP2 hw0.1 hP
        have hD := egD2 hw0.1 hD
        have hw : isB (bW ws k0 k1 h a cI ((dn (X - Y) : Int)) (K)) k0 k1 h a cI ((dn (X - Y) : Int)) (K) := hw0.w _ _
        have ho := ho0.o hoa (bo h a ((dn (X - Y) : Int))) (ba cI a (K))
        refine W.eq (g2 := F0 m 73 ls []) rfl ?_
        exact ef_vret hx hb hr hlocks hP hD hS rd_B_subtract_73 (⟨rfl, K, rfl, hdn⟩)
      ·
        have hdl := dg_lt X i
        have hyl := dg_lt Y i
        have hki := h4 i (Nat.le_refl _)
        have hdi := hd i (by omega)
        refine lv_aload_n hx hb rd_B_subtract_12 rfl (lv_at hl 0 rfl) ?_
        refine va_get (D := (dC, dI)) (ci := 3) (v := .ref a) (C := rR3) (T := rT3) (N := 2) hx hb hts (fun w h => List.mem_cons_of_mem _ (rin3 w h)) hown hK hP k0 hw.2.1 rfl 0 (by decide) (hts _ (List.mem_cons_of_mem _ rm_266)) (fun _ h9 => h9) rfl rd_B_subtract_13 ?_
        refine lv_iload_n hx hb rd_B_subtract_16 rfl (lv_at hl 3 rfl) ?_
        refine iw_iald (i := i) hx hb hK hP k1 0 hw.2.2 ht (by omega) (by decide) rd_B_subtract_17 ?_
        refine iw_topi (y := iv (((dg X i : Nat) : Int))) (congrArg iv (by rw [hki, hdi] : (((K) (i)) : Int) = (((dg X i : Nat) : Int)))) ?_
        refine lv_iload_n hx hb rd_B_subtract_18 rfl (lv_at hl 3 rfl) ?_
        refine lv_aload_n hx hb rd_B_subtract_19 rfl (lv_at hl 1 rfl) ?_
        refine va_get (D := (dC, dI)) (ci := 3) (v := .int (iv ((dn Y : Int)))) (C := rR3) (T := rT3) (N := 2) hx hb hts (fun w h => List.mem_cons_of_mem _ (rin3 w h)) hown hK hP j0 ho.2.1 rfl 1 (by decide) (hts _ (List.mem_cons_of_mem _ rm_268)) (fun _ h9 => h9) rfl rd_B_subtract_20 ?_
        refine iw_icmp_ge (tgt := 35) hx hb rd_B_subtract_23 (by decide) ⟨by omega, by omega⟩ ⟨by omega, by omega⟩ (fun c2 => ?_) (fun c2 => ?_)
        ·
          have hy0 : dg Y i = 0 := dg_above (by omega)
          refine lv_iconst (v := iv (0)) hx hb rd_B_subtract_35 (by decide) ?_
          refine iw_topi (y := iv (((dg Y i : Nat) : Int))) (congrArg iv (by rw [hy0]; rfl : ((0) : Int) = (((dg Y i : Nat) : Int)))) ?_
          refine iw_isub hx hb rd_B_subtract_36 ?_
          refine lv_iload_n hx hb rd_B_subtract_37 rfl (lv_at hl 2 rfl) ?_
          refine iw_isub hx hb rd_B_subtract_38 ?_
          obtain ⟨z, hz9⟩ : ∃ z : Int, z = (dg X i : Int) - (dg Y i : Int) - (bz : Int) := ⟨_, rfl⟩
          refine iw_topi (y := iv (z)) (congrArg iv (by omega : ((((((dg X i : Nat) : Int)) - (((dg Y i : Nat) : Int))) - ((bz : Int))) : Int) = (z))) ?_
          refine lv_istore (lv' := [(4, .int (iv (z))), (0, .ref h), (1, .ref g), (2, .int (iv ((bz : Int)))), (3, .int (iv ((i : Int))))]) hx hb rd_B_subtract_39 hl (by decide) rfl (fun ls hl => ?_)
          refine lv_aload_n hx hb rd_B_subtract_41 rfl (lv_at hl 1 rfl) ?_
          refine va_get (D := (dC, dI)) (ci := 3) (v := .ref a) (C := rR3) (T := rT3) (N := 2) hx hb hts (fun w h => List.mem_cons_of_mem _ (rin3 w h)) hown hK hP k0 hw.2.1 rfl 0 (by decide) (hts _ (List.mem_cons_of_mem _ rm_266)) (fun _ h9 => h9) rfl rd_B_subtract_42 ?_
          refine lv_iload_n hx hb rd_B_subtract_45 rfl (lv_at hl 4 rfl) ?_
          refine lv_iload hx hb rd_B_subtract_46 (lv_at hl 0 rfl) ?_
          refine lv_ldc (v := iv (65535)) hx hb hown (hts _ (List.mem_cons_of_mem _ rm_385)) rd_B_subtract_48 ?_
          refine iw_iand16 hx hb rd_B_subtract_50 ?_
          refine iw_topi (y := iv (((((z % 65536).toNat : Nat)) : Int))) (congrArg iv (by omega : (((z) % 65536) : Int) = (((((z % 65536).toNat : Nat)) : Int)))) ?_
          refine iw_iast (i := i) (v := (z % 65536).toNat) hx hb hK hP hD hS k1 0 hw.2.2 ht (by omega) (by decide) rd_B_subtract_51 (fun H locs hP hD hS => ?_)
          have hP := egPa hP
          have hD := egDa hD
          have hw : isB (bW ws k0 k1 h a cI ((dn X : Int)) (va_up (K) (i) ((z % 65536).toNat))) k0 k1 h a cI ((dn X : Int)) (va_up (K) (i) ((z % 65536).toNat)) := hw0.w _ _
          have ho := ho0.o hoa (bo h a ((dn X : Int))) (ba cI a (va_up (K) (i) ((z % 65536).toNat)))
          refine lv_iload hx hb rd_B_subtract_52 (lv_at hl 0 rfl) ?_
          refine iw_if_ge (tgt := 61) hx hb rd_B_subtract_54 (by decide) ⟨by omega, by omega⟩ (fun c3 => ?_) (fun c3 => ?_)
          ·
            refine lv_iconst (v := iv (0)) hx hb rd_B_subtract_61 (by decide) ?_
            refine lv_istore_n (lv' := [(2, .int (iv (0))), (4, .int (iv (z))), (0, .ref h), (1, .ref g), (3, .int (iv ((i : Int))))]) hx hb rd_B_subtract_62 rfl hl (by decide) rfl (fun ls hl => ?_)
            refine lv_iinc (v := iv (((i + 1 : Nat) : Int))) (lv' := [(3, .int (iv (((i + 1 : Nat) : Int)))), (2, .int (iv (0))), (4, .int (iv (z))), (0, .ref h), (1, .ref g)]) hx hb rd_B_subtract_63 hl (k := 4) rfl (iv_inc i) (by decide) rfl (fun ls hl => ?_)
            refine lv_goto (tgt := 4) hx hb rd_B_subtract_66 (by decide) ?_
            exact ih (i + 1) (0) (va_up K i (z % 65536).toNat) (by omega) (by omega) (fun j hj => by
                  by_cases q : j = i
                  · rw [q, ef_up_at]; omega
                  · rw [ef_up_ne q]; exact h2 j (by omega)) (nd_dstep h3 (by omega)) (fun j hj => by rw [ef_up_ne (by omega)]; exact h4 j (by omega)) (by omega) H locs ls hP hD hS (lv_sub hl [3, 4, 1, 0] rfl)
          ·
            refine lv_iconst (v := iv (1)) hx hb rd_B_subtract_57 (by decide) ?_
            refine lv_goto (tgt := 62) hx hb rd_B_subtract_58 (by decide) ?_
            refine lv_istore_n (lv' := [(2, .int (iv (1))), (4, .int (iv (z))), (0, .ref h), (1, .ref g), (3, .int (iv ((i : Int))))]) hx hb rd_B_subtract_62 rfl hl (by decide) rfl (fun ls hl => ?_)
            refine lv_iinc (v := iv (((i + 1 : Nat) : Int))) (lv' := [(3, .int (iv (((i + 1 : Nat) : Int)))), (2, .int (iv (1))), (4, .int (iv (z))), (0, .ref h), (1, .ref g)]) hx hb rd_B_subtract_63 hl (k := 4) rfl (iv_inc i) (by decide) rfl (fun ls hl => ?_)
            refine lv_goto (tgt := 4) hx hb rd_B_subtract_66 (by decide) ?_
            exact ih (i + 1) (1) (va_up K i (z % 65536).toNat) (by omega) (by omega) (fun j hj => by
                  by_cases q : j = i
                  · rw [q, ef_up_at]; omega
                  · rw [ef_up_ne q]; exact h2 j (by omega)) (nd_dstep h3 (by omega)) (fun j hj => by rw [ef_up_ne (by omega)]; exact h4 j (by omega)) (by omega) H locs ls hP hD hS (lv_sub hl [3, 4, 1, 0] rfl)
        ·
          have hyi := hdo i (by omega)
          refine lv_aload_n hx hb rd_B_subtract_26 rfl (lv_at hl 1 rfl) ?_
          refine va_get (D := (dC, dI)) (ci := 3) (v := .ref b) (C := rR3) (T := rT3) (N := 2) hx hb hts (fun w h => List.mem_cons_of_mem _ (rin3 w h)) hown hK hP j0 ho.2.1 rfl 0 (by decide) (hts _ (List.mem_cons_of_mem _ rm_266)) (fun _ h9 => h9) rfl rd_B_subtract_27 ?_
          refine lv_iload_n hx hb rd_B_subtract_30 rfl (lv_at hl 3 rfl) ?_
          refine iw_iald (i := i) hx hb hK hP j1 0 ho.2.2 ht (by omega) (by decide) rd_B_subtract_31 ?_
          refine iw_topi (y := iv (((dg Y i : Nat) : Int))) (congrArg iv (by rw [hyi] : (((G) (i)) : Int) = (((dg Y i : Nat) : Int)))) ?_
          refine lv_goto (tgt := 36) hx hb rd_B_subtract_32 (by decide) ?_
          refine iw_isub hx hb rd_B_subtract_36 ?_
          refine lv_iload_n hx hb rd_B_subtract_37 rfl (lv_at hl 2 rfl) ?_
          refine iw_isub hx hb rd_B_subtract_38 ?_
          obtain ⟨z, hz9⟩ : ∃ z : Int, z = (dg X i : Int) - (dg Y i : Int) - (bz : Int) := ⟨_, rfl⟩
          refine iw_topi (y := iv (z)) (congrArg iv (by omega : ((((((dg X i : Nat) : Int)) - (((dg Y i : Nat) : Int))) - ((bz : Int))) : Int) = (z))) ?_
          refine lv_istore (lv' := [(4, .int (iv (z))), (0, .ref h), (1, .ref g), (2, .int (iv ((bz : Int)))), (3, .int (iv ((i : Int))))]) hx hb rd_B_subtract_39 hl (by decide) rfl (fun ls hl => ?_)
          refine lv_aload_n hx hb rd_B_subtract_41 rfl (lv_at hl 1 rfl) ?_
          refine va_get (D := (dC, dI)) (ci := 3) (v := .ref a) (C := rR3) (T := rT3) (N := 2) hx hb hts (fun w h => List.mem_cons_of_mem _ (rin3 w h)) hown hK hP k0 hw.2.1 rfl 0 (by decide) (hts _ (List.mem_cons_of_mem _ rm_266)) (fun _ h9 => h9) rfl rd_B_subtract_42 ?_
          refine lv_iload_n hx hb rd_B_subtract_45 rfl (lv_at hl 4 rfl) ?_
          refine lv_iload hx hb rd_B_subtract_46 (lv_at hl 0 rfl) ?_
          refine lv_ldc (v := iv (65535)) hx hb hown (hts _ (List.mem_cons_of_mem _ rm_385)) rd_B_subtract_48 ?_
          refine iw_iand16 hx hb rd_B_subtract_50 ?_
          refine iw_topi (y := iv (((((z % 65536).toNat : Nat)) : Int))) (congrArg iv (by omega : (((z) % 65536) : Int) = (((((z % 65536).toNat : Nat)) : Int)))) ?_
          refine iw_iast (i := i) (v := (z % 65536).toNat) hx hb hK hP hD hS k1 0 hw.2.2 ht (by omega) (by decide) rd_B_subtract_51 (fun H locs hP hD hS => ?_)
          have hP := egPa hP
          have hD := egDa hD
          have hw : isB (bW ws k0 k1 h a cI ((dn X : Int)) (va_up (K) (i) ((z % 65536).toNat))) k0 k1 h a cI ((dn X : Int)) (va_up (K) (i) ((z % 65536).toNat)) := hw0.w _ _
          have ho := ho0.o hoa (bo h a ((dn X : Int))) (ba cI a (va_up (K) (i) ((z % 65536).toNat)))
          refine lv_iload hx hb rd_B_subtract_52 (lv_at hl 0 rfl) ?_
          refine iw_if_ge (tgt := 61) hx hb rd_B_subtract_54 (by decide) ⟨by omega, by omega⟩ (fun c3 => ?_) (fun c3 => ?_)
          ·
            refine lv_iconst (v := iv (0)) hx hb rd_B_subtract_61 (by decide) ?_
            refine lv_istore_n (lv' := [(2, .int (iv (0))), (4, .int (iv (z))), (0, .ref h), (1, .ref g), (3, .int (iv ((i : Int))))]) hx hb rd_B_subtract_62 rfl hl (by decide) rfl (fun ls hl => ?_)
            refine lv_iinc (v := iv (((i + 1 : Nat) : Int))) (lv' := [(3, .int (iv (((i + 1 : Nat) : Int)))), (2, .int (iv (0))), (4, .int (iv (z))), (0, .ref h), (1, .ref g)]) hx hb rd_B_subtract_63 hl (k := 4) rfl (iv_inc i) (by decide) rfl (fun ls hl => ?_)
            refine lv_goto (tgt := 4) hx hb rd_B_subtract_66 (by decide) ?_
            exact ih (i + 1) (0) (va_up K i (z % 65536).toNat) (by omega) (by omega) (fun j hj => by
                  by_cases q : j = i
                  · rw [q, ef_up_at]; omega
                  · rw [ef_up_ne q]; exact h2 j (by omega)) (nd_dstep h3 (by omega)) (fun j hj => by rw [ef_up_ne (by omega)]; exact h4 j (by omega)) (by omega) H locs ls hP hD hS (lv_sub hl [3, 4, 1, 0] rfl)
          ·
            refine lv_iconst (v := iv (1)) hx hb rd_B_subtract_57 (by decide) ?_
            refine lv_goto (tgt := 62) hx hb rd_B_subtract_58 (by decide) ?_
            refine lv_istore_n (lv' := [(2, .int (iv (1))), (4, .int (iv (z))), (0, .ref h), (1, .ref g), (3, .int (iv ((i : Int))))]) hx hb rd_B_subtract_62 rfl hl (by decide) rfl (fun ls hl => ?_)
            refine lv_iinc (v := iv (((i + 1 : Nat) : Int))) (lv' := [(3, .int (iv (((i + 1 : Nat) : Int)))), (2, .int (iv (1))), (4, .int (iv (z))), (0, .ref h), (1, .ref g)]) hx hb rd_B_subtract_63 hl (k := 4) rfl (iv_inc i) (by decide) rfl (fun ls hl => ?_)
            refine lv_goto (tgt := 4) hx hb rd_B_subtract_66 (by decide) ?_
            exact ih (i + 1) (1) (va_up K i (z % 65536).toNat) (by omega) (by omega) (fun j hj => by
                  by_cases q : j = i
                  · rw [q, ef_up_at]; omega
                  · rw [ef_up_ne q]; exact h2 j (by omega)) (nd_dstep h3 (by omega)) (fun j hj => by rw [ef_up_ne (by omega)]; exact h4 j (by omega)) (by omega) H locs ls hP hD hS (lv_sub hl [3, 4, 1, 0] rfl)
  exact loop (dn X + 1) (0) (0) (F) (Nat.zero_le _) (by omega) (fun j hj => absurd hj (by omega)) (rfl) (fun j _ => rfl) (by omega) H locs ls hP hD hS (lv_sub hl [2, 3, 1, 0] rfl)
