set_option maxRecDepth 100000 in
set_option maxHeartbeats 4000000 in
/-- add -/
theorem b_add (l : Launch) (dC : Nat → ClassId) (dI : Nat → Nat → Nat) {cI : ClassId} {tys : List (ClassId × FieldType)} (ht : tys[0]? = some (cI, .int)) {ws : va_W} {k0 k1 h a X : Nat} {F : Nat → Nat} (hw : isB ws k0 k1 h a cI (dn X : Int) F) (hd : dgo X F) (hX : dn X ≤ 640) {j0 j1 g b Y : Nat} {G : Nat → Nat} (ho : isB ws j0 j1 g b cI (dn Y : Int) G) (hdo : dgo Y G) (hY : dn Y ≤ 640) (hoa : apt k0 k1 j0 j1) (hXY : dn (X + Y) ≤ 640) : ef_C l ry_B_add rw_B_add ({ frames := 0, cells := 0, slots := 0, locals := 0 } : Room) [.ref h, .ref g] (dC, dI) vwCl tys ws (fun o w1 => o = none ∧ ∃ F2 : Nat → Nat, w1 = bW ws k0 k1 h a cI (dn (X + Y) : Int) F2 ∧ dgo (X + Y) F2) := by
  refine ef_C.of (cc := rc_B_add) (maxL := 5) (ret := none) (by decide) rfl (Nat.le_of_ble_eq_true rfl) ?_
  intro p e s m below meth c ls hx hb hml hr hts hown hlocks hK hNX hP hD hS hl
  have hl : lv_has ls 5 [(0, .ref h), (1, .ref g)] := hl
  have hown : s.vm.findClass rR3 = some m.cls := hown
  generalize hH : s.heap = H at hP ⊢
  have hS : va_S (ef_A ws) s.heap H [] := by rw [← hH]; exact hS
  generalize ([] : List Loc) = locs at hS ⊢
  have hw0 := hw
  have ho0 := ho
  have hP := egP0 hw0 hP
  have hD := egD0 hw0 hD
  have hw : isB (bW ws k0 k1 h a cI ((dn X : Int)) (F)) k0 k1 h a cI ((dn X : Int)) (F) := hw0.w _ _
  have ho := ho0.o hoa (bo h a ((dn X : Int))) (ba cI a (F))
  refine lv_iconst (v := iv (0)) hx hb rd_B_add_0 (by decide) ?_
  refine lv_istore_n (lv' := [(2, .int (iv (0))), (0, .ref h), (1, .ref g)]) hx hb rd_B_add_1 rfl hl (by decide) rfl (fun ls hl => ?_)
  refine lv_iconst (v := iv (0)) hx hb rd_B_add_2 (by decide) ?_
  refine lv_istore_n (lv' := [(3, .int (iv (0))), (2, .int (iv (0))), (0, .ref h), (1, .ref g)]) hx hb rd_B_add_3 rfl hl (by decide) rfl (fun ls hl => ?_)
  rw [show (dn X : Int) = ((max (dn X) 0 : Nat) : Int) by omega] at hP hD
  have loop : ∀ (fuel : Nat) (i : Nat) (cy : Nat) (K : Nat → Nat), (i ≤ 640) → (cy ≤ 1) → (∀ j, j < i → K j < 65536) → (nd K i + cy * 2 ^ (16 * i) = nd (dg X) i + nd (dg Y) i) → (∀ j, i ≤ j → j < dn X → K j = dg X j) → (i ≤ dn X ∨ i ≤ dn Y ∨ 2 ^ (16 * (i - 1)) ≤ X + Y) → (640 < i + fuel) → ∀ (H : Heap) (locs : List Loc) (ls : Array Slot), va_P (dC, dI) vwCl (bW ws k0 k1 h a cI (((max (dn X) i : Nat) : Int)) K) H → va_D (ef_A ws) (bW ws k0 k1 h a cI (((max (dn X) i : Nat) : Int)) K) → va_S (ef_A ws) s.heap H locs → lv_has ls 5 [(0, .ref h), (1, .ref g), (2, .int (iv ((cy : Int)))), (3, .int (iv ((i : Int))))] → W p l e ({ frames := 0, cells := 0, slots := 0, locals := 0 } : Room) s m ([.ref h, .ref g] : List Value).toArray below meth c H locs 0 0 (ef_R below (dC, dI) vwCl ws (fun o w1 => o = none ∧ ∃ F2 : Nat → Nat, w1 = bW ws k0 k1 h a cI (dn (X + Y) : Int) F2 ∧ dgo (X + Y) F2) [.ref h, .ref g] s) (F0 m 4 ls []) := by
    intro fuel
    induction fuel with
    | zero => intro i cy K h1 hc h2 h3 h4 h6 h5; exfalso; omega
    | succ fuel ih =>
      intro i cy K h1 hc h2 h3 h4 h6 h5 H locs ls hP hD hS hl
      have hw : isB (bW ws k0 k1 h a cI (((max (dn X) i : Nat) : Int)) (K)) k0 k1 h a cI (((max (dn X) i : Nat) : Int)) (K) := hw0.w _ _
      have ho := ho0.o hoa (bo h a (((max (dn X) i : Nat) : Int))) (ba cI a (K))
      have hxl := dg_lt X i
      have hyl := dg_lt Y i
      rcases Nat.lt_or_ge i (dn Y) with hy | hy
      ·
        refine lv_iload_n hx hb rd_B_add_4 rfl (lv_at hl 3 rfl) ?_
        refine lv_aload_n hx hb rd_B_add_5 rfl (lv_at hl 1 rfl) ?_
        refine va_get (D := (dC, dI)) (ci := 3) (v := .int (iv ((dn Y : Int)))) (C := rR3) (T := rT3) (N := 2) hx hb hts (fun w h => List.mem_cons_of_mem _ (rin3 w h)) hown hK hP j0 ho.2.1 rfl 1 (by decide) (hts _ (List.mem_cons_of_mem _ rm_268)) (fun _ h9 => h9) rfl rd_B_add_6 ?_
        refine iw_icmp_lt (tgt := 16) hx hb rd_B_add_9 (by decide) ⟨by omega, by omega⟩ ⟨by omega, by omega⟩ (fun c1 => ?_) (fun c1 => ?_)
        ·
          rcases Nat.lt_or_ge i (dn X) with hx9 | hx9
          ·
            have hi : i < 640 := by omega
            refine lv_iload_n hx hb rd_B_add_16 rfl (lv_at hl 3 rfl) ?_
            refine lv_aload_n hx hb rd_B_add_17 rfl (lv_at hl 0 rfl) ?_
            refine va_get (D := (dC, dI)) (ci := 3) (v := .int (iv (((max (dn X) i : Nat) : Int)))) (C := rR3) (T := rT3) (N := 2) hx hb hts (fun w h => List.mem_cons_of_mem _ (rin3 w h)) hown hK hP k0 hw.2.1 rfl 1 (by decide) (hts _ (List.mem_cons_of_mem _ rm_268)) (fun _ h9 => h9) rfl rd_B_add_18 ?_
            refine iw_icmp_ge (tgt := 33) hx hb rd_B_add_21 (by decide) ⟨by omega, by omega⟩ ⟨by omega, by omega⟩ (fun d1 => ?_) (fun d1 => ?_)
            ·
              exact absurd d1 (by omega)
            ·
              have hxi := h4 i (Nat.le_refl _) hx9
              refine lv_aload_n hx hb rd_B_add_24 rfl (lv_at hl 0 rfl) ?_
              refine va_get (D := (dC, dI)) (ci := 3) (v := .ref a) (C := rR3) (T := rT3) (N := 2) hx hb hts (fun w h => List.mem_cons_of_mem _ (rin3 w h)) hown hK hP k0 hw.2.1 rfl 0 (by decide) (hts _ (List.mem_cons_of_mem _ rm_266)) (fun _ h9 => h9) rfl rd_B_add_25 ?_
              refine lv_iload_n hx hb rd_B_add_28 rfl (lv_at hl 3 rfl) ?_
              refine iw_iald (i := i) hx hb hK hP k1 0 hw.2.2 ht (by omega) (by decide) rd_B_add_29 ?_
              refine iw_topi (y := iv (((dg X i : Nat) : Int))) (congrArg iv (by rw [hxi] : (((K) (i)) : Int) = (((dg X i : Nat) : Int)))) ?_
              refine lv_goto (tgt := 34) hx hb rd_B_add_30 (by decide) ?_
              refine lv_iload_n hx hb rd_B_add_34 rfl (lv_at hl 3 rfl) ?_
              refine lv_aload_n hx hb rd_B_add_35 rfl (lv_at hl 1 rfl) ?_
              refine va_get (D := (dC, dI)) (ci := 3) (v := .int (iv ((dn Y : Int)))) (C := rR3) (T := rT3) (N := 2) hx hb hts (fun w h => List.mem_cons_of_mem _ (rin3 w h)) hown hK hP j0 ho.2.1 rfl 1 (by decide) (hts _ (List.mem_cons_of_mem _ rm_268)) (fun _ h9 => h9) rfl rd_B_add_36 ?_
              refine iw_icmp_ge (tgt := 51) hx hb rd_B_add_39 (by decide) ⟨by omega, by omega⟩ ⟨by omega, by omega⟩ (fun d2 => ?_) (fun d2 => ?_)
              ·
                exact absurd d2 (by omega)
              ·
                have hyi := hdo i hy
                refine lv_aload_n hx hb rd_B_add_42 rfl (lv_at hl 1 rfl) ?_
                refine va_get (D := (dC, dI)) (ci := 3) (v := .ref b) (C := rR3) (T := rT3) (N := 2) hx hb hts (fun w h => List.mem_cons_of_mem _ (rin3 w h)) hown hK hP j0 ho.2.1 rfl 0 (by decide) (hts _ (List.mem_cons_of_mem _ rm_266)) (fun _ h9 => h9) rfl rd_B_add_43 ?_
                refine lv_iload_n hx hb rd_B_add_46 rfl (lv_at hl 3 rfl) ?_
                refine iw_iald (i := i) hx hb hK hP j1 0 ho.2.2 ht (by omega) (by decide) rd_B_add_47 ?_
                refine iw_topi (y := iv (((dg Y i : Nat) : Int))) (congrArg iv (by rw [hyi] : (((G) (i)) : Int) = (((dg Y i : Nat) : Int)))) ?_
                refine lv_goto (tgt := 52) hx hb rd_B_add_48 (by decide) ?_
                refine iw_iadd hx hb rd_B_add_52 ?_
                refine lv_iload_n hx hb rd_B_add_53 rfl (lv_at hl 2 rfl) ?_
                refine iw_iadd hx hb rd_B_add_54 ?_
                obtain ⟨z, hz9⟩ : ∃ z, z = cy + (dg X i + dg Y i) := ⟨_, rfl⟩
                refine iw_topi (y := iv ((z : Int))) (congrArg iv (by omega : ((((((dg X i : Nat) : Int)) + (((dg Y i : Nat) : Int))) + ((cy : Int))) : Int) = ((z : Int)))) ?_
                refine lv_istore (lv' := [(4, .int (iv ((z : Int)))), (0, .ref h), (1, .ref g), (2, .int (iv ((cy : Int)))), (3, .int (iv ((i : Int))))]) hx hb rd_B_add_55 hl (by decide) rfl (fun ls hl => ?_)
                refine lv_aload_n hx hb rd_B_add_57 rfl (lv_at hl 1 rfl) ?_
                refine lv_iload_n hx hb rd_B_add_58 rfl (lv_at hl 4 rfl) ?_
                refine lv_aload_n hx hb rd_B_add_59 rfl (lv_at hl 1 rfl) ?_
                refine va_get (D := (dC, dI)) (ci := 3) (v := .int (iv (((max (dn X) i : Nat) : Int)))) (C := rR3) (T := rT3) (N := 2) hx hb hts (fun w h => List.mem_cons_of_mem _ (rin3 w h)) hown hK hP k0 hw.2.1 rfl 1 (by decide) (hts _ (List.mem_cons_of_mem _ rm_268)) (fun _ h9 => h9) rfl rd_B_add_60 ?_
                refine iw_icmp_ge (tgt := 73) hx hb rd_B_add_63 (by decide) ⟨by omega, by omega⟩ ⟨by omega, by omega⟩ (fun d3 => ?_) (fun d3 => ?_)
                ·
                  exact absurd d3 (by omega)
                ·
                  refine lv_aload_n hx hb rd_B_add_66 rfl (lv_at hl 1 rfl) ?_
                  refine va_get (D := (dC, dI)) (ci := 3) (v := .int (iv (((max (dn X) i : Nat) : Int)))) (C := rR3) (T := rT3) (N := 2) hx hb hts (fun w h => List.mem_cons_of_mem _ (rin3 w h)) hown hK hP k0 hw.2.1 rfl 1 (by decide) (hts _ (List.mem_cons_of_mem _ rm_268)) (fun _ h9 => h9) rfl rd_B_add_67 ?_
                  refine lv_goto (tgt := 76) hx hb rd_B_add_70 (by decide) ?_
                  refine iw_topi (y := iv (((max (dn X) (i + 1) : Nat) : Int))) (congrArg iv (by omega : ((((max (dn X) i : Nat) : Int)) : Int) = (((max (dn X) (i + 1) : Nat) : Int)))) ?_
                  refine va_put (D := (dC, dI)) (ci := 3) (v := .int (iv (((max (dn X) (i + 1) : Nat) : Int)))) (ty := .int) (C := rR3) (T := rT3) (N := 2) hx hb hts (fun w h => List.mem_cons_of_mem _ (rin3 w h)) rty3 rtyok3 rnm3 hown hK hP hD hS k0 hw.2.1 rfl 1 (by decide) (hts _ (List.mem_cons_of_mem _ rm_268)) (fun _ h9 => h9) rfl (by decide +kernel) rfl rfl (Nat.le_of_ble_eq_true rfl) rd_B_add_76 (fun H locs hP hD hS => ?_)
                  have hP := egPu hw0.1 hP
                  have hD := egDu hw0.1 hD
                  have hw : isB (bW ws k0 k1 h a cI (((max (dn X) (i + 1) : Nat) : Int)) (K)) k0 k1 h a cI (((max (dn X) (i + 1) : Nat) : Int)) (K) := hw0.w _ _
                  have ho := ho0.o hoa (bo h a (((max (dn X) (i + 1) : Nat) : Int))) (ba cI a (K))
                  refine lv_aload_n hx hb rd_B_add_79 rfl (lv_at hl 1 rfl) ?_
                  refine va_get (D := (dC, dI)) (ci := 3) (v := .ref a) (C := rR3) (T := rT3) (N := 2) hx hb hts (fun w h => List.mem_cons_of_mem _ (rin3 w h)) hown hK hP k0 hw.2.1 rfl 0 (by decide) (hts _ (List.mem_cons_of_mem _ rm_266)) (fun _ h9 => h9) rfl rd_B_add_80 ?_
                  refine lv_iload_n hx hb rd_B_add_83 rfl (lv_at hl 4 rfl) ?_
                  refine lv_iload hx hb rd_B_add_84 (lv_at hl 0 rfl) ?_
                  refine lv_ldc (v := iv (65535)) hx hb hown (hts _ (List.mem_cons_of_mem _ rm_385)) rd_B_add_86 ?_
                  refine iw_iand16 hx hb rd_B_add_88 ?_
                  refine iw_topi (y := iv (((z % 65536 : Nat) : Int))) (congrArg iv (by omega : ((((z : Int)) % 65536) : Int) = (((z % 65536 : Nat) : Int)))) ?_
                  refine iw_iast (i := i) (v := z % 65536) hx hb hK hP hD hS k1 0 hw.2.2 ht (by omega) (by decide) rd_B_add_89 (fun H locs hP hD hS => ?_)
                  have hP := egPa hP
                  have hD := egDa hD
                  have hw : isB (bW ws k0 k1 h a cI (((max (dn X) (i + 1) : Nat) : Int)) (va_up (K) (i) (z % 65536))) k0 k1 h a cI (((max (dn X) (i + 1) : Nat) : Int)) (va_up (K) (i) (z % 65536)) := hw0.w _ _
                  have ho := ho0.o hoa (bo h a (((max (dn X) (i + 1) : Nat) : Int))) (ba cI a (va_up (K) (i) (z % 65536)))
                  refine lv_iload hx hb rd_B_add_90 (lv_at hl 0 rfl) ?_
                  refine lv_bipush (v := iv (16)) hx hb rd_B_add_92 (by decide) ?_
                  refine iw_topi (y := iv (((16 : Nat) : Int))) (congrArg iv (by rfl : ((16) : Int) = (((16 : Nat) : Int)))) ?_
                  refine iw_ishrk (a := z) (k := 16) hx hb (by omega) (by decide) rd_B_add_94 ?_
                  refine iw_topi (y := iv (((z / 65536 : Nat) : Int))) (congrArg iv (by rfl : ((((z / 2 ^ 16 : Nat) : Int)) : Int) = (((z / 65536 : Nat) : Int)))) ?_
                  refine lv_istore_n (lv' := [(2, .int (iv (((z / 65536 : Nat) : Int)))), (4, .int (iv ((z : Int)))), (0, .ref h), (1, .ref g), (3, .int (iv ((i : Int))))]) hx hb rd_B_add_95 rfl hl (by decide) rfl (fun ls hl => ?_)
                  refine lv_iinc (v := iv (((i + 1 : Nat) : Int))) (lv' := [(3, .int (iv (((i + 1 : Nat) : Int)))), (2, .int (iv (((z / 65536 : Nat) : Int)))), (4, .int (iv ((z : Int)))), (0, .ref h), (1, .ref g)]) hx hb rd_B_add_96 hl (k := 4) rfl (iv_inc i) (by decide) rfl (fun ls hl => ?_)
                  refine lv_goto (tgt := 4) hx hb rd_B_add_99 (by decide) ?_
                  exact ih (i + 1) (z / 65536) (va_up K i (z % 65536)) (by omega) (by omega) (fun j hj => by
                        by_cases q : j = i
                        · rw [q, ef_up_at]; omega
                        · rw [ef_up_ne q]; exact h2 j (by omega)) (by
                        rw [nd_step h3 hz9]
                        show _ = nd (dg X) i + dg X i * 2 ^ (16 * i) + (nd (dg Y) i + dg Y i * 2 ^ (16 * i))
                        rw [Nat.add_mul]
                        omega) (fun j q1 q2 => by rw [ef_up_ne (by omega)]; exact h4 j (by omega) q2) (Or.inl (by omega)) (by omega) H locs ls hP hD hS (lv_sub hl [3, 4, 1, 0] rfl)
          ·
            have hi : i < 640 := by omega
            refine lv_iload_n hx hb rd_B_add_16 rfl (lv_at hl 3 rfl) ?_
            refine lv_aload_n hx hb rd_B_add_17 rfl (lv_at hl 0 rfl) ?_
            refine va_get (D := (dC, dI)) (ci := 3) (v := .int (iv (((max (dn X) i : Nat) : Int)))) (C := rR3) (T := rT3) (N := 2) hx hb hts (fun w h => List.mem_cons_of_mem _ (rin3 w h)) hown hK hP k0 hw.2.1 rfl 1 (by decide) (hts _ (List.mem_cons_of_mem _ rm_268)) (fun _ h9 => h9) rfl rd_B_add_18 ?_
            refine iw_icmp_ge (tgt := 33) hx hb rd_B_add_21 (by decide) ⟨by omega, by omega⟩ ⟨by omega, by omega⟩ (fun d1 => ?_) (fun d1 => ?_)
            ·
              have hx0 : dg X i = 0 := dg_above (by omega)
              refine lv_iconst (v := iv (0)) hx hb rd_B_add_33 (by decide) ?_
              refine iw_topi (y := iv (((dg X i : Nat) : Int))) (congrArg iv (by rw [hx0]; rfl : ((0) : Int) = (((dg X i : Nat) : Int)))) ?_
              refine lv_iload_n hx hb rd_B_add_34 rfl (lv_at hl 3 rfl) ?_
              refine lv_aload_n hx hb rd_B_add_35 rfl (lv_at hl 1 rfl) ?_
              refine va_get (D := (dC, dI)) (ci := 3) (v := .int (iv ((dn Y : Int)))) (C := rR3) (T := rT3) (N := 2) hx hb hts (fun w h => List.mem_cons_of_mem _ (rin3 w h)) hown hK hP j0 ho.2.1 rfl 1 (by decide) (hts _ (List.mem_cons_of_mem _ rm_268)) (fun _ h9 => h9) rfl rd_B_add_36 ?_
              refine iw_icmp_ge (tgt := 51) hx hb rd_B_add_39 (by decide) ⟨by omega, by omega⟩ ⟨by omega, by omega⟩ (fun d2 => ?_) (fun d2 => ?_)
              ·
                exact absurd d2 (by omega)
              ·
                have hyi := hdo i hy
                refine lv_aload_n hx hb rd_B_add_42 rfl (lv_at hl 1 rfl) ?_
                refine va_get (D := (dC, dI)) (ci := 3) (v := .ref b) (C := rR3) (T := rT3) (N := 2) hx hb hts (fun w h => List.mem_cons_of_mem _ (rin3 w h)) hown hK hP j0 ho.2.1 rfl 0 (by decide) (hts _ (List.mem_cons_of_mem _ rm_266)) (fun _ h9 => h9) rfl rd_B_add_43 ?_
                refine lv_iload_n hx hb rd_B_add_46 rfl (lv_at hl 3 rfl) ?_
                refine iw_iald (i := i) hx hb hK hP j1 0 ho.2.2 ht (by omega) (by decide) rd_B_add_47 ?_
                refine iw_topi (y := iv (((dg Y i : Nat) : Int))) (congrArg iv (by rw [hyi] : (((G) (i)) : Int) = (((dg Y i : Nat) : Int)))) ?_
                refine lv_goto (tgt := 52) hx hb rd_B_add_48 (by decide) ?_
                refine iw_iadd hx hb rd_B_add_52 ?_
                refine lv_iload_n hx hb rd_B_add_53 rfl (lv_at hl 2 rfl) ?_
                refine iw_iadd hx hb rd_B_add_54 ?_
                obtain ⟨z, hz9⟩ : ∃ z, z = cy + (dg X i + dg Y i) := ⟨_, rfl⟩
                refine iw_topi (y := iv ((z : Int))) (congrArg iv (by omega : ((((((dg X i : Nat) : Int)) + (((dg Y i : Nat) : Int))) + ((cy : Int))) : Int) = ((z : Int)))) ?_
                refine lv_istore (lv' := [(4, .int (iv ((z : Int)))), (0, .ref h), (1, .ref g), (2, .int (iv ((cy : Int)))), (3, .int (iv ((i : Int))))]) hx hb rd_B_add_55 hl (by decide) rfl (fun ls hl => ?_)
                refine lv_aload_n hx hb rd_B_add_57 rfl (lv_at hl 1 rfl) ?_
                refine lv_iload_n hx hb rd_B_add_58 rfl (lv_at hl 4 rfl) ?_
                refine lv_aload_n hx hb rd_B_add_59 rfl (lv_at hl 1 rfl) ?_
                refine va_get (D := (dC, dI)) (ci := 3) (v := .int (iv (((max (dn X) i : Nat) : Int)))) (C := rR3) (T := rT3) (N := 2) hx hb hts (fun w h => List.mem_cons_of_mem _ (rin3 w h)) hown hK hP k0 hw.2.1 rfl 1 (by decide) (hts _ (List.mem_cons_of_mem _ rm_268)) (fun _ h9 => h9) rfl rd_B_add_60 ?_
                refine iw_icmp_ge (tgt := 73) hx hb rd_B_add_63 (by decide) ⟨by omega, by omega⟩ ⟨by omega, by omega⟩ (fun d3 => ?_) (fun d3 => ?_)
                ·
                  refine lv_iload_n hx hb rd_B_add_73 rfl (lv_at hl 4 rfl) ?_
                  refine lv_iconst (v := iv (1)) hx hb rd_B_add_74 (by decide) ?_
                  refine iw_iadd hx hb rd_B_add_75 ?_
                  refine iw_topi (y := iv (((max (dn X) (i + 1) : Nat) : Int))) (congrArg iv (by omega : ((((i : Int)) + (1)) : Int) = (((max (dn X) (i + 1) : Nat) : Int)))) ?_
                  refine va_put (D := (dC, dI)) (ci := 3) (v := .int (iv (((max (dn X) (i + 1) : Nat) : Int)))) (ty := .int) (C := rR3) (T := rT3) (N := 2) hx hb hts (fun w h => List.mem_cons_of_mem _ (rin3 w h)) rty3 rtyok3 rnm3 hown hK hP hD hS k0 hw.2.1 rfl 1 (by decide) (hts _ (List.mem_cons_of_mem _ rm_268)) (fun _ h9 => h9) rfl (by decide +kernel) rfl rfl (Nat.le_of_ble_eq_true rfl) rd_B_add_76 (fun H locs hP hD hS => ?_)
                  have hP := egPu hw0.1 hP
                  have hD := egDu hw0.1 hD
                  have hw : isB (bW ws k0 k1 h a cI (((max (dn X) (i + 1) : Nat) : Int)) (K)) k0 k1 h a cI (((max (dn X) (i + 1) : Nat) : Int)) (K) := hw0.w _ _
                  have ho := ho0.o hoa (bo h a (((max (dn X) (i + 1) : Nat) : Int))) (ba cI a (K))
                  refine lv_aload_n hx hb rd_B_add_79 rfl (lv_at hl 1 rfl) ?_
                  refine va_get (D := (dC, dI)) (ci := 3) (v := .ref a) (C := rR3) (T := rT3) (N := 2) hx hb hts (fun w h => List.mem_cons_of_mem _ (rin3 w h)) hown hK hP k0 hw.2.1 rfl 0 (by decide) (hts _ (List.mem_cons_of_mem _ rm_266)) (fun _ h9 => h9) rfl rd_B_add_80 ?_
                  refine lv_iload_n hx hb rd_B_add_83 rfl (lv_at hl 4 rfl) ?_
                  refine lv_iload hx hb rd_B_add_84 (lv_at hl 0 rfl) ?_
                  refine lv_ldc (v := iv (65535)) hx hb hown (hts _ (List.mem_cons_of_mem _ rm_385)) rd_B_add_86 ?_
                  refine iw_iand16 hx hb rd_B_add_88 ?_
                  refine iw_topi (y := iv (((z % 65536 : Nat) : Int))) (congrArg iv (by omega : ((((z : Int)) % 65536) : Int) = (((z % 65536 : Nat) : Int)))) ?_
                  refine iw_iast (i := i) (v := z % 65536) hx hb hK hP hD hS k1 0 hw.2.2 ht (by omega) (by decide) rd_B_add_89 (fun H locs hP hD hS => ?_)
                  have hP := egPa hP
                  have hD := egDa hD
                  have hw : isB (bW ws k0 k1 h a cI (((max (dn X) (i + 1) : Nat) : Int)) (va_up (K) (i) (z % 65536))) k0 k1 h a cI (((max (dn X) (i + 1) : Nat) : Int)) (va_up (K) (i) (z % 65536)) := hw0.w _ _
                  have ho := ho0.o hoa (bo h a (((max (dn X) (i + 1) : Nat) : Int))) (ba cI a (va_up (K) (i) (z % 65536)))
                  refine lv_iload hx hb rd_B_add_90 (lv_at hl 0 rfl) ?_
                  refine lv_bipush (v := iv (16)) hx hb rd_B_add_92 (by decide) ?_
                  refine iw_topi (y := iv (((16 : Nat) : Int))) (congrArg iv (by rfl : ((16) : Int) = (((16 : Nat) : Int)))) ?_
                  refine iw_ishrk (a := z) (k := 16) hx hb (by omega) (by decide) rd_B_add_94 ?_
                  refine iw_topi (y := iv (((z / 65536 : Nat) : Int))) (congrArg iv (by rfl : ((((z / 2 ^ 16 : Nat) : Int)) : Int) = (((z / 65536 : Nat) : Int)))) ?_
                  refine lv_istore_n (lv' := [(2, .int (iv (((z / 65536 : Nat) : Int)))), (4, .int (iv ((z : Int)))), (0, .ref h), (1, .ref g), (3, .int (iv ((i : Int))))]) hx hb rd_B_add_95 rfl hl (by decide) rfl (fun ls hl => ?_)
                  refine lv_iinc (v := iv (((i + 1 : Nat) : Int))) (lv' := [(3, .int (iv (((i + 1 : Nat) : Int)))), (2, .int (iv (((z / 65536 : Nat) : Int)))), (4, .int (iv ((z : Int)))), (0, .ref h), (1, .ref g)]) hx hb rd_B_add_96 hl (k := 4) rfl (iv_inc i) (by decide) rfl (fun ls hl => ?_)
                  refine lv_goto (tgt := 4) hx hb rd_B_add_99 (by decide) ?_
                  exact ih (i + 1) (z / 65536) (va_up K i (z % 65536)) (by omega) (by omega) (fun j hj => by
                        by_cases q : j = i
                        · rw [q, ef_up_at]; omega
                        · rw [ef_up_ne q]; exact h2 j (by omega)) (by
                        rw [nd_step h3 hz9]
                        show _ = nd (dg X) i + dg X i * 2 ^ (16 * i) + (nd (dg Y) i + dg Y i * 2 ^ (16 * i))
                        rw [Nat.add_mul]
                        omega) (fun j q1 q2 => by rw [ef_up_ne (by omega)]; exact h4 j (by omega) q2) (Or.inr (Or.inl (by omega))) (by omega) H locs ls hP hD hS (lv_sub hl [3, 4, 1, 0] rfl)
                ·
                  exact absurd d3 (by omega)
            ·
              exact absurd d1 (by omega)
        ·
          exact absurd c1 (by omega)
      ·
        refine lv_iload_n hx hb rd_B_add_4 rfl (lv_at hl 3 rfl) ?_
        refine lv_aload_n hx hb rd_B_add_5 rfl (lv_at hl 1 rfl) ?_
        refine va_get (D := (dC, dI)) (ci := 3) (v := .int (iv ((dn Y : Int)))) (C := rR3) (T := rT3) (N := 2) hx hb hts (fun w h => List.mem_cons_of_mem _ (rin3 w h)) hown hK hP j0 ho.2.1 rfl 1 (by decide) (hts _ (List.mem_cons_of_mem _ rm_268)) (fun _ h9 => h9) rfl rd_B_add_6 ?_
        refine iw_icmp_lt (tgt := 16) hx hb rd_B_add_9 (by decide) ⟨by omega, by omega⟩ ⟨by omega, by omega⟩ (fun c1 => ?_) (fun c1 => ?_)
        ·
          exact absurd c1 (by omega)
        ·
          refine lv_iload_n hx hb rd_B_add_12 rfl (lv_at hl 2 rfl) ?_
          refine iw_if_le (tgt := 102) hx hb rd_B_add_13 (by decide) ⟨by omega, by omega⟩ (fun c2 => ?_) (fun c2 => ?_)
          ·
            have hcy : cy = 0 := by omega
            rw [hcy, Nat.zero_mul, Nat.add_zero] at h3
            have hs := add_end h2 h3 h4 hy h6
            exact ef_vret hx hb hr hlocks hP hD hS rd_B_add_102 (⟨rfl, K, by rw [hs.1], hs.2⟩)
          ·
            have hcy : cy = 1 := by omega
            rcases Nat.lt_or_ge i (dn X) with hx9 | hx9
            ·
              have hi : i < 640 := by omega
              refine lv_iload_n hx hb rd_B_add_16 rfl (lv_at hl 3 rfl) ?_
              refine lv_aload_n hx hb rd_B_add_17 rfl (lv_at hl 0 rfl) ?_
              refine va_get (D := (dC, dI)) (ci := 3) (v := .int (iv (((max (dn X) i : Nat) : Int)))) (C := rR3) (T := rT3) (N := 2) hx hb hts (fun w h => List.mem_cons_of_mem _ (rin3 w h)) hown hK hP k0 hw.2.1 rfl 1 (by decide) (hts _ (List.mem_cons_of_mem _ rm_268)) (fun _ h9 => h9) rfl rd_B_add_18 ?_
              refine iw_icmp_ge (tgt := 33) hx hb rd_B_add_21 (by decide) ⟨by omega, by omega⟩ ⟨by omega, by omega⟩ (fun d1 => ?_) (fun d1 => ?_)
              ·
                exact absurd d1 (by omega)
              ·
                have hxi := h4 i (Nat.le_refl _) hx9
                refine lv_aload_n hx hb rd_B_add_24 rfl (lv_at hl 0 rfl) ?_
                refine va_get (D := (dC, dI)) (ci := 3) (v := .ref a) (C := rR3) (T := rT3) (N := 2) hx hb hts (fun w h => List.mem_cons_of_mem _ (rin3 w h)) hown hK hP k0 hw.2.1 rfl 0 (by decide) (hts _ (List.mem_cons_of_mem _ rm_266)) (fun _ h9 => h9) rfl rd_B_add_25 ?_
                refine lv_iload_n hx hb rd_B_add_28 rfl (lv_at hl 3 rfl) ?_
                refine iw_iald (i := i) hx hb hK hP k1 0 hw.2.2 ht (by omega) (by decide) rd_B_add_29 ?_
                refine iw_topi (y := iv (((dg X i : Nat) : Int))) (congrArg iv (by rw [hxi] : (((K) (i)) : Int) = (((dg X i : Nat) : Int)))) ?_
                refine lv_goto (tgt := 34) hx hb rd_B_add_30 (by decide) ?_
                refine lv_iload_n hx hb rd_B_add_34 rfl (lv_at hl 3 rfl) ?_
                refine lv_aload_n hx hb rd_B_add_35 rfl (lv_at hl 1 rfl) ?_
                refine va_get (D := (dC, dI)) (ci := 3) (v := .int (iv ((dn Y : Int)))) (C := rR3) (T := rT3) (N := 2) hx hb hts (fun w h => List.mem_cons_of_mem _ (rin3 w h)) hown hK hP j0 ho.2.1 rfl 1 (by decide) (hts _ (List.mem_cons_of_mem _ rm_268)) (fun _ h9 => h9) rfl rd_B_add_36 ?_
                refine iw_icmp_ge (tgt := 51) hx hb rd_B_add_39 (by decide) ⟨by omega, by omega⟩ ⟨by omega, by omega⟩ (fun d2 => ?_) (fun d2 => ?_)
                ·
                  have hy0 : dg Y i = 0 := dg_above (by omega)
                  refine lv_iconst (v := iv (0)) hx hb rd_B_add_51 (by decide) ?_
                  refine iw_topi (y := iv (((dg Y i : Nat) : Int))) (congrArg iv (by rw [hy0]; rfl : ((0) : Int) = (((dg Y i : Nat) : Int)))) ?_
                  refine iw_iadd hx hb rd_B_add_52 ?_
                  refine lv_iload_n hx hb rd_B_add_53 rfl (lv_at hl 2 rfl) ?_
                  refine iw_iadd hx hb rd_B_add_54 ?_
                  obtain ⟨z, hz9⟩ : ∃ z, z = cy + (dg X i + dg Y i) := ⟨_, rfl⟩
                  refine iw_topi (y := iv ((z : Int))) (congrArg iv (by omega : ((((((dg X i : Nat) : Int)) + (((dg Y i : Nat) : Int))) + ((cy : Int))) : Int) = ((z : Int)))) ?_
                  refine lv_istore (lv' := [(4, .int (iv ((z : Int)))), (0, .ref h), (1, .ref g), (2, .int (iv ((cy : Int)))), (3, .int (iv ((i : Int))))]) hx hb rd_B_add_55 hl (by decide) rfl (fun ls hl => ?_)
                  refine lv_aload_n hx hb rd_B_add_57 rfl (lv_at hl 1 rfl) ?_
                  refine lv_iload_n hx hb rd_B_add_58 rfl (lv_at hl 4 rfl) ?_
                  refine lv_aload_n hx hb rd_B_add_59 rfl (lv_at hl 1 rfl) ?_
                  refine va_get (D := (dC, dI)) (ci := 3) (v := .int (iv (((max (dn X) i : Nat) : Int)))) (C := rR3) (T := rT3) (N := 2) hx hb hts (fun w h => List.mem_cons_of_mem _ (rin3 w h)) hown hK hP k0 hw.2.1 rfl 1 (by decide) (hts _ (List.mem_cons_of_mem _ rm_268)) (fun _ h9 => h9) rfl rd_B_add_60 ?_
                  refine iw_icmp_ge (tgt := 73) hx hb rd_B_add_63 (by decide) ⟨by omega, by omega⟩ ⟨by omega, by omega⟩ (fun d3 => ?_) (fun d3 => ?_)
                  ·
                    exact absurd d3 (by omega)
                  ·
                    refine lv_aload_n hx hb rd_B_add_66 rfl (lv_at hl 1 rfl) ?_
                    refine va_get (D := (dC, dI)) (ci := 3) (v := .int (iv (((max (dn X) i : Nat) : Int)))) (C := rR3) (T := rT3) (N := 2) hx hb hts (fun w h => List.mem_cons_of_mem _ (rin3 w h)) hown hK hP k0 hw.2.1 rfl 1 (by decide) (hts _ (List.mem_cons_of_mem _ rm_268)) (fun _ h9 => h9) rfl rd_B_add_67 ?_
                    refine lv_goto (tgt := 76) hx hb rd_B_add_70 (by decide) ?_
                    refine iw_topi (y := iv (((max (dn X) (i + 1) : Nat) : Int))) (congrArg iv (by omega : ((((max (dn X) i : Nat) : Int)) : Int) = (((max (dn X) (i + 1) : Nat) : Int)))) ?_
                    refine va_put (D := (dC, dI)) (ci := 3) (v := .int (iv (((max (dn X) (i + 1) : Nat) : Int)))) (ty := .int) (C := rR3) (T := rT3) (N := 2) hx hb hts (fun w h => List.mem_cons_of_mem _ (rin3 w h)) rty3 rtyok3 rnm3 hown hK hP hD hS k0 hw.2.1 rfl 1 (by decide) (hts _ (List.mem_cons_of_mem _ rm_268)) (fun _ h9 => h9) rfl (by decide +kernel) rfl rfl (Nat.le_of_ble_eq_true rfl) rd_B_add_76 (fun H locs hP hD hS => ?_)
                    have hP := egPu hw0.1 hP
                    have hD := egDu hw0.1 hD
                    have hw : isB (bW ws k0 k1 h a cI (((max (dn X) (i + 1) : Nat) : Int)) (K)) k0 k1 h a cI (((max (dn X) (i + 1) : Nat) : Int)) (K) := hw0.w _ _
                    have ho := ho0.o hoa (bo h a (((max (dn X) (i + 1) : Nat) : Int))) (ba cI a (K))
                    refine lv_aload_n hx hb rd_B_add_79 rfl (lv_at hl 1 rfl) ?_
                    refine va_get (D := (dC, dI)) (ci := 3) (v := .ref a) (C := rR3) (T := rT3) (N := 2) hx hb hts (fun w h => List.mem_cons_of_mem _ (rin3 w h)) hown hK hP k0 hw.2.1 rfl 0 (by decide) (hts _ (List.mem_cons_of_mem _ rm_266)) (fun _ h9 => h9) rfl rd_B_add_80 ?_
                    refine lv_iload_n hx hb rd_B_add_83 rfl (lv_at hl 4 rfl) ?_
                    refine lv_iload hx hb rd_B_add_84 (lv_at hl 0 rfl) ?_
                    refine lv_ldc (v := iv (65535)) hx hb hown (hts _ (List.mem_cons_of_mem _ rm_385)) rd_B_add_86 ?_
                    refine iw_iand16 hx hb rd_B_add_88 ?_
                    refine iw_topi (y := iv (((z % 65536 : Nat) : Int))) (congrArg iv (by omega : ((((z : Int)) % 65536) : Int) = (((z % 65536 : Nat) : Int)))) ?_
                    refine iw_iast (i := i) (v := z % 65536) hx hb hK hP hD hS k1 0 hw.2.2 ht (by omega) (by decide) rd_B_add_89 (fun H locs hP hD hS => ?_)
                    have hP := egPa hP
                    have hD := egDa hD
                    have hw : isB (bW ws k0 k1 h a cI (((max (dn X) (i + 1) : Nat) : Int)) (va_up (K) (i) (z % 65536))) k0 k1 h a cI (((max (dn X) (i + 1) : Nat) : Int)) (va_up (K) (i) (z % 65536)) := hw0.w _ _
                    have ho := ho0.o hoa (bo h a (((max (dn X) (i + 1) : Nat) : Int))) (ba cI a (va_up (K) (i) (z % 65536)))
                    refine lv_iload hx hb rd_B_add_90 (lv_at hl 0 rfl) ?_
                    refine lv_bipush (v := iv (16)) hx hb rd_B_add_92 (by decide) ?_
                    refine iw_topi (y := iv (((16 : Nat) : Int))) (congrArg iv (by rfl : ((16) : Int) = (((16 : Nat) : Int)))) ?_
                    refine iw_ishrk (a := z) (k := 16) hx hb (by omega) (by decide) rd_B_add_94 ?_
                    refine iw_topi (y := iv (((z / 65536 : Nat) : Int))) (congrArg iv (by rfl : ((((z / 2 ^ 16 : Nat) : Int)) : Int) = (((z / 65536 : Nat) : Int)))) ?_
                    refine lv_istore_n (lv' := [(2, .int (iv (((z / 65536 : Nat) : Int)))), (4, .int (iv ((z : Int)))), (0, .ref h), (1, .ref g), (3, .int (iv ((i : Int))))]) hx hb rd_B_add_95 rfl hl (by decide) rfl (fun ls hl => ?_)
                    refine lv_iinc (v := iv (((i + 1 : Nat) : Int))) (lv' := [(3, .int (iv (((i + 1 : Nat) : Int)))), (2, .int (iv (((z / 65536 : Nat) : Int)))), (4, .int (iv ((z : Int)))), (0, .ref h), (1, .ref g)]) hx hb rd_B_add_96 hl (k := 4) rfl (iv_inc i) (by decide) rfl (fun ls hl => ?_)
                    refine lv_goto (tgt := 4) hx hb rd_B_add_99 (by decide) ?_
                    exact ih (i + 1) (z / 65536) (va_up K i (z % 65536)) (by omega) (by omega) (fun j hj => by
                          by_cases q : j = i
                          · rw [q, ef_up_at]; omega
                          · rw [ef_up_ne q]; exact h2 j (by omega)) (by
                          rw [nd_step h3 hz9]
                          show _ = nd (dg X) i + dg X i * 2 ^ (16 * i) + (nd (dg Y) i + dg Y i * 2 ^ (16 * i))
                          rw [Nat.add_mul]
                          omega) (fun j q1 q2 => by rw [ef_up_ne (by omega)]; exact h4 j (by omega) q2) (Or.inl (by omega)) (by omega) H locs ls hP hD hS (lv_sub hl [3, 4, 1, 0] rfl)
                ·
                  exact absurd d2 (by omega)
            ·
              have hbig : 2 ^ (16 * i) ≤ X + Y := by
                rw [nd_self' (by omega : dn X ≤ i), nd_self' hy] at h3
                rw [hcy, Nat.one_mul] at h3
                omega
              have hi : i < 640 := by
                rcases Nat.lt_or_ge i 640 with q | q
                · exact q
                · have q1 := dn_lt (X + Y)
                  have q2 : 2 ^ (16 * dn (X + Y)) ≤ 2 ^ (16 * i) := Nat.pow_le_pow_right (by decide) (by omega)
                  omega
              refine lv_iload_n hx hb rd_B_add_16 rfl (lv_at hl 3 rfl) ?_
              refine lv_aload_n hx hb rd_B_add_17 rfl (lv_at hl 0 rfl) ?_
              refine va_get (D := (dC, dI)) (ci := 3) (v := .int (iv (((max (dn X) i : Nat) : Int)))) (C := rR3) (T := rT3) (N := 2) hx hb hts (fun w h => List.mem_cons_of_mem _ (rin3 w h)) hown hK hP k0 hw.2.1 rfl 1 (by decide) (hts _ (List.mem_cons_of_mem _ rm_268)) (fun _ h9 => h9) rfl rd_B_add_18 ?_
              refine iw_icmp_ge (tgt := 33) hx hb rd_B_add_21 (by decide) ⟨by omega, by omega⟩ ⟨by omega, by omega⟩ (fun d1 => ?_) (fun d1 => ?_)
              ·
                have hx0 : dg X i = 0 := dg_above (by omega)
                refine lv_iconst (v := iv (0)) hx hb rd_B_add_33 (by decide) ?_
                refine iw_topi (y := iv (((dg X i : Nat) : Int))) (congrArg iv (by rw [hx0]; rfl : ((0) : Int) = (((dg X i : Nat) : Int)))) ?_
                refine lv_iload_n hx hb rd_B_add_34 rfl (lv_at hl 3 rfl) ?_
                refine lv_aload_n hx hb rd_B_add_35 rfl (lv_at hl 1 rfl) ?_
                refine va_get (D := (dC, dI)) (ci := 3) (v := .int (iv ((dn Y : Int)))) (C := rR3) (T := rT3) (N := 2) hx hb hts (fun w h => List.mem_cons_of_mem _ (rin3 w h)) hown hK hP j0 ho.2.1 rfl 1 (by decide) (hts _ (List.mem_cons_of_mem _ rm_268)) (fun _ h9 => h9) rfl rd_B_add_36 ?_
                refine iw_icmp_ge (tgt := 51) hx hb rd_B_add_39 (by decide) ⟨by omega, by omega⟩ ⟨by omega, by omega⟩ (fun d2 => ?_) (fun d2 => ?_)
                ·
                  have hy0 : dg Y i = 0 := dg_above (by omega)
                  refine lv_iconst (v := iv (0)) hx hb rd_B_add_51 (by decide) ?_
                  refine iw_topi (y := iv (((dg Y i : Nat) : Int))) (congrArg iv (by rw [hy0]; rfl : ((0) : Int) = (((dg Y i : Nat) : Int)))) ?_
                  refine iw_iadd hx hb rd_B_add_52 ?_
                  refine lv_iload_n hx hb rd_B_add_53 rfl (lv_at hl 2 rfl) ?_
                  refine iw_iadd hx hb rd_B_add_54 ?_
                  obtain ⟨z, hz9⟩ : ∃ z, z = cy + (dg X i + dg Y i) := ⟨_, rfl⟩
                  refine iw_topi (y := iv ((z : Int))) (congrArg iv (by omega : ((((((dg X i : Nat) : Int)) + (((dg Y i : Nat) : Int))) + ((cy : Int))) : Int) = ((z : Int)))) ?_
                  refine lv_istore (lv' := [(4, .int (iv ((z : Int)))), (0, .ref h), (1, .ref g), (2, .int (iv ((cy : Int)))), (3, .int (iv ((i : Int))))]) hx hb rd_B_add_55 hl (by decide) rfl (fun ls hl => ?_)
                  refine lv_aload_n hx hb rd_B_add_57 rfl (lv_at hl 1 rfl) ?_
                  refine lv_iload_n hx hb rd_B_add_58 rfl (lv_at hl 4 rfl) ?_
                  refine lv_aload_n hx hb rd_B_add_59 rfl (lv_at hl 1 rfl) ?_
                  refine va_get (D := (dC, dI)) (ci := 3) (v := .int (iv (((max (dn X) i : Nat) : Int)))) (C := rR3) (T := rT3) (N := 2) hx hb hts (fun w h => List.mem_cons_of_mem _ (rin3 w h)) hown hK hP k0 hw.2.1 rfl 1 (by decide) (hts _ (List.mem_cons_of_mem _ rm_268)) (fun _ h9 => h9) rfl rd_B_add_60 ?_
                  refine iw_icmp_ge (tgt := 73) hx hb rd_B_add_63 (by decide) ⟨by omega, by omega⟩ ⟨by omega, by omega⟩ (fun d3 => ?_) (fun d3 => ?_)
                  ·
                    refine lv_iload_n hx hb rd_B_add_73 rfl (lv_at hl 4 rfl) ?_
                    refine lv_iconst (v := iv (1)) hx hb rd_B_add_74 (by decide) ?_
                    refine iw_iadd hx hb rd_B_add_75 ?_
                    refine iw_topi (y := iv (((max (dn X) (i + 1) : Nat) : Int))) (congrArg iv (by omega : ((((i : Int)) + (1)) : Int) = (((max (dn X) (i + 1) : Nat) : Int)))) ?_
                    refine va_put (D := (dC, dI)) (ci := 3) (v := .int (iv (((max (dn X) (i + 1) : Nat) : Int)))) (ty := .int) (C := rR3) (T := rT3) (N := 2) hx hb hts (fun w h => List.mem_cons_of_mem _ (rin3 w h)) rty3 rtyok3 rnm3 hown hK hP hD hS k0 hw.2.1 rfl 1 (by decide) (hts _ (List.mem_cons_of_mem _ rm_268)) (fun _ h9 => h9) rfl (by decide +kernel) rfl rfl (Nat.le_of_ble_eq_true rfl) rd_B_add_76 (fun H locs hP hD hS => ?_)
                    have hP := egPu hw0.1 hP
                    have hD := egDu hw0.1 hD
                    have hw : isB (bW ws k0 k1 h a cI (((max (dn X) (i + 1) : Nat) : Int)) (K)) k0 k1 h a cI (((max (dn X) (i + 1) : Nat) : Int)) (K) := hw0.w _ _
                    have ho := ho0.o hoa (bo h a (((max (dn X) (i + 1) : Nat) : Int))) (ba cI a (K))
                    refine lv_aload_n hx hb rd_B_add_79 rfl (lv_at hl 1 rfl) ?_
                    refine va_get (D := (dC, dI)) (ci := 3) (v := .ref a) (C := rR3) (T := rT3) (N := 2) hx hb hts (fun w h => List.mem_cons_of_mem _ (rin3 w h)) hown hK hP k0 hw.2.1 rfl 0 (by decide) (hts _ (List.mem_cons_of_mem _ rm_266)) (fun _ h9 => h9) rfl rd_B_add_80 ?_
                    refine lv_iload_n hx hb rd_B_add_83 rfl (lv_at hl 4 rfl) ?_
                    refine lv_iload hx hb rd_B_add_84 (lv_at hl 0 rfl) ?_
                    refine lv_ldc (v := iv (65535)) hx hb hown (hts _ (List.mem_cons_of_mem _ rm_385)) rd_B_add_86 ?_
                    refine iw_iand16 hx hb rd_B_add_88 ?_
                    refine iw_topi (y := iv (((z % 65536 : Nat) : Int))) (congrArg iv (by omega : ((((z : Int)) % 65536) : Int) = (((z % 65536 : Nat) : Int)))) ?_
                    refine iw_iast (i := i) (v := z % 65536) hx hb hK hP hD hS k1 0 hw.2.2 ht (by omega) (by decide) rd_B_add_89 (fun H locs hP hD hS => ?_)
                    have hP := egPa hP
                    have hD := egDa hD
                    have hw : isB (bW ws k0 k1 h a cI (((max (dn X) (i + 1) : Nat) : Int)) (va_up (K) (i) (z % 65536))) k0 k1 h a cI (((max (dn X) (i + 1) : Nat) : Int)) (va_up (K) (i) (z % 65536)) := hw0.w _ _
                    have ho := ho0.o hoa (bo h a (((max (dn X) (i + 1) : Nat) : Int))) (ba cI a (va_up (K) (i) (z % 65536)))
                    refine lv_iload hx hb rd_B_add_90 (lv_at hl 0 rfl) ?_
                    refine lv_bipush (v := iv (16)) hx hb rd_B_add_92 (by decide) ?_
                    refine iw_topi (y := iv (((16 : Nat) : Int))) (congrArg iv (by rfl : ((16) : Int) = (((16 : Nat) : Int)))) ?_
                    refine iw_ishrk (a := z) (k := 16) hx hb (by omega) (by decide) rd_B_add_94 ?_
                    refine iw_topi (y := iv (((z / 65536 : Nat) : Int))) (congrArg iv (by rfl : ((((z / 2 ^ 16 : Nat) : Int)) : Int) = (((z / 65536 : Nat) : Int)))) ?_
                    refine lv_istore_n (lv' := [(2, .int (iv (((z / 65536 : Nat) : Int)))), (4, .int (iv ((z : Int)))), (0, .ref h), (1, .ref g), (3, .int (iv ((i : Int))))]) hx hb rd_B_add_95 rfl hl (by decide) rfl (fun ls hl => ?_)
                    refine lv_iinc (v := iv (((i + 1 : Nat) : Int))) (lv' := [(3, .int (iv (((i + 1 : Nat) : Int)))), (2, .int (iv (((z / 65536 : Nat) : Int)))), (4, .int (iv ((z : Int)))), (0, .ref h), (1, .ref g)]) hx hb rd_B_add_96 hl (k := 4) rfl (iv_inc i) (by decide) rfl (fun ls hl => ?_)
                    refine lv_goto (tgt := 4) hx hb rd_B_add_99 (by decide) ?_
                    exact ih (i + 1) (z / 65536) (va_up K i (z % 65536)) (by omega) (by omega) (fun j hj => by
                          by_cases q : j = i
                          · rw [q, ef_up_at]; omega
                          · rw [ef_up_ne q]; exact h2 j (by omega)) (by
                          rw [nd_step h3 hz9]
                          show _ = nd (dg X) i + dg X i * 2 ^ (16 * i) + (nd (dg Y) i + dg Y i * 2 ^ (16 * i))
                          rw [Nat.add_mul]
                          omega) (fun j q1 q2 => by rw [ef_up_ne (by omega)]; exact h4 j (by omega) q2) (Or.inr (Or.inr (by rw [show i + 1 - 1 = i by omega]; exact hbig))) (by omega) H locs ls hP hD hS (lv_sub hl [3, 4, 1, 0] rfl)
                  ·
                    exact absurd d3 (by omega)
                ·
                  exact absurd d2 (by omega)
              ·
                exact absurd d1 (by omega)
  exact loop (641) (0) (0) (F) (Nat.zero_le _) (by omega) (fun j hj => absurd hj (by omega)) (rfl) (fun j _ q => hd j q) (Or.inl (Nat.zero_le _)) (by omega) H locs ls hP hD hS (lv_sub hl [2, 3, 1, 0] rfl)

set_option maxRecDepth 100000 in
set_option maxHeartbeats 4000000 in
/-- product -/
theorem b_product (l : Launch) (dC : Nat → ClassId) (dI : Nat → Nat → Nat) {cI : ClassId} {tys : List (ClassId × FieldType)} (ht : tys[0]? = some (cI, .int)) {ws : va_W} {k0 k1 h a n : Nat} {F : Nat → Nat} (hw : isB ws k0 k1 h a cI (n : Int) F) {j0 j1 g b Y : Nat} {G : Nat → Nat} (ho : isB ws j0 j1 g b cI (dn Y : Int) G) (hdo : dgo Y G) (hoa : apt k0 k1 j0 j1) {i0 i1 g2 b2 Z : Nat} {E : Nat → Nat} (hp : isB ws i0 i1 g2 b2 cI (dn Z : Int) E) (hdp : dgo Z E) (hpa : apt k0 k1 i0 i1) (hY0 : Y ≠ 0) (hZ0 : Z ≠ 0) (hYZ : dn Y + dn Z ≤ 640) : ef_C l ry_B_product rw_B_product ({ frames := 1, cells := 0, slots := 0, locals := 20 } : Room) [.ref h, .ref g, .ref g2] (dC, dI) vwCl tys ws (fun o w1 => o = none ∧ ∃ F2 : Nat → Nat, w1 = bW ws k0 k1 h a cI (dn (Y * Z) : Int) F2 ∧ dgo (Y * Z) F2) := by
  refine ef_C.of (cc := rc_B_product) (maxL := 9) (ret := none) (by decide) rfl (Nat.le_of_ble_eq_true rfl) ?_
  intro p e s m below meth c ls hx hb hml hr hts hown hlocks hK hNX hP hD hS hl
  have hl : lv_has ls 9 [(0, .ref h), (1, .ref g), (2, .ref g2)] := hl
  have hown : s.vm.findClass rR3 = some m.cls := hown
  generalize hH : s.heap = H at hP ⊢
  have hS : va_S (ef_A ws) s.heap H [] := by rw [← hH]; exact hS
  generalize ([] : List Loc) = locs at hS ⊢
  have hw0 := hw
  have ho0 := ho
  have hp0 := hp
  have hP := egP0 hw0 hP
  have hD := egD0 hw0 hD
  have hw : isB (bW ws k0 k1 h a cI ((n : Int)) (F)) k0 k1 h a cI ((n : Int)) (F) := hw0.w _ _
  have ho := ho0.o hoa (bo h a ((n : Int))) (ba cI a (F))
  have hp := hp0.o hpa (bo h a ((n : Int))) (ba cI a (F))
  have hy0 : dn Y ≠ 0 := fun q => hY0 (dn_0.1 q)
  have hz0 : dn Z ≠ 0 := fun q => hZ0 (dn_0.1 q)
  refine lv_aload_n hx hb rd_B_product_0 rfl (lv_at hl 0 rfl) ?_
  refine lv_aload_n hx hb rd_B_product_1 rfl (lv_at hl 1 rfl) ?_
  refine va_get (D := (dC, dI)) (ci := 3) (v := .int (iv ((dn Y : Int)))) (C := rR3) (T := rT3) (N := 2) hx hb hts (fun w h => List.mem_cons_of_mem _ (rin3 w h)) hown hK hP j0 ho.2.1 rfl 1 (by decide) (hts _ (List.mem_cons_of_mem _ rm_268)) (fun _ h9 => h9) rfl rd_B_product_2 ?_
  refine iw_if_eq (tgt := 15) hx hb rd_B_product_5 (by decide) ⟨by omega, by omega⟩ (fun c1 => ?_) (fun c1 => ?_)
  ·
    exact absurd c1 (by omega)
  ·
    refine lv_aload_n hx hb rd_B_product_8 rfl (lv_at hl 2 rfl) ?_
    refine va_get (D := (dC, dI)) (ci := 3) (v := .int (iv ((dn Z : Int)))) (C := rR3) (T := rT3) (N := 2) hx hb hts (fun w h => List.mem_cons_of_mem _ (rin3 w h)) hown hK hP i0 hp.2.1 rfl 1 (by decide) (hts _ (List.mem_cons_of_mem _ rm_268)) (fun _ h9 => h9) rfl rd_B_product_9 ?_
    refine iw_if_ne (tgt := 19) hx hb rd_B_product_12 (by decide) ⟨by omega, by omega⟩ (fun c2 => ?_) (fun c2 => ?_)
    ·
      refine lv_aload_n hx hb rd_B_product_19 rfl (lv_at hl 1 rfl) ?_
      refine va_get (D := (dC, dI)) (ci := 3) (v := .int (iv ((dn Y : Int)))) (C := rR3) (T := rT3) (N := 2) hx hb hts (fun w h => List.mem_cons_of_mem _ (rin3 w h)) hown hK hP j0 ho.2.1 rfl 1 (by decide) (hts _ (List.mem_cons_of_mem _ rm_268)) (fun _ h9 => h9) rfl rd_B_product_20 ?_
      refine lv_aload_n hx hb rd_B_product_23 rfl (lv_at hl 2 rfl) ?_
      refine va_get (D := (dC, dI)) (ci := 3) (v := .int (iv ((dn Z : Int)))) (C := rR3) (T := rT3) (N := 2) hx hb hts (fun w h => List.mem_cons_of_mem _ (rin3 w h)) hown hK hP i0 hp.2.1 rfl 1 (by decide) (hts _ (List.mem_cons_of_mem _ rm_268)) (fun _ h9 => h9) rfl rd_B_product_24 ?_
      refine iw_iadd hx hb rd_B_product_27 ?_
      refine iw_topi (y := iv (((dn Y + dn Z : Nat) : Int))) (congrArg iv (by omega : ((((dn Y : Int)) + ((dn Z : Int))) : Int) = (((dn Y + dn Z : Nat) : Int)))) ?_
      refine va_put (D := (dC, dI)) (ci := 3) (v := .int (iv (((dn Y + dn Z : Nat) : Int)))) (ty := .int) (C := rR3) (T := rT3) (N := 2) hx hb hts (fun w h => List.mem_cons_of_mem _ (rin3 w h)) rty3 rtyok3 rnm3 hown hK hP hD hS k0 hw.2.1 rfl 1 (by decide) (hts _ (List.mem_cons_of_mem _ rm_268)) (fun _ h9 => h9) rfl (by decide +kernel) rfl rfl (Nat.le_of_ble_eq_true rfl) rd_B_product_28 (fun H locs hP hD hS => ?_)
      have hP := egPu hw0.1 hP
      have hD := egDu hw0.1 hD
      have hw : isB (bW ws k0 k1 h a cI (((dn Y + dn Z : Nat) : Int)) (F)) k0 k1 h a cI (((dn Y + dn Z : Nat) : Int)) (F) := hw0.w _ _
      have ho := ho0.o hoa (bo h a (((dn Y + dn Z : Nat) : Int))) (ba cI a (F))
      have hp := hp0.o hpa (bo h a (((dn Y + dn Z : Nat) : Int))) (ba cI a (F))
      refine lv_iconst (v := iv (0)) hx hb rd_B_product_31 (by decide) ?_
      refine lv_istore_n (lv' := [(3, .int (iv (0))), (0, .ref h), (1, .ref g), (2, .ref g2)]) hx hb rd_B_product_32 rfl hl (by decide) rfl (fun ls hl => ?_)
      have loop : ∀ (fuel : Nat) (i : Nat) (K : Nat → Nat), (i ≤ dn Y + dn Z) → (∀ j, j < i → K j = 0) → (dn Y + dn Z < i + fuel) → ∀ (H : Heap) (locs : List Loc) (ls : Array Slot), va_P (dC, dI) vwCl (bW ws k0 k1 h a cI (((dn Y + dn Z : Nat) : Int)) K) H → va_D (ef_A ws) (bW ws k0 k1 h a cI (((dn Y + dn Z : Nat) : Int)) K) → va_S (ef_A ws) s.heap H locs → lv_has ls 9 [(0, .ref h), (1, .ref g), (2, .ref g2), (3, .int (iv ((i : Int))))] → W p l e ({ frames := 1, cells := 0, slots := 0, locals := 20 } : Room) s m ([.ref h, .ref g, .ref g2] : List Value).toArray below meth c H locs 0 0 (ef_R below (dC, dI) vwCl ws (fun o w1 => o = none ∧ ∃ F2 : Nat → Nat, w1 = bW ws k0 k1 h a cI (dn (Y * Z) : Int) F2 ∧ dgo (Y * Z) F2) [.ref h, .ref g, .ref g2] s) (F0 m 33 ls []) := by
        intro fuel
        induction fuel with
        | zero => intro i K h1 h2 h5; exfalso; omega
        | succ fuel ih =>
          have ih_loop := ih
          intro i K h1 h2 h5 H locs ls hP hD hS hl
          have hw : isB (bW ws k0 k1 h a cI (((dn Y + dn Z : Nat) : Int)) (K)) k0 k1 h a cI (((dn Y + dn Z : Nat) : Int)) (K) := hw0.w _ _
          have ho := ho0.o hoa (bo h a (((dn Y + dn Z : Nat) : Int))) (ba cI a (K))
          have hp := hp0.o hpa (bo h a (((dn Y + dn Z : Nat) : Int))) (ba cI a (K))
          refine lv_iload_n hx hb rd_B_product_33 rfl (lv_at hl 3 rfl) ?_
          refine lv_aload_n hx hb rd_B_product_34 rfl (lv_at hl 0 rfl) ?_
          refine va_get (D := (dC, dI)) (ci := 3) (v := .int (iv (((dn Y + dn Z : Nat) : Int)))) (C := rR3) (T := rT3) (N := 2) hx hb hts (fun w h => List.mem_cons_of_mem _ (rin3 w h)) hown hK hP k0 hw.2.1 rfl 1 (by decide) (hts _ (List.mem_cons_of_mem _ rm_268)) (fun _ h9 => h9) rfl rd_B_product_35 ?_
          refine iw_icmp_ge (tgt := 54) hx hb rd_B_product_38 (by decide) ⟨by omega, by omega⟩ ⟨by omega, by omega⟩ (fun c3 => ?_) (fun c3 => ?_)
          ·
            have hi2 : i = dn Y + dn Z := by omega
            subst hi2
            refine lv_iconst (v := iv (0)) hx hb rd_B_product_54 (by decide) ?_
            refine lv_istore_n (lv' := [(3, .int (iv (0))), (0, .ref h), (1, .ref g), (2, .ref g2)]) hx hb rd_B_product_55 rfl hl (by decide) rfl (fun ls hl => ?_)
            have loop2 : ∀ (fuel : Nat) (i : Nat) (K : Nat → Nat), (i ≤ dn Y) → (∀ j, j < dn Y + dn Z → K j < 65536) → (nd K (i + dn Z) = nd (dg Y) i * Z) → (∀ j, i + dn Z ≤ j → j < dn Y + dn Z → K j = 0) → (dn Y < i + fuel) → ∀ (H : Heap) (locs : List Loc) (ls : Array Slot), va_P (dC, dI) vwCl (bW ws k0 k1 h a cI (((dn Y + dn Z : Nat) : Int)) K) H → va_D (ef_A ws) (bW ws k0 k1 h a cI (((dn Y + dn Z : Nat) : Int)) K) → va_S (ef_A ws) s.heap H locs → lv_has ls 9 [(0, .ref h), (1, .ref g), (2, .ref g2), (3, .int (iv ((i : Int))))] → W p l e ({ frames := 1, cells := 0, slots := 0, locals := 20 } : Room) s m ([.ref h, .ref g, .ref g2] : List Value).toArray below meth c H locs 0 0 (ef_R below (dC, dI) vwCl ws (fun o w1 => o = none ∧ ∃ F2 : Nat → Nat, w1 = bW ws k0 k1 h a cI (dn (Y * Z) : Int) F2 ∧ dgo (Y * Z) F2) [.ref h, .ref g, .ref g2] s) (F0 m 56 ls []) := by
              intro fuel
              induction fuel with
              | zero => intro i K u1 u2 u3 u4 u5; exfalso; omega
              | succ fuel ih =>
                have ih_loop2 := ih
                intro i K u1 u2 u3 u4 u5 H locs ls hP hD hS hl
                have hw : isB (bW ws k0 k1 h a cI (((dn Y + dn Z : Nat) : Int)) (K)) k0 k1 h a cI (((dn Y + dn Z : Nat) : Int)) (K) := hw0.w _ _
                have ho := ho0.o hoa (bo h a (((dn Y + dn Z : Nat) : Int))) (ba cI a (K))
                have hp := hp0.o hpa (bo h a (((dn Y + dn Z : Nat) : Int))) (ba cI a (K))
                refine lv_iload_n hx hb rd_B_product_56 rfl (lv_at hl 3 rfl) ?_
                refine lv_aload_n hx hb rd_B_product_57 rfl (lv_at hl 1 rfl) ?_
                refine va_get (D := (dC, dI)) (ci := 3) (v := .int (iv ((dn Y : Int)))) (C := rR3) (T := rT3) (N := 2) hx hb hts (fun w h => List.mem_cons_of_mem _ (rin3 w h)) hown hK hP j0 ho.2.1 rfl 1 (by decide) (hts _ (List.mem_cons_of_mem _ rm_268)) (fun _ h9 => h9) rfl rd_B_product_58 ?_
                refine iw_icmp_ge (tgt := 167) hx hb rd_B_product_61 (by decide) ⟨by omega, by omega⟩ ⟨by omega, by omega⟩ (fun c4 => ?_) (fun c4 => ?_)
                ·
                  have hi3 : i = dn Y := by omega
                  subst hi3
                  rw [nd_self] at u3
                  refine lv_aload_n hx hb rd_B_product_167 rfl (lv_at hl 0 rfl) ?_
                  refine ef_callV (As := []) (rest := []) ⟨hx, hb, hml, hown, hts⟩ (b_trim l dC dI ht hw hYZ u2) (cwV 0 hts (ef_goodV rm_394 rm_396 rm_14 rm_25 rm_397) rfl rfl rfl (by decide +kernel) ⟨Nat.le_of_ble_eq_true rfl, Nat.le_of_ble_eq_true rfl⟩) hK hNX hP hD hS k0 hw.2.1 rfl rfl rfl hl.1 rfl (Nat.le_of_ble_eq_true rfl) rd_B_product_168 ⟨Nat.zero_le _, Nat.zero_le _⟩ (fun o w1 H locs hq hP hD hS => ?_)
                  rw [u3] at hq
                  obtain ⟨rfl, rfl, hdn⟩ := hq
                  have hP := egP2 hw0.1 hP
                  have hD := egD2 hw0.1 hD
                  have hw : isB (bW ws k0 k1 h a cI ((dn (Y * Z) : Int)) (K)) k0 k1 h a cI ((dn (Y * Z) : Int)) (K) := hw0.w _ _
                  have ho := ho0.o hoa (bo h a ((dn (Y * Z) : Int))) (ba cI a (K))
                  have hp := hp0.o hpa (bo h a ((dn (Y * Z) : Int))) (ba cI a (K))
                  refine W.eq (g2 := F0 m 171 ls []) rfl ?_
                  exact ef_vret hx hb hr hlocks hP hD hS rd_B_product_171 (⟨rfl, K, rfl, hdn⟩)
                ·
                  refine lv_aload_n hx hb rd_B_product_64 rfl (lv_at hl 0 rfl) ?_
                  refine va_get (D := (dC, dI)) (ci := 3) (v := .int (iv (((dn Y + dn Z : Nat) : Int)))) (C := rR3) (T := rT3) (N := 2) hx hb hts (fun w h => List.mem_cons_of_mem _ (rin3 w h)) hown hK hP k0 hw.2.1 rfl 1 (by decide) (hts _ (List.mem_cons_of_mem _ rm_268)) (fun _ h9 => h9) rfl rd_B_product_65 ?_
                  refine iw_if_le (tgt := 167) hx hb rd_B_product_68 (by decide) ⟨by omega, by omega⟩ (fun c5 => ?_) (fun c5 => ?_)
                  ·
                    exact absurd c5 (by omega)
                  ·
                    have hyl := dg_lt Y i
                    have hyi := hdo i (by omega)
                    refine lv_lconst (v := jv (0)) hx hb rd_B_product_71 (by decide) ?_
                    refine lv_lstore (lv' := [(4, .long (jv (0))), (0, .ref h), (1, .ref g), (2, .ref g2), (3, .int (iv ((i : Int))))]) hx hb rd_B_product_72 hl (by decide) rfl (fun ls hl => ?_)
                    refine lv_iconst (v := iv (0)) hx hb rd_B_product_74 (by decide) ?_
                    refine lv_istore (lv' := [(6, .int (iv (0))), (4, .long (jv (0))), (0, .ref h), (1, .ref g), (2, .ref g2), (3, .int (iv ((i : Int))))]) hx hb rd_B_product_75 hl (by decide) rfl (fun ls hl => ?_)
                    have loop3 : ∀ (fuel : Nat) (k : Nat) (cy : Nat) (V : Nat → Nat), (k ≤ dn Z) → (cy < 65536) → (∀ j, j < dn Y + dn Z → V j < 65536) → (nd V (i + k) + cy * 2 ^ (16 * (i + k)) = nd K (i + k) + dg Y i * nd (dg Z) k * 2 ^ (16 * i)) → (∀ j, j < i ∨ i + k ≤ j → V j = K j) → (dn Z < k + fuel) → ∀ (H : Heap) (locs : List Loc) (ls : Array Slot), va_P (dC, dI) vwCl (bW ws k0 k1 h a cI (((dn Y + dn Z : Nat) : Int)) V) H → va_D (ef_A ws) (bW ws k0 k1 h a cI (((dn Y + dn Z : Nat) : Int)) V) → va_S (ef_A ws) s.heap H locs → lv_has ls 9 [(0, .ref h), (1, .ref g), (2, .ref g2), (3, .int (iv ((i : Int)))), (4, .long (jv ((cy : Int)))), (6, .int (iv ((k : Int))))] → W p l e ({ frames := 1, cells := 0, slots := 0, locals := 20 } : Room) s m ([.ref h, .ref g, .ref g2] : List Value).toArray below meth c H locs 0 0 (ef_R below (dC, dI) vwCl ws (fun o w1 => o = none ∧ ∃ F2 : Nat → Nat, w1 = bW ws k0 k1 h a cI (dn (Y * Z) : Int) F2 ∧ dgo (Y * Z) F2) [.ref h, .ref g, .ref g2] s) (F0 m 77 ls []) := by
                      intro fuel
                      induction fuel with
                      | zero => intro k cy V e1 e2 e3 e4 e5 e6; exfalso; omega
                      | succ fuel ih =>
                        have ih_loop3 := ih
                        intro k cy V e1 e2 e3 e4 e5 e6 H locs ls hP hD hS hl
                        have hw : isB (bW ws k0 k1 h a cI (((dn Y + dn Z : Nat) : Int)) (V)) k0 k1 h a cI (((dn Y + dn Z : Nat) : Int)) (V) := hw0.w _ _
                        have ho := ho0.o hoa (bo h a (((dn Y + dn Z : Nat) : Int))) (ba cI a (V))
                        have hp := hp0.o hpa (bo h a (((dn Y + dn Z : Nat) : Int))) (ba cI a (V))
                        refine lv_iload hx hb rd_B_product_77 (lv_at hl 5 rfl) ?_
                        refine lv_aload_n hx hb rd_B_product_79 rfl (lv_at hl 2 rfl) ?_
                        refine va_get (D := (dC, dI)) (ci := 3) (v := .int (iv ((dn Z : Int)))) (C := rR3) (T := rT3) (N := 2) hx hb hts (fun w h => List.mem_cons_of_mem _ (rin3 w h)) hown hK hP i0 hp.2.1 rfl 1 (by decide) (hts _ (List.mem_cons_of_mem _ rm_268)) (fun _ h9 => h9) rfl rd_B_product_80 ?_
                        refine iw_icmp_ge (tgt := 147) hx hb rd_B_product_83 (by decide) ⟨by omega, by omega⟩ ⟨by omega, by omega⟩ (fun c6 => ?_) (fun c6 => ?_)
                        ·
                          have hk : k = dn Z := by omega
                          subst hk
                          rw [nd_self] at e4
                          refine lv_aload_n hx hb rd_B_product_147 rfl (lv_at hl 0 rfl) ?_
                          refine va_get (D := (dC, dI)) (ci := 3) (v := .ref a) (C := rR3) (T := rT3) (N := 2) hx hb hts (fun w h => List.mem_cons_of_mem _ (rin3 w h)) hown hK hP k0 hw.2.1 rfl 0 (by decide) (hts _ (List.mem_cons_of_mem _ rm_266)) (fun _ h9 => h9) rfl rd_B_product_148 ?_
                          refine lv_iload_n hx hb rd_B_product_151 rfl (lv_at hl 3 rfl) ?_
                          refine lv_aload_n hx hb rd_B_product_152 rfl (lv_at hl 2 rfl) ?_
                          refine va_get (D := (dC, dI)) (ci := 3) (v := .int (iv ((dn Z : Int)))) (C := rR3) (T := rT3) (N := 2) hx hb hts (fun w h => List.mem_cons_of_mem _ (rin3 w h)) hown hK hP i0 hp.2.1 rfl 1 (by decide) (hts _ (List.mem_cons_of_mem _ rm_268)) (fun _ h9 => h9) rfl rd_B_product_153 ?_
                          refine iw_iadd hx hb rd_B_product_156 ?_
                          refine iw_topi (y := iv (((i + dn Z : Nat) : Int))) (congrArg iv (by omega : ((((i : Int)) + ((dn Z : Int))) : Int) = (((i + dn Z : Nat) : Int)))) ?_
                          refine lv_lload hx hb rd_B_product_157 (lv_at hl 4 rfl) ?_
                          refine iw_l2i hx hb rd_B_product_159 ?_
                          refine iw_iast (i := i + dn Z) (v := cy) hx hb hK hP hD hS k1 0 hw.2.2 ht (by omega) (by decide) rd_B_product_160 (fun H locs hP hD hS => ?_)
                          have hP := egPa hP
                          have hD := egDa hD
                          have hw : isB (bW ws k0 k1 h a cI (((dn Y + dn Z : Nat) : Int)) (va_up (V) (i + dn Z) (cy))) k0 k1 h a cI (((dn Y + dn Z : Nat) : Int)) (va_up (V) (i + dn Z) (cy)) := hw0.w _ _
                          have ho := ho0.o hoa (bo h a (((dn Y + dn Z : Nat) : Int))) (ba cI a (va_up (V) (i + dn Z) (cy)))
                          have hp := hp0.o hpa (bo h a (((dn Y + dn Z : Nat) : Int))) (ba cI a (va_up (V) (i + dn Z) (cy)))
                          refine lv_iinc (v := iv (((i + 1 : Nat) : Int))) (lv' := [(3, .int (iv (((i + 1 : Nat) : Int)))), (0, .ref h), (1, .ref g), (2, .ref g2), (4, .long (jv ((cy : Int)))), (6, .int (iv ((dn Z : Int))))]) hx hb rd_B_product_161 hl (k := 3) rfl (iv_inc i) (by decide) rfl (fun ls hl => ?_)
                          refine lv_goto (tgt := 56) hx hb rd_B_product_164 (by decide) ?_
                          exact ih_loop2 (i + 1) (va_up V (i + dn Z) cy) (by omega) (fun j hj => by
                                by_cases q : j = i + dn Z
                                · rw [q, ef_up_at]; exact e2
                                · rw [ef_up_ne q]; exact e3 j hj) (by
                                rw [show i + 1 + dn Z = i + dn Z + 1 by omega]
                                show nd (va_up V (i + dn Z) cy) (i + dn Z) + va_up V (i + dn Z) cy (i + dn Z) * 2 ^ (16 * (i + dn Z)) = (nd (dg Y) i + dg Y i * 2 ^ (16 * i)) * Z
                                rw [nd_cong (G := V) (fun j hj => ef_up_ne (by omega)), ef_up_at, e4, u3, Nat.add_mul, Nat.mul_right_comm (dg Y i)]) (fun j q1 q2 => by rw [ef_up_ne (by omega), e5 j (by omega)]; exact u4 j (by omega) q2) (by omega) H locs ls hP hD hS (lv_sub hl [1, 2, 3, 0] rfl)
                        ·
                          have hzl := dg_lt Z k
                          have hzk := hdp k (by omega)
                          have hvk := e5 (i + k) (by omega)
                          have hkl := u2 (i + k) (by omega)
                          refine lv_aload_n hx hb rd_B_product_86 rfl (lv_at hl 1 rfl) ?_
                          refine va_get (D := (dC, dI)) (ci := 3) (v := .ref b) (C := rR3) (T := rT3) (N := 2) hx hb hts (fun w h => List.mem_cons_of_mem _ (rin3 w h)) hown hK hP j0 ho.2.1 rfl 0 (by decide) (hts _ (List.mem_cons_of_mem _ rm_266)) (fun _ h9 => h9) rfl rd_B_product_87 ?_
                          refine lv_iload_n hx hb rd_B_product_90 rfl (lv_at hl 3 rfl) ?_
                          refine iw_iald (i := i) hx hb hK hP j1 0 ho.2.2 ht (by omega) (by decide) rd_B_product_91 ?_
                          refine iw_topi (y := iv (((dg Y i : Nat) : Int))) (congrArg iv (by rw [hyi] : (((G) (i)) : Int) = (((dg Y i : Nat) : Int)))) ?_
                          refine iw_i2l hx hb ⟨by omega, by omega⟩ rd_B_product_92 ?_
                          refine lv_aload_n hx hb rd_B_product_93 rfl (lv_at hl 2 rfl) ?_
                          refine va_get (D := (dC, dI)) (ci := 3) (v := .ref b2) (C := rR3) (T := rT3) (N := 2) hx hb hts (fun w h => List.mem_cons_of_mem _ (rin3 w h)) hown hK hP i0 hp.2.1 rfl 0 (by decide) (hts _ (List.mem_cons_of_mem _ rm_266)) (fun _ h9 => h9) rfl rd_B_product_94 ?_
                          refine lv_iload hx hb rd_B_product_97 (lv_at hl 5 rfl) ?_
                          refine iw_iald (i := k) hx hb hK hP i1 0 hp.2.2 ht (by omega) (by decide) rd_B_product_99 ?_
                          refine iw_topi (y := iv (((dg Z k : Nat) : Int))) (congrArg iv (by rw [hzk] : (((E) (k)) : Int) = (((dg Z k : Nat) : Int)))) ?_
                          refine iw_i2l hx hb ⟨by omega, by omega⟩ rd_B_product_100 ?_
                          refine iw_lmul hx hb rd_B_product_101 ?_
                          refine lv_aload_n hx hb rd_B_product_102 rfl (lv_at hl 0 rfl) ?_
                          refine va_get (D := (dC, dI)) (ci := 3) (v := .ref a) (C := rR3) (T := rT3) (N := 2) hx hb hts (fun w h => List.mem_cons_of_mem _ (rin3 w h)) hown hK hP k0 hw.2.1 rfl 0 (by decide) (hts _ (List.mem_cons_of_mem _ rm_266)) (fun _ h9 => h9) rfl rd_B_product_103 ?_
                          refine lv_iload_n hx hb rd_B_product_106 rfl (lv_at hl 3 rfl) ?_
                          refine lv_iload hx hb rd_B_product_107 (lv_at hl 5 rfl) ?_
                          refine iw_iadd hx hb rd_B_product_109 ?_
                          refine iw_topi (y := iv (((i + k : Nat) : Int))) (congrArg iv (by omega : ((((i : Int)) + ((k : Int))) : Int) = (((i + k : Nat) : Int)))) ?_
                          refine iw_iald (i := i + k) hx hb hK hP k1 0 hw.2.2 ht (by omega) (by decide) rd_B_product_110 ?_
                          refine iw_topi (y := iv (((K (i + k) : Nat) : Int))) (congrArg iv (by rw [hvk] : (((V) (i + k)) : Int) = (((K (i + k) : Nat) : Int)))) ?_
                          have hyb : dg Y i * dg Z k ≤ 65535 * 65535 := Nat.mul_le_mul (by omega) (by omega)
                          have hcm : dg Z k * dg Y i = dg Y i * dg Z k := Nat.mul_comm _ _
                          refine iw_i2l hx hb ⟨by omega, by omega⟩ rd_B_product_111 ?_
                          refine iw_ladd hx hb rd_B_product_112 ?_
                          refine lv_lload hx hb rd_B_product_113 (lv_at hl 4 rfl) ?_
                          refine iw_ladd hx hb rd_B_product_115 ?_
                          obtain ⟨z, hz9⟩ : ∃ z, z = cy + (dg Z k * dg Y i + K (i + k)) := ⟨_, rfl⟩
                          refine iw_topl (y := jv ((z : Int))) (congrArg jv (by rw [hz9, hcm]; push_cast; omega : (((((((dg Y i : Nat) : Int)) * (((dg Z k : Nat) : Int))) + (((K (i + k) : Nat) : Int))) + ((cy : Int))) : Int) = ((z : Int)))) ?_
                          refine lv_lstore (lv' := [(7, .long (jv ((z : Int)))), (0, .ref h), (1, .ref g), (2, .ref g2), (3, .int (iv ((i : Int)))), (4, .long (jv ((cy : Int)))), (6, .int (iv ((k : Int))))]) hx hb rd_B_product_116 hl (by decide) rfl (fun ls hl => ?_)
                          refine lv_aload_n hx hb rd_B_product_118 rfl (lv_at hl 1 rfl) ?_
                          refine va_get (D := (dC, dI)) (ci := 3) (v := .ref a) (C := rR3) (T := rT3) (N := 2) hx hb hts (fun w h => List.mem_cons_of_mem _ (rin3 w h)) hown hK hP k0 hw.2.1 rfl 0 (by decide) (hts _ (List.mem_cons_of_mem _ rm_266)) (fun _ h9 => h9) rfl rd_B_product_119 ?_
                          refine lv_iload_n hx hb rd_B_product_122 rfl (lv_at hl 4 rfl) ?_
                          refine lv_iload hx hb rd_B_product_123 (lv_at hl 6 rfl) ?_
                          refine iw_iadd hx hb rd_B_product_125 ?_
                          refine iw_topi (y := iv (((i + k : Nat) : Int))) (congrArg iv (by omega : ((((i : Int)) + ((k : Int))) : Int) = (((i + k : Nat) : Int)))) ?_
                          refine lv_lload hx hb rd_B_product_126 (lv_at hl 0 rfl) ?_
                          refine lv_ldc2 (v := 65535) hx hb hown (hts _ (List.mem_cons_of_mem _ rm_309)) rd_B_product_128 ?_
                          refine iw_land16 hx hb rd_B_product_131 ?_
                          refine iw_l2i hx hb rd_B_product_132 ?_
                          refine iw_topi (y := iv (((z % 65536 : Nat) : Int))) (congrArg iv (by omega : ((((z : Int)) % 65536) : Int) = (((z % 65536 : Nat) : Int)))) ?_
                          refine iw_iast (i := i + k) (v := z % 65536) hx hb hK hP hD hS k1 0 hw.2.2 ht (by omega) (by decide) rd_B_product_133 (fun H locs hP hD hS => ?_)
                          have hP := egPa hP
                          have hD := egDa hD
                          have hw : isB (bW ws k0 k1 h a cI (((dn Y + dn Z : Nat) : Int)) (va_up (V) (i + k) (z % 65536))) k0 k1 h a cI (((dn Y + dn Z : Nat) : Int)) (va_up (V) (i + k) (z % 65536)) := hw0.w _ _
                          have ho := ho0.o hoa (bo h a (((dn Y + dn Z : Nat) : Int))) (ba cI a (va_up (V) (i + k) (z % 65536)))
                          have hp := hp0.o hpa (bo h a (((dn Y + dn Z : Nat) : Int))) (ba cI a (va_up (V) (i + k) (z % 65536)))
                          refine lv_lload hx hb rd_B_product_134 (lv_at hl 0 rfl) ?_
                          refine lv_bipush (v := iv (16)) hx hb rd_B_product_136 (by decide) ?_
                          refine iw_lshr16 hx hb ⟨by omega, by omega⟩ rd_B_product_138 ?_
                          refine iw_topl (y := jv (((z / 65536 : Nat) : Int))) (congrArg jv (by omega : ((((z : Int)) / 65536) : Int) = (((z / 65536 : Nat) : Int)))) ?_
                          refine lv_lstore (lv' := [(4, .long (jv (((z / 65536 : Nat) : Int)))), (7, .long (jv ((z : Int)))), (0, .ref h), (1, .ref g), (2, .ref g2), (3, .int (iv ((i : Int)))), (6, .int (iv ((k : Int))))]) hx hb rd_B_product_139 hl (by decide) rfl (fun ls hl => ?_)
                          refine lv_iinc (v := iv (((k + 1 : Nat) : Int))) (lv' := [(6, .int (iv (((k + 1 : Nat) : Int)))), (4, .long (jv (((z / 65536 : Nat) : Int)))), (7, .long (jv ((z : Int)))), (0, .ref h), (1, .ref g), (2, .ref g2), (3, .int (iv ((i : Int))))]) hx hb rd_B_product_141 hl (k := 6) rfl (iv_inc k) (by decide) rfl (fun ls hl => ?_)
                          refine lv_goto (tgt := 77) hx hb rd_B_product_144 (by decide) ?_
                          exact ih (k + 1) (z / 65536) (va_up V (i + k) (z % 65536)) (by omega) (by omega) (fun j hj => by
                                by_cases q : j = i + k
                                · rw [q, ef_up_at]; omega
                                · rw [ef_up_ne q]; exact e3 j hj) (by
                                have q := nd_step (i := i + k) e4 hz9
                                rw [amul_step16] at q
                                exact q) (fun j hj => by rw [ef_up_ne (by omega)]; exact e5 j (by omega)) (by omega) H locs ls hP hD hS (lv_sub hl [3, 4, 5, 6, 1, 0] rfl)
                    exact loop3 (dn Z + 1) (0) (0) (K) (Nat.zero_le _) (by omega) (u2) (by show nd K i + 0 * _ = nd K i + dg Y i * 0 * _; rw [Nat.mul_zero, Nat.zero_mul, Nat.zero_mul]) (fun j _ => rfl) (by omega) H locs ls hP hD hS (lv_sub hl [2, 3, 4, 5, 1, 0] rfl)
            exact loop2 (dn Y + 1) (0) (K) (Nat.zero_le _) (fun j hj => by rw [h2 j hj]; decide) (by
                  show nd K (0 + dn Z) = 0 * Z
                  have q := nd_zero (F := K) (k := 0) (n := dn Z) (fun j _ q2 => h2 j (by omega))
                  rw [q, Nat.zero_mul]; rfl) (fun j _ q2 => h2 j q2) (by omega) H locs ls hP hD hS (lv_sub hl [1, 2, 3, 0] rfl)
          ·
            refine lv_aload_n hx hb rd_B_product_41 rfl (lv_at hl 0 rfl) ?_
            refine va_get (D := (dC, dI)) (ci := 3) (v := .ref a) (C := rR3) (T := rT3) (N := 2) hx hb hts (fun w h => List.mem_cons_of_mem _ (rin3 w h)) hown hK hP k0 hw.2.1 rfl 0 (by decide) (hts _ (List.mem_cons_of_mem _ rm_266)) (fun _ h9 => h9) rfl rd_B_product_42 ?_
            refine lv_iload_n hx hb rd_B_product_45 rfl (lv_at hl 3 rfl) ?_
            refine lv_iconst (v := iv (0)) hx hb rd_B_product_46 (by decide) ?_
            refine iw_topi (y := iv (((0 : Nat) : Int))) (congrArg iv (by rfl : ((0) : Int) = (((0 : Nat) : Int)))) ?_
            refine iw_iast (i := i) (v := 0) hx hb hK hP hD hS k1 0 hw.2.2 ht (by omega) (by decide) rd_B_product_47 (fun H locs hP hD hS => ?_)
            have hP := egPa hP
            have hD := egDa hD
            have hw : isB (bW ws k0 k1 h a cI (((dn Y + dn Z : Nat) : Int)) (va_up (K) (i) (0))) k0 k1 h a cI (((dn Y + dn Z : Nat) : Int)) (va_up (K) (i) (0)) := hw0.w _ _
            have ho := ho0.o hoa (bo h a (((dn Y + dn Z : Nat) : Int))) (ba cI a (va_up (K) (i) (0)))
            have hp := hp0.o hpa (bo h a (((dn Y + dn Z : Nat) : Int))) (ba cI a (va_up (K) (i) (0)))
            refine lv_iinc (v := iv (((i + 1 : Nat) : Int))) (lv' := [(3, .int (iv (((i + 1 : Nat) : Int)))), (0, .ref h), (1, .ref g), (2, .ref g2)]) hx hb rd_B_product_48 hl (k := 3) rfl (iv_inc i) (by decide) rfl (fun ls hl => ?_)
            refine lv_goto (tgt := 33) hx hb rd_B_product_51 (by decide) ?_
            exact ih (i + 1) (va_up K i 0) (by omega) (fun j hj => by
                  by_cases q : j = i
                  · rw [q, ef_up_at]
                  · rw [ef_up_ne q]; exact h2 j (by omega)) (by omega) H locs ls hP hD hS (lv_sub hl [1, 2, 3, 0] rfl)
      exact loop (dn Y + dn Z + 1) (0) (F) (Nat.zero_le _) (fun j hj => absurd hj (by omega)) (by omega) H locs ls hP hD hS (lv_sub hl [1, 2, 3, 0] rfl)
    ·
      exact absurd c2 (by omega)

set_option maxRecDepth 100000 in
set_option maxHeartbeats 4000000 in
/-- shift(sh) -/
theorem b_shift (l : Launch) (dC : Nat → ClassId) (dI : Nat → Nat → Nat) {cI : ClassId} {tys : List (ClassId × FieldType)} (ht : tys[0]? = some (cI, .int)) {ws : va_W} {k0 k1 h a X : Nat} {F : Nat → Nat} (hw : isB ws k0 k1 h a cI (dn X : Int) F) (hd : dgo X F) (hX0 : X ≠ 0) (sh : Nat) (hsh : dn X + sh / 16 ≤ 637) : ef_C l ry_B_shift rw_B_shift ({ frames := 1, cells := 0, slots := 0, locals := 27 } : Room) [.ref h, .int (iv ((sh : Int)))] (dC, dI) vwCl tys ws (fun o w1 => o = none ∧ ∃ F2 : Nat → Nat, w1 = bW ws k0 k1 h a cI (dn (X * 2 ^ sh) : Int) F2 ∧ dgo (X * 2 ^ sh) F2) := by
  refine ef_C.of (cc := rc_B_shift) (maxL := 5) (ret := none) (by decide) rfl (Nat.le_of_ble_eq_true rfl) ?_
  intro p e s m below meth c ls hx hb hml hr hts hown hlocks hK hNX hP hD hS hl
  have hl : lv_has ls 5 [(0, .ref h), (1, .int (iv ((sh : Int))))] := hl
  have hown : s.vm.findClass rR3 = some m.cls := hown
  generalize hH : s.heap = H at hP ⊢
  have hS : va_S (ef_A ws) s.heap H [] := by rw [← hH]; exact hS
  generalize ([] : List Loc) = locs at hS ⊢
  have hw0 := hw
  have hP := egP0 hw0 hP
  have hD := egD0 hw0 hD
  have hw : isB (bW ws k0 k1 h a cI ((dn X : Int)) (F)) k0 k1 h a cI ((dn X : Int)) (F) := hw0.w _ _
  have hn0 : dn X ≠ 0 := fun q => hX0 (dn_0.1 q)
  refine lv_iload_n hx hb rd_B_shift_0 rfl (lv_at hl 1 rfl) ?_
  refine lv_bipush (v := iv (16)) hx hb rd_B_shift_1 (by decide) ?_
  refine iw_idiv16 hx hb (by omega) rd_B_shift_3 ?_
  refine lv_istore_n (lv' := [(2, .int (iv (((sh / 16 : Nat) : Int)))), (0, .ref h), (1, .int (iv ((sh : Int))))]) hx hb rd_B_shift_4 rfl hl (by decide) rfl (fun ls hl => ?_)
  refine lv_iload_n hx hb rd_B_shift_5 rfl (lv_at hl 2 rfl) ?_
  refine lv_bipush (v := iv (16)) hx hb rd_B_shift_6 (by decide) ?_
  refine iw_irem16 hx hb (by omega) rd_B_shift_8 ?_
  obtain ⟨pq, hpq⟩ : ∃ q, q = sh / 16 := ⟨_, rfl⟩
  obtain ⟨rq, hrq⟩ : ∃ q, q = sh % 16 := ⟨_, rfl⟩
  rw [← hrq]
  rw [← hpq] at hl
  refine lv_istore_n (lv' := [(3, .int (iv ((rq : Int)))), (2, .int (iv ((pq : Int)))), (0, .ref h), (1, .int (iv ((sh : Int))))]) hx hb rd_B_shift_9 rfl hl (by decide) rfl (fun ls hl => ?_)
  refine lv_aload_n hx hb rd_B_shift_10 rfl (lv_at hl 2 rfl) ?_
  refine va_get (D := (dC, dI)) (ci := 3) (v := .int (iv ((dn X : Int)))) (C := rR3) (T := rT3) (N := 2) hx hb hts (fun w h => List.mem_cons_of_mem _ (rin3 w h)) hown hK hP k0 hw.2.1 rfl 1 (by decide) (hts _ (List.mem_cons_of_mem _ rm_268)) (fun _ h9 => h9) rfl rd_B_shift_11 ?_
  refine iw_if_ne (tgt := 18) hx hb rd_B_shift_14 (by decide) ⟨by omega, by omega⟩ (fun c1 => ?_) (fun c1 => ?_)
  ·
    refine lv_aload_n hx hb rd_B_shift_18 rfl (lv_at hl 2 rfl) ?_
    refine va_get (D := (dC, dI)) (ci := 3) (v := .int (iv ((dn X : Int)))) (C := rR3) (T := rT3) (N := 2) hx hb hts (fun w h => List.mem_cons_of_mem _ (rin3 w h)) hown hK hP k0 hw.2.1 rfl 1 (by decide) (hts _ (List.mem_cons_of_mem _ rm_268)) (fun _ h9 => h9) rfl rd_B_shift_19 ?_
    refine lv_iconst (v := iv (1)) hx hb rd_B_shift_22 (by decide) ?_
    refine iw_isub hx hb rd_B_shift_23 ?_
    refine lv_istore (lv' := [(4, .int (iv (((dn X : Int)) - (1)))), (3, .int (iv ((rq : Int)))), (2, .int (iv ((pq : Int)))), (0, .ref h), (1, .int (iv ((sh : Int))))]) hx hb rd_B_shift_24 hl (by decide) rfl (fun ls hl => ?_)
    have loop : ∀ (fuel : Nat) (n : Nat) (K : Nat → Nat), (n ≤ dn X) → (∀ j, j < n → K j = F j) → (∀ j, n ≤ j → j < dn X → K (j + pq) = F j) → (n < fuel) → ∀ (H : Heap) (locs : List Loc) (ls : Array Slot), va_P (dC, dI) vwCl (bW ws k0 k1 h a cI ((dn X : Int)) K) H → va_D (ef_A ws) (bW ws k0 k1 h a cI ((dn X : Int)) K) → va_S (ef_A ws) s.heap H locs → lv_has ls 5 [(0, .ref h), (1, .int (iv ((sh : Int)))), (2, .int (iv ((pq : Int)))), (3, .int (iv ((rq : Int)))), (4, .int (iv ((n : Int) - 1)))] → W p l e ({ frames := 1, cells := 0, slots := 0, locals := 27 } : Room) s m ([.ref h, .int (iv ((sh : Int)))] : List Value).toArray below meth c H locs 0 0 (ef_R below (dC, dI) vwCl ws (fun o w1 => o = none ∧ ∃ F2 : Nat → Nat, w1 = bW ws k0 k1 h a cI (dn (X * 2 ^ sh) : Int) F2 ∧ dgo (X * 2 ^ sh) F2) [.ref h, .int (iv ((sh : Int)))] s) (F0 m 26 ls []) := by
      intro fuel
      induction fuel with
      | zero => intro n K h1 h2 h3 h5; exfalso; omega
      | succ fuel ih =>
        intro n K h1 h2 h3 h5 H locs ls hP hD hS hl
        have hw : isB (bW ws k0 k1 h a cI ((dn X : Int)) (K)) k0 k1 h a cI ((dn X : Int)) (K) := hw0.w _ _
        refine lv_iload hx hb rd_B_shift_26 (lv_at hl 4 rfl) ?_
        refine iw_if_lt (tgt := 53) hx hb rd_B_shift_28 (by decide) ⟨by omega, by omega⟩ (fun c2 => ?_) (fun c2 => ?_)
        ·
          have hn9 : n = 0 := by omega
          subst hn9
          refine lv_iconst (v := iv (0)) hx hb rd_B_shift_53 (by decide) ?_
          refine lv_istore (lv' := [(4, .int (iv (0))), (0, .ref h), (1, .int (iv ((sh : Int)))), (2, .int (iv ((pq : Int)))), (3, .int (iv ((rq : Int))))]) hx hb rd_B_shift_54 hl (by decide) rfl (fun ls hl => ?_)
          have loop2 : ∀ (fuel : Nat) (i : Nat) (V : Nat → Nat), (i ≤ pq) → (∀ j, j < i → V j = 0) → (∀ j, j < dn X → V (j + pq) = F j) → (pq < i + fuel) → ∀ (H : Heap) (locs : List Loc) (ls : Array Slot), va_P (dC, dI) vwCl (bW ws k0 k1 h a cI ((dn X : Int)) V) H → va_D (ef_A ws) (bW ws k0 k1 h a cI ((dn X : Int)) V) → va_S (ef_A ws) s.heap H locs → lv_has ls 5 [(0, .ref h), (1, .int (iv ((sh : Int)))), (2, .int (iv ((pq : Int)))), (3, .int (iv ((rq : Int)))), (4, .int (iv ((i : Int))))] → W p l e ({ frames := 1, cells := 0, slots := 0, locals := 27 } : Room) s m ([.ref h, .int (iv ((sh : Int)))] : List Value).toArray below meth c H locs 0 0 (ef_R below (dC, dI) vwCl ws (fun o w1 => o = none ∧ ∃ F2 : Nat → Nat, w1 = bW ws k0 k1 h a cI (dn (X * 2 ^ sh) : Int) F2 ∧ dgo (X * 2 ^ sh) F2) [.ref h, .int (iv ((sh : Int)))] s) (F0 m 56 ls []) := by
            intro fuel
            induction fuel with
            | zero => intro i V g1 g2 g3 g5; exfalso; omega
            | succ fuel ih =>
              intro i V g1 g2 g3 g5 H locs ls hP hD hS hl
              have hw : isB (bW ws k0 k1 h a cI ((dn X : Int)) (V)) k0 k1 h a cI ((dn X : Int)) (V) := hw0.w _ _
              refine lv_iload hx hb rd_B_shift_56 (lv_at hl 4 rfl) ?_
              refine lv_iload_n hx hb rd_B_shift_58 rfl (lv_at hl 2 rfl) ?_
              refine iw_icmp_ge (tgt := 76) hx hb rd_B_shift_59 (by decide) ⟨by omega, by omega⟩ ⟨by omega, by omega⟩ (fun c3 => ?_) (fun c3 => ?_)
              ·
                have hi9 : i = pq := by omega
                subst hi9
                have hlt : ∀ j, j < i + dn X → V j < 65536 := fun j hj => by
                  rcases Nat.lt_or_ge j i with q | q
                  · rw [g2 j q]; decide
                  · obtain ⟨r, rfl⟩ : ∃ r, j = r + i := ⟨j - i, by omega⟩
                    rw [g3 r (by omega), hd r (by omega)]; exact dg_lt X r
                have hval : nd V (i + dn X) = X * 2 ^ (16 * i) := nd_shift g2 (fun j hj => by rw [Nat.add_comm, g3 j hj]; exact hd j hj)
                have htop : V (i + dn X - 1) ≠ 0 := by
                  have q := g3 (dn X - 1) (by omega)
                  rw [show dn X - 1 + i = i + dn X - 1 by omega] at q
                  rw [q, hd (dn X - 1) (by omega)]
                  exact dg_top hX0
                have hs := dgo_of hlt (Or.inr htop)
                rw [hval] at hs
                refine lv_aload_n hx hb rd_B_shift_76 rfl (lv_at hl 0 rfl) ?_
                refine lv_aload_n hx hb rd_B_shift_77 rfl (lv_at hl 0 rfl) ?_
                refine va_get (D := (dC, dI)) (ci := 3) (v := .int (iv ((dn X : Int)))) (C := rR3) (T := rT3) (N := 2) hx hb hts (fun w h => List.mem_cons_of_mem _ (rin3 w h)) hown hK hP k0 hw.2.1 rfl 1 (by decide) (hts _ (List.mem_cons_of_mem _ rm_268)) (fun _ h9 => h9) rfl rd_B_shift_78 ?_
                refine lv_iload_n hx hb rd_B_shift_81 rfl (lv_at hl 2 rfl) ?_
                refine iw_iadd hx hb rd_B_shift_82 ?_
                refine iw_topi (y := iv ((dn (X * 2 ^ (16 * i)) : Int))) (congrArg iv (by rw [hs.1]; omega : ((((dn X : Int)) + ((i : Int))) : Int) = ((dn (X * 2 ^ (16 * i)) : Int)))) ?_
                refine va_put (D := (dC, dI)) (ci := 3) (v := .int (iv ((dn (X * 2 ^ (16 * i)) : Int)))) (ty := .int) (C := rR3) (T := rT3) (N := 2) hx hb hts (fun w h => List.mem_cons_of_mem _ (rin3 w h)) rty3 rtyok3 rnm3 hown hK hP hD hS k0 hw.2.1 rfl 1 (by decide) (hts _ (List.mem_cons_of_mem _ rm_268)) (fun _ h9 => h9) rfl (by decide +kernel) rfl rfl (Nat.le_of_ble_eq_true rfl) rd_B_shift_83 (fun H locs hP hD hS => ?_)
                have hP := egPu hw0.1 hP
                have hD := egDu hw0.1 hD
                have hw : isB (bW ws k0 k1 h a cI ((dn (X * 2 ^ (16 * i)) : Int)) (V)) k0 k1 h a cI ((dn (X * 2 ^ (16 * i)) : Int)) (V) := hw0.w _ _
                have h2r : 2 ^ rq ≤ 2 ^ 15 := Nat.pow_le_pow_right (by decide) (by omega)
                have h215 : (2 : Nat) ^ 15 = 32768 := rfl
                have h2p : 0 < 2 ^ rq := Nat.pow_pos (by decide)
                refine lv_aload_n hx hb rd_B_shift_86 rfl (lv_at hl 0 rfl) ?_
                refine lv_iconst (v := iv (1)) hx hb rd_B_shift_87 (by decide) ?_
                refine iw_topi (y := iv (((1 : Nat) : Int))) (congrArg iv (by rfl : ((1) : Int) = (((1 : Nat) : Int)))) ?_
                refine lv_iload_n hx hb rd_B_shift_88 rfl (lv_at hl 3 rfl) ?_
                refine iw_ishlk (a := 1) (k := rq) hx hb (by omega) (by omega) rd_B_shift_89 ?_
                refine iw_topi (y := iv (((2 ^ rq : Nat) : Int))) (congrArg iv (by rw [Nat.one_mul] : ((((1 * 2 ^ rq : Nat) : Int)) : Int) = (((2 ^ rq : Nat) : Int)))) ?_
                refine lv_iconst (v := iv (0)) hx hb rd_B_shift_90 (by decide) ?_
                refine iw_topi (y := iv (((0 : Nat) : Int))) (congrArg iv (by rfl : ((0) : Int) = (((0 : Nat) : Int)))) ?_
                refine ef_callV (As := [.int (iv (((2 ^ rq : Nat) : Int))), .int (iv (((0 : Nat) : Int)))]) (rest := []) ⟨hx, hb, hml, hown, hts⟩ (b_grow l dC dI ht hw hs.2 (by omega) (2 ^ rq) 0 h2p (by omega) (by omega)) (cwV 2 hts (ef_goodV rm_434 rm_357 rm_358 rm_25 rm_359) rfl rfl rfl (by decide +kernel) ⟨Nat.le_of_ble_eq_true rfl, Nat.le_of_ble_eq_true rfl⟩) hK hNX hP hD hS k0 hw.2.1 rfl rfl rfl hl.1 rfl (Nat.le_of_ble_eq_true rfl) rd_B_shift_91 ⟨Nat.zero_le _, Nat.zero_le _⟩ (fun o w1 H locs hq hP hD hS => ?_)
                have hmul : X * 2 ^ (16 * i) * 2 ^ rq + 0 = X * 2 ^ sh := by rw [Nat.add_zero, Nat.mul_assoc, ← Nat.pow_add]; congr 2; omega
                rw [hmul] at hq
                obtain ⟨rfl, F2, rfl, hdn⟩ := hq
                have hP := egP2 hw0.1 hP
                have hD := egD2 hw0.1 hD
                have hw : isB (bW ws k0 k1 h a cI ((dn (X * 2 ^ sh) : Int)) (F2)) k0 k1 h a cI ((dn (X * 2 ^ sh) : Int)) (F2) := hw0.w _ _
                refine W.eq (g2 := F0 m 94 ls []) rfl ?_
                exact ef_vret hx hb hr hlocks hP hD hS rd_B_shift_94 (⟨rfl, F2, rfl, hdn⟩)
              ·
                refine lv_aload_n hx hb rd_B_shift_62 rfl (lv_at hl 0 rfl) ?_
                refine va_get (D := (dC, dI)) (ci := 3) (v := .ref a) (C := rR3) (T := rT3) (N := 2) hx hb hts (fun w h => List.mem_cons_of_mem _ (rin3 w h)) hown hK hP k0 hw.2.1 rfl 0 (by decide) (hts _ (List.mem_cons_of_mem _ rm_266)) (fun _ h9 => h9) rfl rd_B_shift_63 ?_
                refine lv_iload hx hb rd_B_shift_66 (lv_at hl 4 rfl) ?_
                refine lv_iconst (v := iv (0)) hx hb rd_B_shift_68 (by decide) ?_
                refine iw_topi (y := iv (((0 : Nat) : Int))) (congrArg iv (by rfl : ((0) : Int) = (((0 : Nat) : Int)))) ?_
                refine iw_iast (i := i) (v := 0) hx hb hK hP hD hS k1 0 hw.2.2 ht (by omega) (by decide) rd_B_shift_69 (fun H locs hP hD hS => ?_)
                have hP := egPa hP
                have hD := egDa hD
                have hw : isB (bW ws k0 k1 h a cI ((dn X : Int)) (va_up (V) (i) (0))) k0 k1 h a cI ((dn X : Int)) (va_up (V) (i) (0)) := hw0.w _ _
                refine lv_iinc (v := iv (((i + 1 : Nat) : Int))) (lv' := [(4, .int (iv (((i + 1 : Nat) : Int)))), (0, .ref h), (1, .int (iv ((sh : Int)))), (2, .int (iv ((pq : Int)))), (3, .int (iv ((rq : Int))))]) hx hb rd_B_shift_70 hl (k := 4) rfl (iv_inc i) (by decide) rfl (fun ls hl => ?_)
                refine lv_goto (tgt := 56) hx hb rd_B_shift_73 (by decide) ?_
                exact ih (i + 1) (va_up V i 0) (by omega) (fun j hj => by
                      by_cases q : j = i
                      · rw [q, ef_up_at]
                      · rw [ef_up_ne q]; exact g2 j (by omega)) (fun j hj => by rw [ef_up_ne (by omega)]; exact g3 j hj) (by omega) H locs ls hP hD hS (lv_sub hl [1, 2, 3, 4, 0] rfl)
          exact loop2 (pq + 1) (0) (K) (Nat.zero_le _) (fun j hj => absurd hj (by omega)) (fun j hj => h3 j (Nat.zero_le _) hj) (by omega) H locs ls hP hD hS (lv_sub hl [1, 2, 3, 4, 0] rfl)
        ·
          obtain ⟨r, rfl⟩ : ∃ r : Nat, n = r + 1 := ⟨n - 1, by omega⟩
          refine lv_aload_n hx hb rd_B_shift_31 rfl (lv_at hl 0 rfl) ?_
          refine va_get (D := (dC, dI)) (ci := 3) (v := .ref a) (C := rR3) (T := rT3) (N := 2) hx hb hts (fun w h => List.mem_cons_of_mem _ (rin3 w h)) hown hK hP k0 hw.2.1 rfl 0 (by decide) (hts _ (List.mem_cons_of_mem _ rm_266)) (fun _ h9 => h9) rfl rd_B_shift_32 ?_
          refine lv_iload hx hb rd_B_shift_35 (lv_at hl 4 rfl) ?_
          refine lv_iload_n hx hb rd_B_shift_37 rfl (lv_at hl 2 rfl) ?_
          refine iw_iadd hx hb rd_B_shift_38 ?_
          refine iw_topi (y := iv (((r + pq : Nat) : Int))) (congrArg iv (by omega : (((((r + 1 : Nat) : Int) - 1) + ((pq : Int))) : Int) = (((r + pq : Nat) : Int)))) ?_
          refine lv_aload_n hx hb rd_B_shift_39 rfl (lv_at hl 0 rfl) ?_
          refine va_get (D := (dC, dI)) (ci := 3) (v := .ref a) (C := rR3) (T := rT3) (N := 2) hx hb hts (fun w h => List.mem_cons_of_mem _ (rin3 w h)) hown hK hP k0 hw.2.1 rfl 0 (by decide) (hts _ (List.mem_cons_of_mem _ rm_266)) (fun _ h9 => h9) rfl rd_B_shift_40 ?_
          refine lv_iload hx hb rd_B_shift_43 (lv_at hl 4 rfl) ?_
          refine iw_topi (y := iv ((r : Int))) (congrArg iv (by omega : ((((r + 1 : Nat) : Int) - 1) : Int) = ((r : Int)))) ?_
          refine iw_iald (i := r) hx hb hK hP k1 0 hw.2.2 ht (by omega) (by decide) rd_B_shift_45 ?_
          refine iw_iast (i := r + pq) (v := K r) hx hb hK hP hD hS k1 0 hw.2.2 ht (by omega) (by decide) rd_B_shift_46 (fun H locs hP hD hS => ?_)
          have hP := egPa hP
          have hD := egDa hD
          have hw : isB (bW ws k0 k1 h a cI ((dn X : Int)) (va_up (K) (r + pq) (K r))) k0 k1 h a cI ((dn X : Int)) (va_up (K) (r + pq) (K r)) := hw0.w _ _
          refine lv_iinc (v := iv ((r : Int) - 1)) (lv' := [(4, .int (iv ((r : Int) - 1))), (0, .ref h), (1, .int (iv ((sh : Int)))), (2, .int (iv ((pq : Int)))), (3, .int (iv ((rq : Int))))]) hx hb rd_B_shift_47 hl (k := 4) rfl (by rw [show ((r + 1 : Nat) : Int) - 1 = (r : Int) by omega]; exact iv_add (r : Int) (-1)) (by decide) rfl (fun ls hl => ?_)
          refine lv_goto (tgt := 26) hx hb rd_B_shift_50 (by decide) ?_
          exact ih (r) (va_up K (r + pq) (K r)) (by omega) (fun j hj => by rw [ef_up_ne (by omega)]; exact h2 j (by omega)) (fun j q1 q2 => by
                by_cases q : j = r
                · rw [q, ef_up_at]; exact h2 r (by omega)
                · rw [ef_up_ne (by omega)]; exact h3 j (by omega) q2) (by omega) H locs ls hP hD hS (lv_sub hl [1, 2, 3, 4, 0] rfl)
    exact loop (dn X + 1) (dn X) (F) (Nat.le_refl _) (fun j _ => rfl) (fun j q1 q2 => absurd q2 (by omega)) (by omega) H locs ls hP hD hS (lv_sub hl [3, 4, 2, 1, 0] rfl)
  ·
    exact absurd c1 (by omega)
