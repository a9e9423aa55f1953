set_option maxRecDepth 100000 in
set_option maxHeartbeats 4000000 in
/-- trim -/
theorem b_trim (l : Launch) (dC : Nat → ClassId) (dI : Nat → Nat → Nat) {cI : ClassId} {tys : List (ClassId × FieldType)} (ht : tys[0]? = some (cI, .int)) {ws : va_W} {k0 k1 h a n : Nat} {F : Nat → Nat} (hw : isB ws k0 k1 h a cI (n : Int) F) (hn : n ≤ 640) (hF : ∀ j, j < n → F j < 65536) : ef_C l ry_B_trim rw_B_trim ({ frames := 0, cells := 0, slots := 0, locals := 0 } : Room) [.ref h] (dC, dI) vwCl tys ws (fun o w1 => o = none ∧ w1 = bW ws k0 k1 h a cI (dn (nd F n) : Int) F ∧ dgo (nd F n) F) := by
  refine ef_C.of (cc := rc_B_trim) (maxL := 1) (ret := none) (by decide) rfl (Nat.le_of_ble_eq_true rfl) ?_
  intro p e s m below meth c ls hx hb hml hr hts hown hlocks hK hNX hP hD hS hl
  have hl : lv_has ls 1 [(0, .ref h)] := hl
  have hown : s.vm.findClass rR3 = some m.cls := hown
  generalize hH : s.heap = H at hP ⊢
  have hS : va_S (ef_A ws) s.heap H [] := by rw [← hH]; exact hS
  generalize ([] : List Loc) = locs at hS ⊢
  have hw0 := hw
  have hP := egP0 hw0 hP
  have hD := egD0 hw0 hD
  have hw : isB (bW ws k0 k1 h a cI ((n : Int)) (F)) k0 k1 h a cI ((n : Int)) (F) := hw0.w _ _
  have loop : ∀ (fuel : Nat) (q : Nat), (q ≤ n) → (∀ j, q ≤ j → j < n → F j = 0) → (q < fuel) → ∀ (H : Heap) (locs : List Loc) (ls : Array Slot), va_P (dC, dI) vwCl (bW ws k0 k1 h a cI ((q : Int)) F) H → va_D (ef_A ws) (bW ws k0 k1 h a cI ((q : Int)) F) → va_S (ef_A ws) s.heap H locs → lv_has ls 1 [(0, .ref h)] → W p l e ({ frames := 0, cells := 0, slots := 0, locals := 0 } : Room) s m ([.ref h] : List Value).toArray below meth c H locs 0 0 (ef_R below (dC, dI) vwCl ws (fun o w1 => o = none ∧ w1 = bW ws k0 k1 h a cI (dn (nd F n) : Int) F ∧ dgo (nd F n) F) [.ref h] s) (F0 m 0 ls []) := by
    intro fuel
    induction fuel with
    | zero => intro q h1 h2 h3; exfalso; omega
    | succ fuel ih =>
      intro q h1 h2 h3 H locs ls hP hD hS hl
      have hw : isB (bW ws k0 k1 h a cI ((q : Int)) (F)) k0 k1 h a cI ((q : Int)) (F) := hw0.w _ _
      refine lv_aload_n hx hb rd_B_trim_0 rfl (lv_at hl 0 rfl) ?_
      refine va_get (D := (dC, dI)) (ci := 3) (v := .int (iv ((q : Int)))) (C := rR3) (T := rT3) (N := 2) hx hb hts (fun w h => List.mem_cons_of_mem _ (rin3 w h)) hown hK hP k0 hw.2.1 rfl 1 (by decide) (hts _ (List.mem_cons_of_mem _ rm_268)) (fun _ h9 => h9) rfl rd_B_trim_1 ?_
      refine iw_if_le (tgt := 34) hx hb rd_B_trim_4 (by decide) ⟨by omega, by omega⟩ (fun c1 => ?_) (fun c1 => ?_)
      ·
        have e9 : nd F n = nd F (q) := by
          have := nd_zero (F := F) (k := q) (n := n - (q)) (fun j q1 q2 => h2 j q1 (by omega))
          rw [show q + (n - (q)) = n by omega] at this
          exact this
        have hs := dgo_of (F := F) (n := q) (fun j hj => hF j (by omega)) (Or.inl (by omega))
        exact ef_vret hx hb hr hlocks hP hD hS rd_B_trim_34 (by rw [e9]; exact ⟨rfl, by rw [hs.1], hs.2⟩)
      ·
        obtain ⟨r, rfl⟩ : ∃ r : Nat, q = r + 1 := ⟨q - 1, by omega⟩
        refine lv_aload_n hx hb rd_B_trim_7 rfl (lv_at hl 0 rfl) ?_
        refine va_get (D := (dC, dI)) (ci := 3) (v := .ref a) (C := rR3) (T := rT3) (N := 2) hx hb hts (fun w h => List.mem_cons_of_mem _ (rin3 w h)) hown hK hP k0 hw.2.1 rfl 0 (by decide) (hts _ (List.mem_cons_of_mem _ rm_266)) (fun _ h9 => h9) rfl rd_B_trim_8 ?_
        refine lv_aload_n hx hb rd_B_trim_11 rfl (lv_at hl 0 rfl) ?_
        refine va_get (D := (dC, dI)) (ci := 3) (v := .int (iv (((r + 1 : Nat) : Int)))) (C := rR3) (T := rT3) (N := 2) hx hb hts (fun w h => List.mem_cons_of_mem _ (rin3 w h)) hown hK hP k0 hw.2.1 rfl 1 (by decide) (hts _ (List.mem_cons_of_mem _ rm_268)) (fun _ h9 => h9) rfl rd_B_trim_12 ?_
        refine lv_iconst (v := iv (1)) hx hb rd_B_trim_15 (by decide) ?_
        refine iw_isub hx hb rd_B_trim_16 ?_
        refine iw_topi (y := iv ((r : Int))) (congrArg iv (by omega : (((((r + 1 : Nat) : Int)) - (1)) : Int) = ((r : Int)))) ?_
        refine iw_iald (i := r) hx hb hK hP k1 0 hw.2.2 ht (by omega) (by decide) rd_B_trim_17 ?_
        have hFr := hF r (by omega)
        refine iw_ifu_ne (tgt := 34) hx hb rd_B_trim_18 (by decide) (by omega) (by omega) (fun c3 => ?_) (fun c3 => ?_)
        ·
          have e9 : nd F n = nd F (r + 1) := by
            have := nd_zero (F := F) (k := r + 1) (n := n - (r + 1)) (fun j q1 q2 => h2 j q1 (by omega))
            rw [show r + 1 + (n - (r + 1)) = n by omega] at this
            exact this
          have hs := dgo_of (F := F) (n := r + 1) (fun j hj => hF j (by omega)) (Or.inr (by rw [show r + 1 - 1 = r by omega]; omega))
          exact ef_vret hx hb hr hlocks hP hD hS rd_B_trim_34 (by rw [e9]; exact ⟨rfl, by rw [hs.1], hs.2⟩)
        ·
          refine lv_aload_n hx hb rd_B_trim_21 rfl (lv_at hl 0 rfl) ?_
          refine lv_dup hx hb rd_B_trim_22 rfl ?_
          refine va_get (D := (dC, dI)) (ci := 3) (v := .int (iv (((r + 1 : Nat) : Int)))) (C := rR3) (T := rT3) (N := 2) hx hb hts (fun w h => List.mem_cons_of_mem _ (rin3 w h)) hown hK hP k0 hw.2.1 rfl 1 (by decide) (hts _ (List.mem_cons_of_mem _ rm_268)) (fun _ h9 => h9) rfl rd_B_trim_23 ?_
          refine lv_iconst (v := iv (1)) hx hb rd_B_trim_26 (by decide) ?_
          refine iw_isub hx hb rd_B_trim_27 ?_
          refine iw_topi (y := iv ((r : Int))) (congrArg iv (by omega : (((((r + 1 : Nat) : Int)) - (1)) : Int) = ((r : Int)))) ?_
          refine va_put (D := (dC, dI)) (ci := 3) (v := .int (iv ((r : Int)))) (ty := .int) (C := rR3) (T := rT3) (N := 2) hx hb hts (fun w h => List.mem_cons_of_mem _ (rin3 w h)) rty3 rtyok3 rnm3 hown hK hP hD hS k0 hw.2.1 rfl 1 (by decide) (hts _ (List.mem_cons_of_mem _ rm_268)) (fun _ h9 => h9) rfl (by decide +kernel) rfl rfl (Nat.le_of_ble_eq_true rfl) rd_B_trim_28 (fun H locs hP hD hS => ?_)
          have hP := egPu hw0.1 hP
          have hD := egDu hw0.1 hD
          have hw : isB (bW ws k0 k1 h a cI ((r : Int)) (F)) k0 k1 h a cI ((r : Int)) (F) := hw0.w _ _
          refine lv_goto (tgt := 0) hx hb rd_B_trim_31 (by decide) ?_
          exact ih (r) (by omega) (fun j q1 q2 => by rcases Nat.lt_or_ge r j with q3 | q3; exact h2 j (by omega) q2; rw [show j = r by omega]; omega) (by omega) H locs ls hP hD hS (lv_sub hl [0] rfl)
  exact loop (n + 1) (n) (Nat.le_refl _) (fun j q1 q2 => absurd q2 (by omega)) (by omega) H locs ls hP hD hS (lv_sub hl [0] rfl)

set_option maxRecDepth 100000 in
set_option maxHeartbeats 4000000 in
/-- set(v), v without sign -/
theorem b_set (l : Launch) (dC : Nat → ClassId) (dI : Nat → Nat → Nat) {cI : ClassId} {tys : List (ClassId × FieldType)} (ht : tys[0]? = some (cI, .int)) {ws : va_W} {k0 k1 h a n : Nat} {F : Nat → Nat} (hw : isB ws k0 k1 h a cI (n : Int) F) (v : Nat) (hv : v < 18446744073709551616) : ef_C l ry_B_set rw_B_set ({ frames := 0, cells := 0, slots := 0, locals := 0 } : Room) [.ref h, .long (jv ((v : Int)))] (dC, dI) vwCl tys ws (fun o w1 => o = none ∧ ∃ F2 : Nat → Nat, w1 = bW ws k0 k1 h a cI (dn (v) : Int) F2 ∧ dgo (v) F2) := by
  refine ef_C.of (cc := rc_B_set) (maxL := 5) (ret := none) (by decide) rfl (Nat.le_of_ble_eq_true rfl) ?_
  intro p e s m below meth c ls hx hb hml hr hts hown hlocks hK hNX hP hD hS hl
  have hl : lv_has ls 5 [(0, .ref h), (1, .long (jv ((v : Int))))] := hl
  have hown : s.vm.findClass rR3 = some m.cls := hown
  generalize hH : s.heap = H at hP ⊢
  have hS : va_S (ef_A ws) s.heap H [] := by rw [← hH]; exact hS
  generalize ([] : List Loc) = locs at hS ⊢
  have hw0 := hw
  have hP := egP0 hw0 hP
  have hD := egD0 hw0 hD
  have hw : isB (bW ws k0 k1 h a cI ((n : Int)) (F)) k0 k1 h a cI ((n : Int)) (F) := hw0.w _ _
  refine lv_aload_n hx hb rd_B_set_0 rfl (lv_at hl 0 rfl) ?_
  refine lv_iconst (v := iv (0)) hx hb rd_B_set_1 (by decide) ?_
  refine va_put (D := (dC, dI)) (ci := 3) (v := .int (iv (0))) (ty := .int) (C := rR3) (T := rT3) (N := 2) hx hb hts (fun w h => List.mem_cons_of_mem _ (rin3 w h)) rty3 rtyok3 rnm3 hown hK hP hD hS k0 hw.2.1 rfl 1 (by decide) (hts _ (List.mem_cons_of_mem _ rm_268)) (fun _ h9 => h9) rfl (by decide +kernel) rfl rfl (Nat.le_of_ble_eq_true rfl) rd_B_set_2 (fun H locs hP hD hS => ?_)
  have hP := egPu hw0.1 hP
  have hD := egDu hw0.1 hD
  have hw : isB (bW ws k0 k1 h a cI (0) (F)) k0 k1 h a cI (0) (F) := hw0.w _ _
  have hv4 : dn v ≤ 4 := dn_le (by show v < 2 ^ (16 * 4); omega)
  refine lv_lload_n hx hb rd_B_set_5 rfl (lv_at hl 1 rfl) ?_
  refine iw_topl (y := jv (((v / 2 ^ (16 * 0) : Nat) : Int))) (congrArg jv (by rw [Nat.mul_zero, Nat.pow_zero, Nat.div_one] : (((v : Int)) : Int) = (((v / 2 ^ (16 * 0) : Nat) : Int)))) ?_
  refine lv_lstore_n (lv' := [(3, .long (jv (((v / 2 ^ (16 * 0) : Nat) : Int)))), (0, .ref h), (1, .long (jv ((v : Int))))]) hx hb rd_B_set_6 rfl hl (by decide) rfl (fun ls hl => ?_)
  have loop : ∀ (fuel : Nat) (i : Nat) (G : Nat → Nat), (i ≤ dn v) → (∀ j, j < i → G j = dg v j) → (dn v < i + fuel) → ∀ (H : Heap) (locs : List Loc) (ls : Array Slot), va_P (dC, dI) vwCl (bW ws k0 k1 h a cI ((i : Int)) G) H → va_D (ef_A ws) (bW ws k0 k1 h a cI ((i : Int)) G) → va_S (ef_A ws) s.heap H locs → lv_has ls 5 [(0, .ref h), (1, .long (jv ((v : Int)))), (3, .long (jv (((v / 2 ^ (16 * i) : Nat) : Int))))] → W p l e ({ frames := 0, cells := 0, slots := 0, locals := 0 } : Room) s m ([.ref h, .long (jv ((v : Int)))] : List Value).toArray below meth c H locs 0 0 (ef_R below (dC, dI) vwCl ws (fun o w1 => o = none ∧ ∃ F2 : Nat → Nat, w1 = bW ws k0 k1 h a cI (dn (v) : Int) F2 ∧ dgo (v) F2) [.ref h, .long (jv ((v : Int)))] s) (F0 m 7 ls []) := by
    intro fuel
    induction fuel with
    | zero => intro i G h1 h2 h3; exfalso; omega
    | succ fuel ih =>
      intro i G h1 h2 h3 H locs ls hP hD hS hl
      have hw : isB (bW ws k0 k1 h a cI ((i : Int)) (G)) k0 k1 h a cI ((i : Int)) (G) := hw0.w _ _
      have hle : v / 2 ^ (16 * i) ≤ v := Nat.div_le_self _ _
      have hdd := dg_div v i
      obtain ⟨x, hx9⟩ : ∃ x, x = v / 2 ^ (16 * i) := ⟨_, rfl⟩
      rw [← hx9] at hl hle hdd
      refine lv_lload_n hx hb rd_B_set_7 rfl (lv_at hl 2 rfl) ?_
      refine lv_lconst (v := jv (0)) hx hb rd_B_set_8 (by decide) ?_
      refine W.lcmp hx hb rd_B_set_9 ?_
      refine lv_if_eq (tgt := 46) hx hb rd_B_set_10 (by decide) (fun c1 => ?_) (fun c1 => ?_)
      ·
        have hx0 := (lcmp0 (by omega)).1 c1
        have hi : dn v ≤ i := dn_le (by
          rcases Nat.lt_or_ge v (2 ^ (16 * i)) with q | q
          · exact q
          · have := Nat.div_pos q (p16_pos i); omega)
        have hi2 : i = dn v := by omega
        subst hi2
        exact ef_vret hx hb hr hlocks hP hD hS rd_B_set_46 (⟨rfl, G, rfl, h2⟩)
      ·
        have hx0 : x ≠ 0 := fun q => c1 ((lcmp0 (by omega)).2 q)
        have hi : i < dn v := by
          rcases Nat.lt_or_ge i (dn v) with q | q
          · exact q
          · rw [Nat.div_eq_of_lt (Nat.lt_of_lt_of_le (dn_lt v) (Nat.pow_le_pow_right (by decide) (by omega)))] at hx9; omega
        have hdi : dg v i = x % 65536 := by rw [hx9]; rfl
        refine lv_aload_n hx hb rd_B_set_13 rfl (lv_at hl 0 rfl) ?_
        refine va_get (D := (dC, dI)) (ci := 3) (v := .ref a) (C := rR3) (T := rT3) (N := 2) hx hb hts (fun w h => List.mem_cons_of_mem _ (rin3 w h)) hown hK hP k0 hw.2.1 rfl 0 (by decide) (hts _ (List.mem_cons_of_mem _ rm_266)) (fun _ h9 => h9) rfl rd_B_set_14 ?_
        refine lv_aload_n hx hb rd_B_set_17 rfl (lv_at hl 0 rfl) ?_
        refine va_get (D := (dC, dI)) (ci := 3) (v := .int (iv ((i : Int)))) (C := rR3) (T := rT3) (N := 2) hx hb hts (fun w h => List.mem_cons_of_mem _ (rin3 w h)) hown hK hP k0 hw.2.1 rfl 1 (by decide) (hts _ (List.mem_cons_of_mem _ rm_268)) (fun _ h9 => h9) rfl rd_B_set_18 ?_
        refine lv_lload_n hx hb rd_B_set_21 rfl (lv_at hl 2 rfl) ?_
        refine lv_ldc2 (v := 65535) hx hb hown (hts _ (List.mem_cons_of_mem _ rm_309)) rd_B_set_22 ?_
        refine iw_land16 hx hb rd_B_set_25 ?_
        refine iw_l2i hx hb rd_B_set_26 ?_
        refine iw_topi (y := iv (((dg v i : Nat) : Int))) (congrArg iv (by omega : ((((x : Int)) % 65536) : Int) = (((dg v i : Nat) : Int)))) ?_
        refine iw_iast (i := i) (v := dg v i) hx hb hK hP hD hS k1 0 hw.2.2 ht (by omega) (by decide) rd_B_set_27 (fun H locs hP hD hS => ?_)
        have hP := egPa hP
        have hD := egDa hD
        have hw : isB (bW ws k0 k1 h a cI ((i : Int)) (va_up (G) (i) (dg v i))) k0 k1 h a cI ((i : Int)) (va_up (G) (i) (dg v i)) := hw0.w _ _
        refine lv_aload_n hx hb rd_B_set_28 rfl (lv_at hl 0 rfl) ?_
        refine lv_dup hx hb rd_B_set_29 rfl ?_
        refine va_get (D := (dC, dI)) (ci := 3) (v := .int (iv ((i : Int)))) (C := rR3) (T := rT3) (N := 2) hx hb hts (fun w h => List.mem_cons_of_mem _ (rin3 w h)) hown hK hP k0 hw.2.1 rfl 1 (by decide) (hts _ (List.mem_cons_of_mem _ rm_268)) (fun _ h9 => h9) rfl rd_B_set_30 ?_
        refine lv_iconst (v := iv (1)) hx hb rd_B_set_33 (by decide) ?_
        refine iw_iadd hx hb rd_B_set_34 ?_
        refine iw_topi (y := iv (((i + 1 : Nat) : Int))) (congrArg iv (by omega : ((((i : Int)) + (1)) : Int) = (((i + 1 : Nat) : Int)))) ?_
        refine va_put (D := (dC, dI)) (ci := 3) (v := .int (iv (((i + 1 : Nat) : Int)))) (ty := .int) (C := rR3) (T := rT3) (N := 2) hx hb hts (fun w h => List.mem_cons_of_mem _ (rin3 w h)) rty3 rtyok3 rnm3 hown hK hP hD hS k0 hw.2.1 rfl 1 (by decide) (hts _ (List.mem_cons_of_mem _ rm_268)) (fun _ h9 => h9) rfl (by decide +kernel) rfl rfl (Nat.le_of_ble_eq_true rfl) rd_B_set_35 (fun H locs hP hD hS => ?_)
        have hP := egPu hw0.1 hP
        have hD := egDu hw0.1 hD
        have hw : isB (bW ws k0 k1 h a cI (((i + 1 : Nat) : Int)) (va_up (G) (i) (dg v i))) k0 k1 h a cI (((i + 1 : Nat) : Int)) (va_up (G) (i) (dg v i)) := hw0.w _ _
        refine lv_lload_n hx hb rd_B_set_38 rfl (lv_at hl 2 rfl) ?_
        refine lv_bipush (v := iv (16)) hx hb rd_B_set_39 (by decide) ?_
        refine iw_topi (y := iv (((16 : Nat) : Int))) (congrArg iv (by omega : ((16) : Int) = (((16 : Nat) : Int)))) ?_
        refine iw_lushrk (z := x) (k := 16) hx hb (by omega) (by decide) rd_B_set_41 ?_
        refine iw_topl (y := jv (((v / 2 ^ (16 * (i + 1)) : Nat) : Int))) (congrArg jv (by rw [hx9, p16, ← Nat.div_div_eq_div_mul] : ((((x / 2 ^ 16 : Nat) : Int)) : Int) = (((v / 2 ^ (16 * (i + 1)) : Nat) : Int)))) ?_
        refine lv_lstore_n (lv' := [(3, .long (jv (((v / 2 ^ (16 * (i + 1)) : Nat) : Int)))), (0, .ref h), (1, .long (jv ((v : Int))))]) hx hb rd_B_set_42 rfl hl (by decide) rfl (fun ls hl => ?_)
        refine lv_goto (tgt := 7) hx hb rd_B_set_43 (by decide) ?_
        exact ih (i + 1) (va_up G i (dg v i)) (by omega) (fun j hj => by
              by_cases q : j = i
              · rw [q, ef_up_at]
              · rw [ef_up_ne q]; exact h2 j (by omega)) (by omega) H locs ls hP hD hS (lv_sub hl [1, 2, 0] rfl)
  exact loop (6) (0) (F) (Nat.zero_le _) (fun j hj => absurd hj (by omega)) (by omega) H locs ls hP hD hS (lv_sub hl [1, 2, 0] rfl)

set_option maxRecDepth 100000 in
set_option maxHeartbeats 4000000 in
/-- copy -/
theorem b_copy (l : Launch) (dC : Nat → ClassId) (dI : Nat → Nat → Nat) {cI : ClassId} {tys : List (ClassId × FieldType)} (ht : tys[0]? = some (cI, .int)) {ws : va_W} {k0 k1 h a n : Nat} {F : Nat → Nat} (hw : isB ws k0 k1 h a cI (n : Int) F) {j0 j1 g b Y : Nat} {G : Nat → Nat} (ho : isB ws j0 j1 g b cI (dn Y : Int) G) (hdo : dgo Y G) (hY : dn Y ≤ 640) (hoa : apt k0 k1 j0 j1) : ef_C l ry_B_copy rw_B_copy ({ frames := 0, cells := 0, slots := 0, locals := 0 } : Room) [.ref h, .ref g] (dC, dI) vwCl tys ws (fun o w1 => o = none ∧ ∃ F2 : Nat → Nat, w1 = bW ws k0 k1 h a cI (dn (Y) : Int) F2 ∧ dgo (Y) F2) := by
  refine ef_C.of (cc := rc_B_copy) (maxL := 3) (ret := none) (by decide) rfl (Nat.le_of_ble_eq_true rfl) ?_
  intro p e s m below meth c ls hx hb hml hr hts hown hlocks hK hNX hP hD hS hl
  have hl : lv_has ls 3 [(0, .ref h), (1, .ref g)] := hl
  have hown : s.vm.findClass rR3 = some m.cls := hown
  generalize hH : s.heap = H at hP ⊢
  have hS : va_S (ef_A ws) s.heap H [] := by rw [← hH]; exact hS
  generalize ([] : List Loc) = locs at hS ⊢
  have hw0 := hw
  have ho0 := ho
  have hP := egP0 hw0 hP
  have hD := egD0 hw0 hD
  have hw : isB (bW ws k0 k1 h a cI ((n : Int)) (F)) k0 k1 h a cI ((n : Int)) (F) := hw0.w _ _
  have ho := ho0.o hoa (bo h a ((n : Int))) (ba cI a (F))
  refine lv_aload_n hx hb rd_B_copy_0 rfl (lv_at hl 0 rfl) ?_
  refine lv_aload_n hx hb rd_B_copy_1 rfl (lv_at hl 1 rfl) ?_
  refine va_get (D := (dC, dI)) (ci := 3) (v := .int (iv ((dn Y : Int)))) (C := rR3) (T := rT3) (N := 2) hx hb hts (fun w h => List.mem_cons_of_mem _ (rin3 w h)) hown hK hP j0 ho.2.1 rfl 1 (by decide) (hts _ (List.mem_cons_of_mem _ rm_268)) (fun _ h9 => h9) rfl rd_B_copy_2 ?_
  refine va_put (D := (dC, dI)) (ci := 3) (v := .int (iv ((dn Y : Int)))) (ty := .int) (C := rR3) (T := rT3) (N := 2) hx hb hts (fun w h => List.mem_cons_of_mem _ (rin3 w h)) rty3 rtyok3 rnm3 hown hK hP hD hS k0 hw.2.1 rfl 1 (by decide) (hts _ (List.mem_cons_of_mem _ rm_268)) (fun _ h9 => h9) rfl (by decide +kernel) rfl rfl (Nat.le_of_ble_eq_true rfl) rd_B_copy_5 (fun H locs hP hD hS => ?_)
  have hP := egPu hw0.1 hP
  have hD := egDu hw0.1 hD
  have hw : isB (bW ws k0 k1 h a cI ((dn Y : Int)) (F)) k0 k1 h a cI ((dn Y : Int)) (F) := hw0.w _ _
  have ho := ho0.o hoa (bo h a ((dn Y : Int))) (ba cI a (F))
  refine lv_iconst (v := iv (0)) hx hb rd_B_copy_8 (by decide) ?_
  refine lv_istore_n (lv' := [(2, .int (iv (0))), (0, .ref h), (1, .ref g)]) hx hb rd_B_copy_9 rfl hl (by decide) rfl (fun ls hl => ?_)
  have loop : ∀ (fuel : Nat) (i : Nat) (K : Nat → Nat), (i ≤ dn Y) → (∀ j, j < i → K j = dg Y j) → (dn Y < i + fuel) → ∀ (H : Heap) (locs : List Loc) (ls : Array Slot), va_P (dC, dI) vwCl (bW ws k0 k1 h a cI ((dn Y : Int)) K) H → va_D (ef_A ws) (bW ws k0 k1 h a cI ((dn Y : Int)) K) → va_S (ef_A ws) s.heap H locs → lv_has ls 3 [(0, .ref h), (1, .ref g), (2, .int (iv ((i : Int))))] → W p l e ({ frames := 0, cells := 0, slots := 0, locals := 0 } : Room) s m ([.ref h, .ref g] : List Value).toArray below meth c H locs 0 0 (ef_R below (dC, dI) vwCl ws (fun o w1 => o = none ∧ ∃ F2 : Nat → Nat, w1 = bW ws k0 k1 h a cI (dn (Y) : Int) F2 ∧ dgo (Y) F2) [.ref h, .ref g] s) (F0 m 10 ls []) := by
    intro fuel
    induction fuel with
    | zero => intro i K h1 h2 h3; exfalso; omega
    | succ fuel ih =>
      intro i K h1 h2 h3 H locs ls hP hD hS hl
      have hw : isB (bW ws k0 k1 h a cI ((dn Y : Int)) (K)) k0 k1 h a cI ((dn Y : Int)) (K) := hw0.w _ _
      have ho := ho0.o hoa (bo h a ((dn Y : Int))) (ba cI a (K))
      refine lv_iload_n hx hb rd_B_copy_10 rfl (lv_at hl 2 rfl) ?_
      refine lv_aload_n hx hb rd_B_copy_11 rfl (lv_at hl 0 rfl) ?_
      refine va_get (D := (dC, dI)) (ci := 3) (v := .int (iv ((dn Y : Int)))) (C := rR3) (T := rT3) (N := 2) hx hb hts (fun w h => List.mem_cons_of_mem _ (rin3 w h)) hown hK hP k0 hw.2.1 rfl 1 (by decide) (hts _ (List.mem_cons_of_mem _ rm_268)) (fun _ h9 => h9) rfl rd_B_copy_12 ?_
      refine iw_icmp_ge (tgt := 36) hx hb rd_B_copy_15 (by decide) ⟨by omega, by omega⟩ ⟨by omega, by omega⟩ (fun c1 => ?_) (fun c1 => ?_)
      ·
        have hi2 : i = dn Y := by omega
        subst hi2
        exact ef_vret hx hb hr hlocks hP hD hS rd_B_copy_36 (⟨rfl, K, rfl, h2⟩)
      ·
        refine lv_aload_n hx hb rd_B_copy_18 rfl (lv_at hl 0 rfl) ?_
        refine va_get (D := (dC, dI)) (ci := 3) (v := .ref a) (C := rR3) (T := rT3) (N := 2) hx hb hts (fun w h => List.mem_cons_of_mem _ (rin3 w h)) hown hK hP k0 hw.2.1 rfl 0 (by decide) (hts _ (List.mem_cons_of_mem _ rm_266)) (fun _ h9 => h9) rfl rd_B_copy_19 ?_
        refine lv_iload_n hx hb rd_B_copy_22 rfl (lv_at hl 2 rfl) ?_
        refine lv_aload_n hx hb rd_B_copy_23 rfl (lv_at hl 1 rfl) ?_
        refine va_get (D := (dC, dI)) (ci := 3) (v := .ref b) (C := rR3) (T := rT3) (N := 2) hx hb hts (fun w h => List.mem_cons_of_mem _ (rin3 w h)) hown hK hP j0 ho.2.1 rfl 0 (by decide) (hts _ (List.mem_cons_of_mem _ rm_266)) (fun _ h9 => h9) rfl rd_B_copy_24 ?_
        refine lv_iload_n hx hb rd_B_copy_27 rfl (lv_at hl 2 rfl) ?_
        refine iw_iald (i := i) hx hb hK hP j1 0 ho.2.2 ht (by omega) (by decide) rd_B_copy_28 ?_
        refine iw_iast (i := i) (v := G i) hx hb hK hP hD hS k1 0 hw.2.2 ht (by omega) (by decide) rd_B_copy_29 (fun H locs hP hD hS => ?_)
        have hP := egPa hP
        have hD := egDa hD
        have hw : isB (bW ws k0 k1 h a cI ((dn Y : Int)) (va_up (K) (i) (G i))) k0 k1 h a cI ((dn Y : Int)) (va_up (K) (i) (G i)) := hw0.w _ _
        have ho := ho0.o hoa (bo h a ((dn Y : Int))) (ba cI a (va_up (K) (i) (G i)))
        refine lv_iinc (v := iv (((i + 1 : Nat) : Int))) (lv' := [(2, .int (iv (((i + 1 : Nat) : Int)))), (0, .ref h), (1, .ref g)]) hx hb rd_B_copy_30 hl (k := 2) rfl (iv_inc i) (by decide) rfl (fun ls hl => ?_)
        refine lv_goto (tgt := 10) hx hb rd_B_copy_33 (by decide) ?_
        exact ih (i + 1) (va_up K i (G i)) (by omega) (fun j hj => by
              by_cases q : j = i
              · rw [q, ef_up_at]; exact hdo i (by omega)
              · rw [ef_up_ne q]; exact h2 j (by omega)) (by omega) H locs ls hP hD hS (lv_sub hl [1, 2, 0] rfl)
  exact loop (dn Y + 1) (0) (F) (Nat.zero_le _) (fun j hj => absurd hj (by omega)) (by omega) H locs ls hP hD hS (lv_sub hl [1, 2, 0] rfl)

set_option maxRecDepth 100000 in
set_option maxHeartbeats 4000000 in
/-- bits -/
theorem b_bits (l : Launch) (dC : Nat → ClassId) (dI : Nat → Nat → Nat) {cI : ClassId} {tys : List (ClassId × FieldType)} (ht : tys[0]? = some (cI, .int)) {ws : va_W} {k0 k1 h a X : Nat} {F : Nat → Nat} (hw : isB ws k0 k1 h a cI (dn X : Int) F) (hd : dgo X F) (hX : dn X ≤ 640) : ef_C l ry_B_bits rw_B_bits ({ frames := 0, cells := 0, slots := 0, locals := 0 } : Room) [.ref h] (dC, dI) vwCl tys ws (fun o w1 => o = some (.int (iv (bl X : Int))) ∧ w1 = ws) := by
  refine ef_C.of (cc := rc_B_bits) (maxL := 2) (ret := (some .int)) (by decide) rfl (Nat.le_of_ble_eq_true rfl) ?_
  intro p e s m below meth c ls hx hb hml hr hts hown hlocks hK hNX hP hD hS hl
  have hl : lv_has ls 2 [(0, .ref h)] := hl
  have hown : s.vm.findClass rR3 = some m.cls := hown
  generalize hH : s.heap = H at hP ⊢
  have hS : va_S (ef_A ws) s.heap H [] := by rw [← hH]; exact hS
  generalize ([] : List Loc) = locs at hS ⊢
  rcases Nat.eq_zero_or_pos X with hX0 | hX0
  ·
    have hn0 : dn X = 0 := dn_0.2 hX0
    refine lv_iconst (v := iv (0)) hx hb rd_B_bits_0 (by decide) ?_
    refine lv_istore_n (lv' := [(1, .int (iv (0))), (0, .ref h)]) hx hb rd_B_bits_1 rfl hl (by decide) rfl (fun ls hl => ?_)
    refine lv_aload_n hx hb rd_B_bits_2 rfl (lv_at hl 1 rfl) ?_
    refine va_get (D := (dC, dI)) (ci := 3) (v := .int (iv ((dn X : Int)))) (C := rR3) (T := rT3) (N := 2) hx hb hts (fun w h => List.mem_cons_of_mem _ (rin3 w h)) hown hK hP k0 hw.2.1 rfl 1 (by decide) (hts _ (List.mem_cons_of_mem _ rm_268)) (fun _ h9 => h9) rfl rd_B_bits_3 ?_
    refine iw_if_le (tgt := 31) hx hb rd_B_bits_6 (by decide) ⟨by omega, by omega⟩ (fun c1 => ?_) (fun c1 => ?_)
    ·
      refine lv_aload_n hx hb rd_B_bits_31 rfl (lv_at hl 1 rfl) ?_
      refine va_get (D := (dC, dI)) (ci := 3) (v := .int (iv ((dn X : Int)))) (C := rR3) (T := rT3) (N := 2) hx hb hts (fun w h => List.mem_cons_of_mem _ (rin3 w h)) hown hK hP k0 hw.2.1 rfl 1 (by decide) (hts _ (List.mem_cons_of_mem _ rm_268)) (fun _ h9 => h9) rfl rd_B_bits_32 ?_
      refine iw_if_ne (tgt := 42) hx hb rd_B_bits_35 (by decide) ⟨by omega, by omega⟩ (fun c2 => ?_) (fun c2 => ?_)
      ·
        exact absurd c2 (by omega)
      ·
        refine lv_iconst (v := iv (0)) hx hb rd_B_bits_38 (by decide) ?_
        refine lv_goto (tgt := 53) hx hb rd_B_bits_39 (by decide) ?_
        exact ef_iret hx hb hr hlocks hP hD hS rd_B_bits_53 (by rw [bl_0.2 hX0]; exact ⟨rfl, rfl⟩)
    ·
      exact absurd c1 (by omega)
  ·
    have hX1 : X ≠ 0 := by omega
    have hn0 : dn X ≠ 0 := fun q => hX1 (dn_0.1 q)
    have htl := dg_lt X (dn X - 1)
    have hbw := bl_dn hX1
    have hb16 : bl (dg X (dn X - 1)) ≤ 16 := bl_le htl
    have hFt := hd (dn X - 1) (by omega)
    generalize hT : dg X (dn X - 1) = T at htl hbw hb16 hFt
    refine lv_iconst (v := iv (0)) hx hb rd_B_bits_0 (by decide) ?_
    refine lv_istore_n (lv' := [(1, .int (iv (0))), (0, .ref h)]) hx hb rd_B_bits_1 rfl hl (by decide) rfl (fun ls hl => ?_)
    have loop : ∀ (fuel : Nat) (k : Nat), (k ≤ bl T) → (17 < k + fuel) → ∀ (H : Heap) (locs : List Loc) (ls : Array Slot), va_P (dC, dI) vwCl (ws) H → va_D (ef_A ws) (ws) → va_S (ef_A ws) s.heap H locs → lv_has ls 2 [(0, .ref h), (1, .int (iv ((k : Int))))] → W p l e ({ frames := 0, cells := 0, slots := 0, locals := 0 } : Room) s m ([.ref h] : List Value).toArray below meth c H locs 0 0 (ef_R below (dC, dI) vwCl ws (fun o w1 => o = some (.int (iv (bl X : Int))) ∧ w1 = ws) [.ref h] s) (F0 m 2 ls []) := by
      intro fuel
      induction fuel with
      | zero => intro k g1 g2; exfalso; omega
      | succ fuel ih =>
        intro k g1 g2 H locs ls hP hD hS hl
        refine lv_aload_n hx hb rd_B_bits_2 rfl (lv_at hl 0 rfl) ?_
        refine va_get (D := (dC, dI)) (ci := 3) (v := .int (iv ((dn X : Int)))) (C := rR3) (T := rT3) (N := 2) hx hb hts (fun w h => List.mem_cons_of_mem _ (rin3 w h)) hown hK hP k0 hw.2.1 rfl 1 (by decide) (hts _ (List.mem_cons_of_mem _ rm_268)) (fun _ h9 => h9) rfl rd_B_bits_3 ?_
        refine iw_if_le (tgt := 31) hx hb rd_B_bits_6 (by decide) ⟨by omega, by omega⟩ (fun c1 => ?_) (fun c1 => ?_)
        ·
          exact absurd c1 (by omega)
        ·
          refine lv_aload_n hx hb rd_B_bits_9 rfl (lv_at hl 0 rfl) ?_
          refine va_get (D := (dC, dI)) (ci := 3) (v := .ref a) (C := rR3) (T := rT3) (N := 2) hx hb hts (fun w h => List.mem_cons_of_mem _ (rin3 w h)) hown hK hP k0 hw.2.1 rfl 0 (by decide) (hts _ (List.mem_cons_of_mem _ rm_266)) (fun _ h9 => h9) rfl rd_B_bits_10 ?_
          refine lv_aload_n hx hb rd_B_bits_13 rfl (lv_at hl 0 rfl) ?_
          refine va_get (D := (dC, dI)) (ci := 3) (v := .int (iv ((dn X : Int)))) (C := rR3) (T := rT3) (N := 2) hx hb hts (fun w h => List.mem_cons_of_mem _ (rin3 w h)) hown hK hP k0 hw.2.1 rfl 1 (by decide) (hts _ (List.mem_cons_of_mem _ rm_268)) (fun _ h9 => h9) rfl rd_B_bits_14 ?_
          refine lv_iconst (v := iv (1)) hx hb rd_B_bits_17 (by decide) ?_
          refine iw_isub hx hb rd_B_bits_18 ?_
          refine iw_topi (y := iv (((dn X - 1 : Nat) : Int))) (congrArg iv (by omega : ((((dn X : Int)) - (1)) : Int) = (((dn X - 1 : Nat) : Int)))) ?_
          refine iw_iald (i := dn X - 1) hx hb hK hP k1 0 hw.2.2 ht (by omega) (by decide) rd_B_bits_19 ?_
          refine iw_topi (y := iv ((T : Int))) (congrArg iv (by rw [hFt] : (((F) (dn X - 1)) : Int) = ((T : Int)))) ?_
          refine lv_iload_n hx hb rd_B_bits_20 rfl (lv_at hl 1 rfl) ?_
          refine iw_ishrk (a := T) (k := k) hx hb (by omega) (by omega) rd_B_bits_21 ?_
          have hdl : T / 2 ^ k ≤ T := Nat.div_le_self _ _
          have hdv := bl_div T k
          have hdp : (0 : Int) ≤ ((T / 2 ^ k : Nat) : Int) := Int.natCast_nonneg _
          have hdq : ((T / 2 ^ k : Nat) : Int) < 4294967296 := by have := Int.ofNat_lt.mpr (Nat.lt_of_le_of_lt hdl htl); exact Int.lt_of_lt_of_le this (by decide)
          have hd0 : ((T / 2 ^ k : Nat) : Int) = 0 ↔ T / 2 ^ k = 0 := Int.natCast_eq_zero
          refine iw_ifu_eq (tgt := 31) hx hb rd_B_bits_22 (by decide) (hdp) (hdq) (fun c3 => ?_) (fun c3 => ?_)
          ·
            have hk : k = bl T := by
              have q1 := hd0.1 c3
              have q2 : ¬ k < bl T := fun q => hdv.2 q q1
              omega
            refine lv_aload_n hx hb rd_B_bits_31 rfl (lv_at hl 0 rfl) ?_
            refine va_get (D := (dC, dI)) (ci := 3) (v := .int (iv ((dn X : Int)))) (C := rR3) (T := rT3) (N := 2) hx hb hts (fun w h => List.mem_cons_of_mem _ (rin3 w h)) hown hK hP k0 hw.2.1 rfl 1 (by decide) (hts _ (List.mem_cons_of_mem _ rm_268)) (fun _ h9 => h9) rfl rd_B_bits_32 ?_
            refine iw_if_ne (tgt := 42) hx hb rd_B_bits_35 (by decide) ⟨by omega, by omega⟩ (fun c2 => ?_) (fun c2 => ?_)
            ·
              refine lv_bipush (v := iv (16)) hx hb rd_B_bits_42 (by decide) ?_
              refine lv_aload_n hx hb rd_B_bits_44 rfl (lv_at hl 0 rfl) ?_
              refine va_get (D := (dC, dI)) (ci := 3) (v := .int (iv ((dn X : Int)))) (C := rR3) (T := rT3) (N := 2) hx hb hts (fun w h => List.mem_cons_of_mem _ (rin3 w h)) hown hK hP k0 hw.2.1 rfl 1 (by decide) (hts _ (List.mem_cons_of_mem _ rm_268)) (fun _ h9 => h9) rfl rd_B_bits_45 ?_
              refine lv_iconst (v := iv (1)) hx hb rd_B_bits_48 (by decide) ?_
              refine iw_isub hx hb rd_B_bits_49 ?_
              refine iw_imul hx hb rd_B_bits_50 ?_
              refine lv_iload_n hx hb rd_B_bits_51 rfl (lv_at hl 1 rfl) ?_
              refine iw_iadd hx hb rd_B_bits_52 ?_
              exact ef_iret hx hb hr hlocks hP hD hS rd_B_bits_53 (⟨by rw [hbw, ← hk]; exact congrArg (fun z => some (Value.int (iv z))) (by omega), rfl⟩)
            ·
              exact absurd c2 (by omega)
          ·
            have c4 := hdv.1 (fun q => c3 (hd0.2 q))
            refine lv_iinc (v := iv (((k + 1 : Nat) : Int))) (lv' := [(1, .int (iv (((k + 1 : Nat) : Int)))), (0, .ref h)]) hx hb rd_B_bits_25 hl (k := 1) rfl (iv_inc k) (by decide) rfl (fun ls hl => ?_)
            refine lv_goto (tgt := 2) hx hb rd_B_bits_28 (by decide) ?_
            exact ih (k + 1) (by omega) (by omega) H locs ls hP hD hS (lv_sub hl [1, 0] rfl)
    exact loop (18) (0) (Nat.zero_le _) (by omega) H locs ls hP hD hS (lv_sub hl [1, 0] rfl)

set_option maxRecDepth 100000 in
set_option maxHeartbeats 4000000 in
/-- isOne -/
theorem b_isOne (l : Launch) (dC : Nat → ClassId) (dI : Nat → Nat → Nat) {cI : ClassId} {tys : List (ClassId × FieldType)} (ht : tys[0]? = some (cI, .int)) {ws : va_W} {k0 k1 h a X : Nat} {F : Nat → Nat} (hw : isB ws k0 k1 h a cI (dn X : Int) F) (hd : dgo X F) (hX : dn X ≤ 640) : ef_C l ry_B_isOne rw_B_isOne ({ frames := 0, cells := 0, slots := 0, locals := 0 } : Room) [.ref h] (dC, dI) vwCl tys ws (fun o w1 => o = some (.int (iv (if X = 1 then 1 else 0))) ∧ w1 = ws) := by
  refine ef_C.of (cc := rc_B_isOne) (maxL := 1) (ret := (some .boolean)) (by decide) rfl (Nat.le_of_ble_eq_true rfl) ?_
  intro p e s m below meth c ls hx hb hml hr hts hown hlocks hK hNX hP hD hS hl
  have hl : lv_has ls 1 [(0, .ref h)] := hl
  have hown : s.vm.findClass rR3 = some m.cls := hown
  generalize hH : s.heap = H at hP ⊢
  have hS : va_S (ef_A ws) s.heap H [] := by rw [← hH]; exact hS
  generalize ([] : List Loc) = locs at hS ⊢
  refine lv_aload_n hx hb rd_B_isOne_0 rfl (lv_at hl 0 rfl) ?_
  refine va_get (D := (dC, dI)) (ci := 3) (v := .int (iv ((dn X : Int)))) (C := rR3) (T := rT3) (N := 2) hx hb hts (fun w h => List.mem_cons_of_mem _ (rin3 w h)) hown hK hP k0 hw.2.1 rfl 1 (by decide) (hts _ (List.mem_cons_of_mem _ rm_268)) (fun _ h9 => h9) rfl rd_B_isOne_1 ?_
  refine lv_iconst (v := iv (1)) hx hb rd_B_isOne_4 (by decide) ?_
  refine iw_icmp_ne (tgt := 22) hx hb rd_B_isOne_5 (by decide) ⟨by omega, by omega⟩ ⟨by omega, by omega⟩ (fun c1 => ?_) (fun c1 => ?_)
  ·
    refine lv_iconst (v := iv (0)) hx hb rd_B_isOne_22 (by decide) ?_
    exact ef_zret hx hb hr hlocks (by decide) hP hD hS rd_B_isOne_23 (by rw [if_neg (fun q => c1 (by rw [q]; rfl))]; exact ⟨rfl, rfl⟩)
  ·
    have hn1 : dn X = 1 := by omega
    have hF0 := hd 0 (by omega)
    have hx1 := dn_lt X
    rw [hn1] at hx1
    have hx2 : X < 65536 := hx1
    have hd0 : dg X 0 = X := by show X / 2 ^ (16 * 0) % 65536 = X; rw [Nat.mul_zero, Nat.pow_zero, Nat.div_one]; omega
    refine lv_aload_n hx hb rd_B_isOne_8 rfl (lv_at hl 0 rfl) ?_
    refine va_get (D := (dC, dI)) (ci := 3) (v := .ref a) (C := rR3) (T := rT3) (N := 2) hx hb hts (fun w h => List.mem_cons_of_mem _ (rin3 w h)) hown hK hP k0 hw.2.1 rfl 0 (by decide) (hts _ (List.mem_cons_of_mem _ rm_266)) (fun _ h9 => h9) rfl rd_B_isOne_9 ?_
    refine lv_iconst (v := iv (0)) hx hb rd_B_isOne_12 (by decide) ?_
    refine iw_topi (y := iv (((0 : Nat) : Int))) (congrArg iv (by rfl : ((0) : Int) = (((0 : Nat) : Int)))) ?_
    refine iw_iald (i := 0) hx hb hK hP k1 0 hw.2.2 ht (by omega) (by decide) rd_B_isOne_13 ?_
    refine iw_topi (y := iv ((X : Int))) (congrArg iv (by rw [hF0, hd0] : (((F) (0)) : Int) = ((X : Int)))) ?_
    refine lv_iconst (v := iv (1)) hx hb rd_B_isOne_14 (by decide) ?_
    refine iw_icmp_ne (tgt := 22) hx hb rd_B_isOne_15 (by decide) ⟨by omega, by omega⟩ ⟨by omega, by omega⟩ (fun c2 => ?_) (fun c2 => ?_)
    ·
      refine lv_iconst (v := iv (0)) hx hb rd_B_isOne_22 (by decide) ?_
      exact ef_zret hx hb hr hlocks (by decide) hP hD hS rd_B_isOne_23 (by rw [if_neg (by omega)]; exact ⟨rfl, rfl⟩)
    ·
      refine lv_iconst (v := iv (1)) hx hb rd_B_isOne_18 (by decide) ?_
      refine lv_goto (tgt := 23) hx hb rd_B_isOne_19 (by decide) ?_
      exact ef_zret hx hb hr hlocks (by decide) hP hD hS rd_B_isOne_23 (by rw [if_pos (by omega)]; exact ⟨rfl, rfl⟩)
