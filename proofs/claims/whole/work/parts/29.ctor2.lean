/-- the five cells of a Fraction -/
def fW (cI : ClassId) (f x y ax ay A U : Nat) (b e : Int) : va_W := [fo f x y b e, wo x ax (wl A), wa cI ax (wd A), wo y ay (wl U), wa cI ay (wd U)]
theorem bk_zero : bk 0 (fun _ => 0) := ⟨fun j h => absurd h (by rw [dn_0.mpr rfl]; omega), by rw [dn_0.mpr rfl]; omega⟩

set_option maxRecDepth 100000 in
set_option maxHeartbeats 4000000 in
/-- restart of a Fraction alone -/
theorem c_restartS (l : Launch) (dC : Nat → ClassId) (dI : Nat → Nat → Nat) {cI : ClassId} {tys : List (ClassId × FieldType)} (ht : tys[0]? = some (cI, .int)) (f x y ax ay : Nat) {A U : Nat} {b0 e0 : Int} (hA9 : wl A ≤ 150) (hU9 : wl U ≤ 150) : ef_C l yX0_restart wsX0_restart ({ frames := 3, cells := 0, slots := 0, locals := 67 } : Room) [.ref f] (dC, dI) vwCl tys (fW cI f x y ax ay (A) (U) (b0) (e0)) (fun o w1 => o = none ∧ w1 = fW cI f x y ax ay 0 1 0 0) := by
  refine ef_C.of (cc := cX0_restart) (maxL := 1) (ret := none) (by decide) rfl (Nat.le_of_ble_eq_true rfl) ?_
  intro p e s m below meth c ls hx hb hml hr hts hown hlocks hK hNX hP hD hS hl
  have hl : lv_has ls 1 [(0, .ref f)] := hl
  have hown : s.vm.findClass RX0 = some m.cls := hown
  generalize hH : s.heap = H at hP ⊢
  have hS : va_S (ef_A (fW cI f x y ax ay (A) (U) (b0) (e0))) s.heap H [] := by rw [← hH]; exact hS
  generalize ([] : List Loc) = locs at hS ⊢
  refine lv_aload_n hx hb dX0_restart_0 rfl (lv_at hl 0 rfl) ?_
  refine va_get (D := (dC, dI)) (ci := 0) (v := .ref x) (C := RX0) (T := TX0) (N := 4) hx hb hts (by decide +kernel) hown hK hP 0 rfl rfl 0 (by decide) (hts (.fieldLink RX0 10 "ExactFractions$Fraction" "above" "LExactFractions$Whole;") (by decide +kernel)) (fun _ h9 => h9) rfl dX0_restart_1 ?_
  refine lv_lconst (v := jv (0)) hx hb dX0_restart_4 (by decide) ?_
  refine iw_topl (y := jv (((0 : Nat) : Int))) (congrArg jv (by omega : ((0) : Int) = (((0 : Nat) : Int)))) ?_
  refine ef_callV (As := [.long (jv (((0 : Nat) : Int)))]) (rest := []) ⟨hx, hb, hml, hown, hts⟩ (c_become l dC dI ht (isW_c (X := A) (ws := fW cI f x y ax ay (A) (U) (b0) (e0)) (k0 := 1) (k1 := 2) (by decide) rfl rfl) (by omega) (wd_lt _) wd_z (0) (by decide)) (cwV 1 hts gX0_restart_X1_become rfl rfl rfl (by decide +kernel) ⟨Nat.le_of_ble_eq_true rfl, Nat.le_of_ble_eq_true rfl⟩) hK hNX hP hD hS 1 rfl rfl rfl rfl hl.1 rfl (Nat.le_of_ble_eq_true rfl) dX0_restart_5 ⟨Nat.zero_le _, Nat.zero_le _⟩ (fun o w1 H locs hq hP hD hS => ?_)
  obtain ⟨rfl, rfl⟩ := hq
  have hP : va_P (dC, dI) vwCl (fW cI f x y ax ay (0) (U) (b0) (e0)) H := hP
  have hD : va_D (ef_A (fW cI f x y ax ay (A) (U) (b0) (e0))) (fW cI f x y ax ay (0) (U) (b0) (e0)) := hD
  refine W.eq (g2 := F0 m 8 ls []) rfl ?_
  refine lv_aload_n hx hb dX0_restart_8 rfl (lv_at hl 0 rfl) ?_
  refine va_get (D := (dC, dI)) (ci := 0) (v := .ref y) (C := RX0) (T := TX0) (N := 4) hx hb hts (by decide +kernel) hown hK hP 0 rfl rfl 1 (by decide) (hts (.fieldLink RX0 16 "ExactFractions$Fraction" "under" "LExactFractions$Whole;") (by decide +kernel)) (fun _ h9 => h9) rfl dX0_restart_9 ?_
  refine lv_lconst (v := jv (1)) hx hb dX0_restart_12 (by decide) ?_
  refine iw_topl (y := jv (((1 : Nat) : Int))) (congrArg jv (by omega : ((1) : Int) = (((1 : Nat) : Int)))) ?_
  refine ef_callV (As := [.long (jv (((1 : Nat) : Int)))]) (rest := []) ⟨hx, hb, hml, hown, hts⟩ (c_become l dC dI ht (isW_c (X := U) (ws := fW cI f x y ax ay (0) (U) (b0) (e0)) (k0 := 3) (k1 := 4) (by decide) rfl rfl) (by omega) (wd_lt _) wd_z (1) (by decide)) (cwV 1 hts gX0_restart_X1_become rfl rfl rfl (by decide +kernel) ⟨Nat.le_of_ble_eq_true rfl, Nat.le_of_ble_eq_true rfl⟩) hK hNX hP hD hS 3 rfl rfl rfl rfl hl.1 rfl (Nat.le_of_ble_eq_true rfl) dX0_restart_13 ⟨Nat.zero_le _, Nat.zero_le _⟩ (fun o w1 H locs hq hP hD hS => ?_)
  obtain ⟨rfl, rfl⟩ := hq
  have hP : va_P (dC, dI) vwCl (fW cI f x y ax ay (0) (1) (b0) (e0)) H := hP
  have hD : va_D (ef_A (fW cI f x y ax ay (A) (U) (b0) (e0))) (fW cI f x y ax ay (0) (1) (b0) (e0)) := hD
  refine W.eq (g2 := F0 m 16 ls []) rfl ?_
  refine lv_aload_n hx hb dX0_restart_16 rfl (lv_at hl 0 rfl) ?_
  refine lv_iconst (v := iv (0)) hx hb dX0_restart_17 (by decide) ?_
  refine va_put (D := (dC, dI)) (ci := 0) (v := .int (iv (0))) (ty := .boolean) (C := RX0) (T := TX0) (N := 4) hx hb hts (by decide +kernel) tyX0 tyX0_ok nmX0 hown hK hP hD hS 0 rfl rfl 2 (by decide) (hts (.fieldLink RX0 26 "ExactFractions$Fraction" "below" "Z") (by decide +kernel)) (fun _ h9 => h9) rfl (by decide +kernel) rfl rfl (Nat.le_of_ble_eq_true rfl) dX0_restart_18 (fun H locs hP hD hS => ?_)
  have hP : va_P (dC, dI) vwCl (fW cI f x y ax ay (0) (1) (0) (e0)) H := hP
  have hD : va_D (ef_A (fW cI f x y ax ay (A) (U) (b0) (e0))) (fW cI f x y ax ay (0) (1) (0) (e0)) := hD
  refine lv_aload_n hx hb dX0_restart_21 rfl (lv_at hl 0 rfl) ?_
  refine lv_iconst (v := iv (0)) hx hb dX0_restart_22 (by decide) ?_
  refine va_put (D := (dC, dI)) (ci := 0) (v := .int (iv (0))) (ty := .int) (C := RX0) (T := TX0) (N := 4) hx hb hts (by decide +kernel) tyX0 tyX0_ok nmX0 hown hK hP hD hS 0 rfl rfl 3 (by decide) (hts (.fieldLink RX0 30 "ExactFractions$Fraction" "exponent" "I") (by decide +kernel)) (fun _ h9 => h9) rfl (by decide +kernel) rfl rfl (Nat.le_of_ble_eq_true rfl) dX0_restart_23 (fun H locs hP hD hS => ?_)
  have hP : va_P (dC, dI) vwCl (fW cI f x y ax ay (0) (1) (0) (0)) H := hP
  have hD : va_D (ef_A (fW cI f x y ax ay (A) (U) (b0) (e0))) (fW cI f x y ax ay (0) (1) (0) (0)) := hD
  exact ef_vret hx hb hr hlocks hP hD hS dX0_restart_26 (⟨rfl, rfl⟩)

set_option maxRecDepth 100000 in
set_option maxHeartbeats 4000000 in
/-- Fraction() -/
theorem c_Finit (l : Launch) (dC : Nat → ClassId) (dI : Nat → Nat → Nat) (cI : ClassId) (f : Nat) (sz : Nat) : ef_N l yX0_init wsX0_init ({ frames := 4, cells := 4, slots := 606, locals := 87 } : Room) (dC, dI) vwCl [(cI, .int)] ((f, .inr (0, [.null, .null, .int (iv 0), .int (iv 0)]))) sz (fun w1 => ∃ x y ax ay : Nat, w1 = fW cI f x y ax ay 0 1 0 0) 4 606 := by
  refine ef_N.of (cc := cX0_init) (maxL := 1) (by decide) rfl rfl (by decide) ?_
  intro p e s m below meth c ls hx hb hml hr hts hown hlocks hin hK hNX hA hP hD hS hl
  have hown : s.vm.findClass RX0 = some m.cls := hown
  generalize hH : s.heap = H at hP ⊢
  have hS : va_S (va_A [(f, .inr (0, [.null, .null, .int (iv 0), .int (iv 0)]))] sz) s.heap H [] := by rw [← hH]; exact hS
  generalize ([] : List Loc) = locs at hS ⊢
  refine lv_aload_n hx hb dX0_init_0 rfl (lv_at hl 0 rfl) ?_
  refine W.objInit hx hb hown (hts (.methodLink RX0 1 objectInit) (by decide +kernel)) (hts (.instanceMethod objectInit) (by decide +kernel)) (hts (.code objectInit ⟨#[0xb1]⟩ 1 none) (by decide +kernel)) rfl (by rw [hml]; exact hl.1) rfl dX0_init_1 (Nat.le_of_ble_eq_true rfl) (Nat.le_of_ble_eq_true rfl) ?_
  refine W.eq (g2 := F0 m 4 ls []) rfl ?_
  refine lv_aload_n hx hb dX0_init_4 rfl (lv_at hl 0 rfl) ?_
  refine va_new (ci := 1) (fs := [.null, .int (iv (0))]) (C := RX1) (T := TX1) (N := 2) hx hb hts (by decide +kernel) tyX1 tyX1_ok hown (hts (.classLink RX0 7 RX1) (by decide +kernel)) (hts (.instantiable RX1 2) (by decide +kernel)) (hts (.initialized RX1) (by decide +kernel)) hK hP hD hS hA rfl (fun j hj => by rcases (show j = 0 ∨ j = 1 by omega) with rfl | rfl <;> rfl) (Nat.le_of_ble_eq_true rfl) (Nat.le_of_ble_eq_true rfl) dX0_init_5 (fun x H hP hD hS => ?_)
  have hP : va_P (dC, dI) vwCl [(f, .inr (0, [.null, .null, .int (iv 0), .int (iv 0)])), (x, .inr (1, [.null, .int (iv 0)]))] H := hP
  have hD : va_D (va_A [(f, .inr (0, [.null, .null, .int (iv 0), .int (iv 0)]))] sz) [(f, .inr (0, [.null, .null, .int (iv 0), .int (iv 0)])), (x, .inr (1, [.null, .int (iv 0)]))] := hD
  refine lv_dup hx hb dX0_init_8 rfl ?_
  refine ef_callI (wr := [(f, .inr (0, [.null, .null, .int (iv 0), .int (iv 0)]))]) (rest := [.ref x, .ref f]) ⟨hx, hb, hml, hown, hts⟩ (c_Winit l dC dI cI x _) (cwI 0 hts gX0_init_X1_init rfl rfl rfl (hts (.initialized RX1) (by decide +kernel)) (hts (.methodLink RX0 9 yX1_init) (by decide +kernel)) (hts (.instanceMethod yX1_init) (by decide +kernel)) rfl (by decide +kernel) ⟨Nat.le_of_ble_eq_true rfl, Nat.le_of_ble_eq_true rfl⟩) hK hNX hP hD hS hA [1] [0] (hP.sub [1] rfl) (hD.sub [1] (by decide) rfl) rfl rfl (by decide) (by decide) hl.1 rfl (Nat.le_of_ble_eq_true rfl) dX0_init_9 ⟨Nat.le_of_ble_eq_true rfl, Nat.le_of_ble_eq_true rfl⟩ (fun w1 H locs hq hP hD hS => ?_)
  obtain ⟨ax, rfl⟩ := hq
  have hP : va_P (dC, dI) vwCl [(f, .inr (0, [.null, .null, .int (iv 0), .int (iv 0)])), wo x ax (wl 0), wa cI ax (wd 0)] H := hP
  have hD : va_D (va_A [(f, .inr (0, [.null, .null, .int (iv 0), .int (iv 0)]))] sz) [(f, .inr (0, [.null, .null, .int (iv 0), .int (iv 0)])), wo x ax (wl 0), wa cI ax (wd 0)] := hD
  refine W.eq (g2 := F0 m 12 ls [.ref x, .ref f]) rfl ?_
  refine va_put (D := (dC, dI)) (ci := 0) (v := .ref x) (ty := .object "ExactFractions$Whole") (C := RX0) (T := TX0) (N := 4) hx hb hts (by decide +kernel) tyX0 tyX0_ok nmX0 hown hK hP hD hS 0 rfl rfl 0 (by decide) (hts (.fieldLink RX0 10 "ExactFractions$Fraction" "above" "LExactFractions$Whole;") (by decide +kernel)) (fun _ h9 => h9) rfl (by decide +kernel) rfl rfl (Nat.le_of_ble_eq_true rfl) dX0_init_12 (fun H locs hP hD hS => ?_)
  have hP : va_P (dC, dI) vwCl [(f, .inr (0, [.ref x, .null, .int (iv 0), .int (iv 0)])), wo x ax (wl 0), wa cI ax (wd 0)] H := hP
  have hD : va_D (va_A [(f, .inr (0, [.null, .null, .int (iv 0), .int (iv 0)]))] sz) [(f, .inr (0, [.ref x, .null, .int (iv 0), .int (iv 0)])), wo x ax (wl 0), wa cI ax (wd 0)] := hD
  refine lv_aload_n hx hb dX0_init_15 rfl (lv_at hl 0 rfl) ?_
  refine va_new (ci := 1) (fs := [.null, .int (iv (0))]) (C := RX1) (T := TX1) (N := 2) hx hb hts (by decide +kernel) tyX1 tyX1_ok hown (hts (.classLink RX0 7 RX1) (by decide +kernel)) (hts (.instantiable RX1 2) (by decide +kernel)) (hts (.initialized RX1) (by decide +kernel)) hK hP hD hS hA rfl (fun j hj => by rcases (show j = 0 ∨ j = 1 by omega) with rfl | rfl <;> rfl) (Nat.le_of_ble_eq_true rfl) (Nat.le_of_ble_eq_true rfl) dX0_init_16 (fun y H hP hD hS => ?_)
  have hP : va_P (dC, dI) vwCl [(f, .inr (0, [.ref x, .null, .int (iv 0), .int (iv 0)])), wo x ax (wl 0), wa cI ax (wd 0), (y, .inr (1, [.null, .int (iv 0)]))] H := hP
  have hD : va_D (va_A [(f, .inr (0, [.null, .null, .int (iv 0), .int (iv 0)]))] sz) [(f, .inr (0, [.ref x, .null, .int (iv 0), .int (iv 0)])), wo x ax (wl 0), wa cI ax (wd 0), (y, .inr (1, [.null, .int (iv 0)]))] := hD
  refine lv_dup hx hb dX0_init_19 rfl ?_
  refine ef_callI (wr := [(f, .inr (0, [.ref x, .null, .int (iv 0), .int (iv 0)])), wo x ax (wl 0), wa cI ax (wd 0)]) (rest := [.ref y, .ref f]) ⟨hx, hb, hml, hown, hts⟩ (c_Winit l dC dI cI y _) (cwI 0 hts gX0_init_X1_init rfl rfl rfl (hts (.initialized RX1) (by decide +kernel)) (hts (.methodLink RX0 9 yX1_init) (by decide +kernel)) (hts (.instanceMethod yX1_init) (by decide +kernel)) rfl (by decide +kernel) ⟨Nat.le_of_ble_eq_true rfl, Nat.le_of_ble_eq_true rfl⟩) hK hNX hP hD hS hA [3] [0, 1, 2] (hP.sub [3] rfl) (hD.sub [3] (by decide) rfl) rfl rfl (by decide) (by decide) hl.1 rfl (Nat.le_of_ble_eq_true rfl) dX0_init_20 ⟨Nat.le_of_ble_eq_true rfl, Nat.le_of_ble_eq_true rfl⟩ (fun w1 H locs hq hP hD hS => ?_)
  obtain ⟨ay, rfl⟩ := hq
  have hP : va_P (dC, dI) vwCl [(f, .inr (0, [.ref x, .null, .int (iv 0), .int (iv 0)])), wo x ax (wl 0), wa cI ax (wd 0), wo y ay (wl 0), wa cI ay (wd 0)] H := hP
  have hD : va_D (va_A [(f, .inr (0, [.null, .null, .int (iv 0), .int (iv 0)]))] sz) [(f, .inr (0, [.ref x, .null, .int (iv 0), .int (iv 0)])), wo x ax (wl 0), wa cI ax (wd 0), wo y ay (wl 0), wa cI ay (wd 0)] := hD
  refine W.eq (g2 := F0 m 23 ls [.ref y, .ref f]) rfl ?_
  refine va_put (D := (dC, dI)) (ci := 0) (v := .ref y) (ty := .object "ExactFractions$Whole") (C := RX0) (T := TX0) (N := 4) hx hb hts (by decide +kernel) tyX0 tyX0_ok nmX0 hown hK hP hD hS 0 rfl rfl 1 (by decide) (hts (.fieldLink RX0 16 "ExactFractions$Fraction" "under" "LExactFractions$Whole;") (by decide +kernel)) (fun _ h9 => h9) rfl (by decide +kernel) rfl rfl (Nat.le_of_ble_eq_true rfl) dX0_init_23 (fun H locs hP hD hS => ?_)
  have hP : va_P (dC, dI) vwCl [(f, .inr (0, [.ref x, .ref y, .int (iv 0), .int (iv 0)])), wo x ax (wl 0), wa cI ax (wd 0), wo y ay (wl 0), wa cI ay (wd 0)] H := hP
  have hD : va_D (va_A [(f, .inr (0, [.null, .null, .int (iv 0), .int (iv 0)]))] sz) [(f, .inr (0, [.ref x, .ref y, .int (iv 0), .int (iv 0)])), wo x ax (wl 0), wa cI ax (wd 0), wo y ay (wl 0), wa cI ay (wd 0)] := hD
  refine lv_aload_n hx hb dX0_init_26 rfl (lv_at hl 0 rfl) ?_
  have hP : va_P (dC, dI) vwCl (fW cI f x y ax ay 0 0 0 0) H := hP
  have hD : va_D (va_A [(f, .inr (0, [.null, .null, .int (iv 0), .int (iv 0)]))] sz) (fW cI f x y ax ay 0 0 0 0) := hD
  have hz9 : wl 0 ≤ 150 := by rw [wl_0.mpr rfl]; omega
  refine ef_callV (As := []) (rest := []) ⟨hx, hb, hml, hown, hts⟩ (c_restartS l dC dI (tys := [(cI, .int)]) rfl f x y ax ay hz9 hz9) (cwV 0 hts gX0_init_X0_restart rfl rfl rfl (by decide +kernel) ⟨Nat.le_of_ble_eq_true rfl, Nat.le_of_ble_eq_true rfl⟩) hK hNX hP hD hS 0 rfl rfl rfl rfl hl.1 rfl (Nat.le_of_ble_eq_true rfl) dX0_init_27 ⟨Nat.le_of_ble_eq_true rfl, Nat.le_of_ble_eq_true rfl⟩ (fun o w1 H locs hq hP hD hS => ?_)
  obtain ⟨rfl, rfl⟩ := hq
  refine W.eq (g2 := F0 m 30 ls []) rfl ?_
  refine W.widen (k := 4) (n := 606) (Nat.le_of_ble_eq_true rfl) (Nat.le_of_ble_eq_true rfl) ?_
  exact ef_nret hx hb hr hlocks hP hD hS dX0_init_30 (⟨x, y, ax, ay, rfl⟩)

set_option maxRecDepth 100000 in
set_option maxHeartbeats 4000000 in
/-- ExactFractions() -/
theorem c_Einit (l : Launch) (dC : Nat → ClassId) (dI : Nat → Nat → Nat) (cI : ClassId) (h : Nat) (sz : Nat) : ef_N l yX2_init wsX2_init ({ frames := 5, cells := 14, slots := 1826, locals := 107 } : Room) (dC, dI) vwCl [(cI, .int)] ((h, .inr (2, [.null, .null, .null, .null]))) sz (fun w1 => ∃ q : Nat → Nat, q 0 = h ∧ w1 = cC cI q 0 1 0 0 0 1 0 0 0 0) 14 1826 := by
  refine ef_N.of (cc := cX2_init) (maxL := 1) (by decide) rfl rfl (by decide) ?_
  intro p e s m below meth c ls hx hb hml hr hts hown hlocks hin hK hNX hA hP hD hS hl
  have hown : s.vm.findClass RX2 = some m.cls := hown
  generalize hH : s.heap = H at hP ⊢
  have hS : va_S (va_A [(h, .inr (2, [.null, .null, .null, .null]))] sz) s.heap H [] := by rw [← hH]; exact hS
  generalize ([] : List Loc) = locs at hS ⊢
  refine lv_aload_n hx hb dX2_init_0 rfl (lv_at hl 0 rfl) ?_
  refine W.objInit hx hb hown (hts (.methodLink RX2 3 objectInit) (by decide +kernel)) (hts (.instanceMethod objectInit) (by decide +kernel)) (hts (.code objectInit ⟨#[0xb1]⟩ 1 none) (by decide +kernel)) rfl (by rw [hml]; exact hl.1) rfl dX2_init_1 (Nat.le_of_ble_eq_true rfl) (Nat.le_of_ble_eq_true rfl) ?_
  refine W.eq (g2 := F0 m 4 ls []) rfl ?_
  refine lv_aload_n hx hb dX2_init_4 rfl (lv_at hl 0 rfl) ?_
  refine va_new (ci := 0) (fs := [.null, .null, .int (iv (0)), .int (iv (0))]) (C := RX0) (T := TX0) (N := 4) hx hb hts (by decide +kernel) tyX0 tyX0_ok hown (hts (.classLink RX2 9 RX0) (by decide +kernel)) (hts (.instantiable RX0 4) (by decide +kernel)) (hts (.initialized RX0) (by decide +kernel)) hK hP hD hS hA rfl (fun j hj => by rcases (show j = 0 ∨ j = 1 ∨ j = 2 ∨ j = 3 by omega) with rfl | rfl | rfl | rfl <;> rfl) (Nat.le_of_ble_eq_true rfl) (Nat.le_of_ble_eq_true rfl) dX2_init_5 (fun f1 H hP hD hS => ?_)
  have hP : va_P (dC, dI) vwCl [(h, .inr (2, [.null, .null, .null, .null])), (f1, .inr (0, [.null, .null, .int (iv 0), .int (iv 0)]))] H := hP
  have hD : va_D (va_A [(h, .inr (2, [.null, .null, .null, .null]))] sz) [(h, .inr (2, [.null, .null, .null, .null])), (f1, .inr (0, [.null, .null, .int (iv 0), .int (iv 0)]))] := hD
  refine lv_dup hx hb dX2_init_8 rfl ?_
  refine ef_callI (wr := [(h, .inr (2, [.null, .null, .null, .null]))]) (rest := [.ref f1, .ref h]) ⟨hx, hb, hml, hown, hts⟩ (c_Finit l dC dI cI f1 _) (cwI 0 hts gX2_init_X0_init rfl rfl rfl (hts (.initialized RX0) (by decide +kernel)) (hts (.methodLink RX2 11 yX0_init) (by decide +kernel)) (hts (.instanceMethod yX0_init) (by decide +kernel)) rfl (by decide +kernel) ⟨Nat.le_of_ble_eq_true rfl, Nat.le_of_ble_eq_true rfl⟩) hK hNX hP hD hS hA [1] [0] (hP.sub [1] rfl) (hD.sub [1] (by decide) rfl) rfl rfl (by decide) (by decide) hl.1 rfl (Nat.le_of_ble_eq_true rfl) dX2_init_9 ⟨Nat.le_of_ble_eq_true rfl, Nat.le_of_ble_eq_true rfl⟩ (fun w1 H locs hq hP hD hS => ?_)
  obtain ⟨x1, y1, ax1, ay1, rfl⟩ := hq
  have hP : va_P (dC, dI) vwCl [(h, .inr (2, [.null, .null, .null, .null])), fo f1 x1 y1 0 0, wo x1 ax1 (wl 0), wa cI ax1 (wd 0), wo y1 ay1 (wl 1), wa cI ay1 (wd 1)] H := hP
  have hD : va_D (va_A [(h, .inr (2, [.null, .null, .null, .null]))] sz) [(h, .inr (2, [.null, .null, .null, .null])), fo f1 x1 y1 0 0, wo x1 ax1 (wl 0), wa cI ax1 (wd 0), wo y1 ay1 (wl 1), wa cI ay1 (wd 1)] := hD
  refine W.eq (g2 := F0 m 12 ls [.ref f1, .ref h]) rfl ?_
  refine va_putF (D := (dC, dI)) (ci := 2) (v := .ref f1) (ty := .object "ExactFractions$Fraction") (C := RX2) (T := TX2) (N := 4) hx hb hts (by decide +kernel) tyX2 tyX2_ok nmX2 hown hK hP hD hS 0 rfl rfl 0 (by decide) (hts (.fieldLink RX2 12 "ExactFractions" "first" "LExactFractions$Fraction;") (by decide +kernel)) (fun _ h9 => h9) rfl hin rfl (by decide +kernel) rfl rfl (Nat.le_of_ble_eq_true rfl) dX2_init_12 (fun H locs hP hD hS => ?_)
  have hP : va_P (dC, dI) vwCl [(h, .inr (2, [.ref f1, .null, .null, .null])), fo f1 x1 y1 0 0, wo x1 ax1 (wl 0), wa cI ax1 (wd 0), wo y1 ay1 (wl 1), wa cI ay1 (wd 1)] H := hP
  have hD : va_D (va_A [(h, .inr (2, [.null, .null, .null, .null]))] sz) [(h, .inr (2, [.ref f1, .null, .null, .null])), fo f1 x1 y1 0 0, wo x1 ax1 (wl 0), wa cI ax1 (wd 0), wo y1 ay1 (wl 1), wa cI ay1 (wd 1)] := hD
  refine lv_aload_n hx hb dX2_init_15 rfl (lv_at hl 0 rfl) ?_
  refine va_new (ci := 0) (fs := [.null, .null, .int (iv (0)), .int (iv (0))]) (C := RX0) (T := TX0) (N := 4) hx hb hts (by decide +kernel) tyX0 tyX0_ok hown (hts (.classLink RX2 9 RX0) (by decide +kernel)) (hts (.instantiable RX0 4) (by decide +kernel)) (hts (.initialized RX0) (by decide +kernel)) hK hP hD hS hA rfl (fun j hj => by rcases (show j = 0 ∨ j = 1 ∨ j = 2 ∨ j = 3 by omega) with rfl | rfl | rfl | rfl <;> rfl) (Nat.le_of_ble_eq_true rfl) (Nat.le_of_ble_eq_true rfl) dX2_init_16 (fun f2 H hP hD hS => ?_)
  have hP : va_P (dC, dI) vwCl [(h, .inr (2, [.ref f1, .null, .null, .null])), fo f1 x1 y1 0 0, wo x1 ax1 (wl 0), wa cI ax1 (wd 0), wo y1 ay1 (wl 1), wa cI ay1 (wd 1), (f2, .inr (0, [.null, .null, .int (iv 0), .int (iv 0)]))] H := hP
  have hD : va_D (va_A [(h, .inr (2, [.null, .null, .null, .null]))] sz) [(h, .inr (2, [.ref f1, .null, .null, .null])), fo f1 x1 y1 0 0, wo x1 ax1 (wl 0), wa cI ax1 (wd 0), wo y1 ay1 (wl 1), wa cI ay1 (wd 1), (f2, .inr (0, [.null, .null, .int (iv 0), .int (iv 0)]))] := hD
  refine lv_dup hx hb dX2_init_19 rfl ?_
  refine ef_callI (wr := [(h, .inr (2, [.ref f1, .null, .null, .null])), fo f1 x1 y1 0 0, wo x1 ax1 (wl 0), wa cI ax1 (wd 0), wo y1 ay1 (wl 1), wa cI ay1 (wd 1)]) (rest := [.ref f2, .ref h]) ⟨hx, hb, hml, hown, hts⟩ (c_Finit l dC dI cI f2 _) (cwI 0 hts gX2_init_X0_init rfl rfl rfl (hts (.initialized RX0) (by decide +kernel)) (hts (.methodLink RX2 11 yX0_init) (by decide +kernel)) (hts (.instanceMethod yX0_init) (by decide +kernel)) rfl (by decide +kernel) ⟨Nat.le_of_ble_eq_true rfl, Nat.le_of_ble_eq_true rfl⟩) hK hNX hP hD hS hA [6] [0, 1, 2, 3, 4, 5] (hP.sub [6] rfl) (hD.sub [6] (by decide) rfl) rfl rfl (by decide) (by decide) hl.1 rfl (Nat.le_of_ble_eq_true rfl) dX2_init_20 ⟨Nat.le_of_ble_eq_true rfl, Nat.le_of_ble_eq_true rfl⟩ (fun w1 H locs hq hP hD hS => ?_)
  obtain ⟨x2, y2, ax2, ay2, rfl⟩ := hq
  have hP : va_P (dC, dI) vwCl [(h, .inr (2, [.ref f1, .null, .null, .null])), fo f1 x1 y1 0 0, wo x1 ax1 (wl 0), wa cI ax1 (wd 0), wo y1 ay1 (wl 1), wa cI ay1 (wd 1), fo f2 x2 y2 0 0, wo x2 ax2 (wl 0), wa cI ax2 (wd 0), wo y2 ay2 (wl 1), wa cI ay2 (wd 1)] H := hP
  have hD : va_D (va_A [(h, .inr (2, [.null, .null, .null, .null]))] sz) [(h, .inr (2, [.ref f1, .null, .null, .null])), fo f1 x1 y1 0 0, wo x1 ax1 (wl 0), wa cI ax1 (wd 0), wo y1 ay1 (wl 1), wa cI ay1 (wd 1), fo f2 x2 y2 0 0, wo x2 ax2 (wl 0), wa cI ax2 (wd 0), wo y2 ay2 (wl 1), wa cI ay2 (wd 1)] := hD
  refine W.eq (g2 := F0 m 23 ls [.ref f2, .ref h]) rfl ?_
  refine va_putF (D := (dC, dI)) (ci := 2) (v := .ref f2) (ty := .object "ExactFractions$Fraction") (C := RX2) (T := TX2) (N := 4) hx hb hts (by decide +kernel) tyX2 tyX2_ok nmX2 hown hK hP hD hS 0 rfl rfl 1 (by decide) (hts (.fieldLink RX2 16 "ExactFractions" "second" "LExactFractions$Fraction;") (by decide +kernel)) (fun _ h9 => h9) rfl hin rfl (by decide +kernel) rfl rfl (Nat.le_of_ble_eq_true rfl) dX2_init_23 (fun H locs hP hD hS => ?_)
  have hP : va_P (dC, dI) vwCl [(h, .inr (2, [.ref f1, .ref f2, .null, .null])), fo f1 x1 y1 0 0, wo x1 ax1 (wl 0), wa cI ax1 (wd 0), wo y1 ay1 (wl 1), wa cI ay1 (wd 1), fo f2 x2 y2 0 0, wo x2 ax2 (wl 0), wa cI ax2 (wd 0), wo y2 ay2 (wl 1), wa cI ay2 (wd 1)] H := hP
  have hD : va_D (va_A [(h, .inr (2, [.null, .null, .null, .null]))] sz) [(h, .inr (2, [.ref f1, .ref f2, .null, .null])), fo f1 x1 y1 0 0, wo x1 ax1 (wl 0), wa cI ax1 (wd 0), wo y1 ay1 (wl 1), wa cI ay1 (wd 1), fo f2 x2 y2 0 0, wo x2 ax2 (wl 0), wa cI ax2 (wd 0), wo y2 ay2 (wl 1), wa cI ay2 (wd 1)] := hD
  refine lv_aload_n hx hb dX2_init_26 rfl (lv_at hl 0 rfl) ?_
  refine va_new (ci := 1) (fs := [.null, .int (iv (0))]) (C := RX1) (T := TX1) (N := 2) hx hb hts (by decide +kernel) tyX1 tyX1_ok hown (hts (.classLink RX2 19 RX1) (by decide +kernel)) (hts (.instantiable RX1 2) (by decide +kernel)) (hts (.initialized RX1) (by decide +kernel)) hK hP hD hS hA rfl (fun j hj => by rcases (show j = 0 ∨ j = 1 by omega) with rfl | rfl <;> rfl) (Nat.le_of_ble_eq_true rfl) (Nat.le_of_ble_eq_true rfl) dX2_init_27 (fun L H hP hD hS => ?_)
  have hP : va_P (dC, dI) vwCl [(h, .inr (2, [.ref f1, .ref f2, .null, .null])), fo f1 x1 y1 0 0, wo x1 ax1 (wl 0), wa cI ax1 (wd 0), wo y1 ay1 (wl 1), wa cI ay1 (wd 1), fo f2 x2 y2 0 0, wo x2 ax2 (wl 0), wa cI ax2 (wd 0), wo y2 ay2 (wl 1), wa cI ay2 (wd 1), (L, .inr (1, [.null, .int (iv 0)]))] H := hP
  have hD : va_D (va_A [(h, .inr (2, [.null, .null, .null, .null]))] sz) [(h, .inr (2, [.ref f1, .ref f2, .null, .null])), fo f1 x1 y1 0 0, wo x1 ax1 (wl 0), wa cI ax1 (wd 0), wo y1 ay1 (wl 1), wa cI ay1 (wd 1), fo f2 x2 y2 0 0, wo x2 ax2 (wl 0), wa cI ax2 (wd 0), wo y2 ay2 (wl 1), wa cI ay2 (wd 1), (L, .inr (1, [.null, .int (iv 0)]))] := hD
  refine lv_dup hx hb dX2_init_30 rfl ?_
  refine ef_callI (wr := [(h, .inr (2, [.ref f1, .ref f2, .null, .null])), fo f1 x1 y1 0 0, wo x1 ax1 (wl 0), wa cI ax1 (wd 0), wo y1 ay1 (wl 1), wa cI ay1 (wd 1), fo f2 x2 y2 0 0, wo x2 ax2 (wl 0), wa cI ax2 (wd 0), wo y2 ay2 (wl 1), wa cI ay2 (wd 1)]) (rest := [.ref L, .ref h]) ⟨hx, hb, hml, hown, hts⟩ (c_Winit l dC dI cI L _) (cwI 0 hts gX2_init_X1_init rfl rfl rfl (hts (.initialized RX1) (by decide +kernel)) (hts (.methodLink RX2 21 yX1_init) (by decide +kernel)) (hts (.instanceMethod yX1_init) (by decide +kernel)) rfl (by decide +kernel) ⟨Nat.le_of_ble_eq_true rfl, Nat.le_of_ble_eq_true rfl⟩) hK hNX hP hD hS hA [11] [0, 1, 2, 3, 4, 5, 6, 7, 8, 9, 10] (hP.sub [11] rfl) (hD.sub [11] (by decide) rfl) rfl rfl (by decide) (by decide) hl.1 rfl (Nat.le_of_ble_eq_true rfl) dX2_init_31 ⟨Nat.le_of_ble_eq_true rfl, Nat.le_of_ble_eq_true rfl⟩ (fun w1 H locs hq hP hD hS => ?_)
  obtain ⟨aL, rfl⟩ := hq
  have hP : va_P (dC, dI) vwCl [(h, .inr (2, [.ref f1, .ref f2, .null, .null])), fo f1 x1 y1 0 0, wo x1 ax1 (wl 0), wa cI ax1 (wd 0), wo y1 ay1 (wl 1), wa cI ay1 (wd 1), fo f2 x2 y2 0 0, wo x2 ax2 (wl 0), wa cI ax2 (wd 0), wo y2 ay2 (wl 1), wa cI ay2 (wd 1), wo L aL (wl 0), wa cI aL (wd 0)] H := hP
  have hD : va_D (va_A [(h, .inr (2, [.null, .null, .null, .null]))] sz) [(h, .inr (2, [.ref f1, .ref f2, .null, .null])), fo f1 x1 y1 0 0, wo x1 ax1 (wl 0), wa cI ax1 (wd 0), wo y1 ay1 (wl 1), wa cI ay1 (wd 1), fo f2 x2 y2 0 0, wo x2 ax2 (wl 0), wa cI ax2 (wd 0), wo y2 ay2 (wl 1), wa cI ay2 (wd 1), wo L aL (wl 0), wa cI aL (wd 0)] := hD
  refine W.eq (g2 := F0 m 34 ls [.ref L, .ref h]) rfl ?_
  refine va_putF (D := (dC, dI)) (ci := 2) (v := .ref L) (ty := .object "ExactFractions$Whole") (C := RX2) (T := TX2) (N := 4) hx hb hts (by decide +kernel) tyX2 tyX2_ok nmX2 hown hK hP hD hS 0 rfl rfl 2 (by decide) (hts (.fieldLink RX2 22 "ExactFractions" "left" "LExactFractions$Whole;") (by decide +kernel)) (fun _ h9 => h9) rfl hin rfl (by decide +kernel) rfl rfl (Nat.le_of_ble_eq_true rfl) dX2_init_34 (fun H locs hP hD hS => ?_)
  have hP : va_P (dC, dI) vwCl [(h, .inr (2, [.ref f1, .ref f2, .ref L, .null])), fo f1 x1 y1 0 0, wo x1 ax1 (wl 0), wa cI ax1 (wd 0), wo y1 ay1 (wl 1), wa cI ay1 (wd 1), fo f2 x2 y2 0 0, wo x2 ax2 (wl 0), wa cI ax2 (wd 0), wo y2 ay2 (wl 1), wa cI ay2 (wd 1), wo L aL (wl 0), wa cI aL (wd 0)] H := hP
  have hD : va_D (va_A [(h, .inr (2, [.null, .null, .null, .null]))] sz) [(h, .inr (2, [.ref f1, .ref f2, .ref L, .null])), fo f1 x1 y1 0 0, wo x1 ax1 (wl 0), wa cI ax1 (wd 0), wo y1 ay1 (wl 1), wa cI ay1 (wd 1), fo f2 x2 y2 0 0, wo x2 ax2 (wl 0), wa cI ax2 (wd 0), wo y2 ay2 (wl 1), wa cI ay2 (wd 1), wo L aL (wl 0), wa cI aL (wd 0)] := hD
  refine lv_aload_n hx hb dX2_init_37 rfl (lv_at hl 0 rfl) ?_
  refine va_new (ci := 1) (fs := [.null, .int (iv (0))]) (C := RX1) (T := TX1) (N := 2) hx hb hts (by decide +kernel) tyX1 tyX1_ok hown (hts (.classLink RX2 19 RX1) (by decide +kernel)) (hts (.instantiable RX1 2) (by decide +kernel)) (hts (.initialized RX1) (by decide +kernel)) hK hP hD hS hA rfl (fun j hj => by rcases (show j = 0 ∨ j = 1 by omega) with rfl | rfl <;> rfl) (Nat.le_of_ble_eq_true rfl) (Nat.le_of_ble_eq_true rfl) dX2_init_38 (fun R H hP hD hS => ?_)
  have hP : va_P (dC, dI) vwCl [(h, .inr (2, [.ref f1, .ref f2, .ref L, .null])), fo f1 x1 y1 0 0, wo x1 ax1 (wl 0), wa cI ax1 (wd 0), wo y1 ay1 (wl 1), wa cI ay1 (wd 1), fo f2 x2 y2 0 0, wo x2 ax2 (wl 0), wa cI ax2 (wd 0), wo y2 ay2 (wl 1), wa cI ay2 (wd 1), wo L aL (wl 0), wa cI aL (wd 0), (R, .inr (1, [.null, .int (iv 0)]))] H := hP
  have hD : va_D (va_A [(h, .inr (2, [.null, .null, .null, .null]))] sz) [(h, .inr (2, [.ref f1, .ref f2, .ref L, .null])), fo f1 x1 y1 0 0, wo x1 ax1 (wl 0), wa cI ax1 (wd 0), wo y1 ay1 (wl 1), wa cI ay1 (wd 1), fo f2 x2 y2 0 0, wo x2 ax2 (wl 0), wa cI ax2 (wd 0), wo y2 ay2 (wl 1), wa cI ay2 (wd 1), wo L aL (wl 0), wa cI aL (wd 0), (R, .inr (1, [.null, .int (iv 0)]))] := hD
  refine lv_dup hx hb dX2_init_41 rfl ?_
  refine ef_callI (wr := [(h, .inr (2, [.ref f1, .ref f2, .ref L, .null])), fo f1 x1 y1 0 0, wo x1 ax1 (wl 0), wa cI ax1 (wd 0), wo y1 ay1 (wl 1), wa cI ay1 (wd 1), fo f2 x2 y2 0 0, wo x2 ax2 (wl 0), wa cI ax2 (wd 0), wo y2 ay2 (wl 1), wa cI ay2 (wd 1), wo L aL (wl 0), wa cI aL (wd 0)]) (rest := [.ref R, .ref h]) ⟨hx, hb, hml, hown, hts⟩ (c_Winit l dC dI cI R _) (cwI 0 hts gX2_init_X1_init rfl rfl rfl (hts (.initialized RX1) (by decide +kernel)) (hts (.methodLink RX2 21 yX1_init) (by decide +kernel)) (hts (.instanceMethod yX1_init) (by decide +kernel)) rfl (by decide +kernel) ⟨Nat.le_of_ble_eq_true rfl, Nat.le_of_ble_eq_true rfl⟩) hK hNX hP hD hS hA [13] [0, 1, 2, 3, 4, 5, 6, 7, 8, 9, 10, 11, 12] (hP.sub [13] rfl) (hD.sub [13] (by decide) rfl) rfl rfl (by decide) (by decide) hl.1 rfl (Nat.le_of_ble_eq_true rfl) dX2_init_42 ⟨Nat.le_of_ble_eq_true rfl, Nat.le_of_ble_eq_true rfl⟩ (fun w1 H locs hq hP hD hS => ?_)
  obtain ⟨aR, rfl⟩ := hq
  have hP : va_P (dC, dI) vwCl [(h, .inr (2, [.ref f1, .ref f2, .ref L, .null])), fo f1 x1 y1 0 0, wo x1 ax1 (wl 0), wa cI ax1 (wd 0), wo y1 ay1 (wl 1), wa cI ay1 (wd 1), fo f2 x2 y2 0 0, wo x2 ax2 (wl 0), wa cI ax2 (wd 0), wo y2 ay2 (wl 1), wa cI ay2 (wd 1), wo L aL (wl 0), wa cI aL (wd 0), wo R aR (wl 0), wa cI aR (wd 0)] H := hP
  have hD : va_D (va_A [(h, .inr (2, [.null, .null, .null, .null]))] sz) [(h, .inr (2, [.ref f1, .ref f2, .ref L, .null])), fo f1 x1 y1 0 0, wo x1 ax1 (wl 0), wa cI ax1 (wd 0), wo y1 ay1 (wl 1), wa cI ay1 (wd 1), fo f2 x2 y2 0 0, wo x2 ax2 (wl 0), wa cI ax2 (wd 0), wo y2 ay2 (wl 1), wa cI ay2 (wd 1), wo L aL (wl 0), wa cI aL (wd 0), wo R aR (wl 0), wa cI aR (wd 0)] := hD
  refine W.eq (g2 := F0 m 45 ls [.ref R, .ref h]) rfl ?_
  refine va_putF (D := (dC, dI)) (ci := 2) (v := .ref R) (ty := .object "ExactFractions$Whole") (C := RX2) (T := TX2) (N := 4) hx hb hts (by decide +kernel) tyX2 tyX2_ok nmX2 hown hK hP hD hS 0 rfl rfl 3 (by decide) (hts (.fieldLink RX2 26 "ExactFractions" "right" "LExactFractions$Whole;") (by decide +kernel)) (fun _ h9 => h9) rfl hin rfl (by decide +kernel) rfl rfl (Nat.le_of_ble_eq_true rfl) dX2_init_45 (fun H locs hP hD hS => ?_)
  have hP : va_P (dC, dI) vwCl [(h, .inr (2, [.ref f1, .ref f2, .ref L, .ref R])), fo f1 x1 y1 0 0, wo x1 ax1 (wl 0), wa cI ax1 (wd 0), wo y1 ay1 (wl 1), wa cI ay1 (wd 1), fo f2 x2 y2 0 0, wo x2 ax2 (wl 0), wa cI ax2 (wd 0), wo y2 ay2 (wl 1), wa cI ay2 (wd 1), wo L aL (wl 0), wa cI aL (wd 0), wo R aR (wl 0), wa cI aR (wd 0)] H := hP
  have hD : va_D (va_A [(h, .inr (2, [.null, .null, .null, .null]))] sz) [(h, .inr (2, [.ref f1, .ref f2, .ref L, .ref R])), fo f1 x1 y1 0 0, wo x1 ax1 (wl 0), wa cI ax1 (wd 0), wo y1 ay1 (wl 1), wa cI ay1 (wd 1), fo f2 x2 y2 0 0, wo x2 ax2 (wl 0), wa cI ax2 (wd 0), wo y2 ay2 (wl 1), wa cI ay2 (wd 1), wo L aL (wl 0), wa cI aL (wd 0), wo R aR (wl 0), wa cI aR (wd 0)] := hD
  have hP : va_P (dC, dI) vwCl (cC cI (fun i => [h, f1, f2, x1, ax1, y1, ay1, x2, ax2, y2, ay2, L, aL, R, aR].getD i 0) 0 1 0 0 0 1 0 0 0 0) H := hP.sub [0, 1, 6, 2, 3, 4, 5, 7, 8, 9, 10, 11, 12, 13, 14] rfl
  have hD : va_D (va_A [(h, .inr (2, [.null, .null, .null, .null]))] sz) (cC cI (fun i => [h, f1, f2, x1, ax1, y1, ay1, x2, ax2, y2, ay2, L, aL, R, aR].getD i 0) 0 1 0 0 0 1 0 0 0 0) := hD.sub [0, 1, 6, 2, 3, 4, 5, 7, 8, 9, 10, 11, 12, 13, 14] (by decide) rfl
  refine W.widen (k := 14) (n := 1826) (Nat.le_of_ble_eq_true rfl) (Nat.le_of_ble_eq_true rfl) ?_
  exact ef_nret hx hb hr hlocks hP hD hS dX2_init_48 (⟨(fun i => [h, f1, f2, x1, ax1, y1, ay1, x2, ax2, y2, ay2, L, aL, R, aR].getD i 0), rfl, rfl⟩)
