/-! Constructors: they make cells -/
def ef_QN (D : va_G) (cl : List vw_C) (x0 : Nat × va_E) (sz : Nat) (post : va_W → Prop) : Array Value → State → Outcome → State → Prop := fun _ st oc t => (∃ w1 : va_W, oc = .returned none ∧ post w1 ∧ va_P D cl w1 t.heap ∧ va_D (va_A [x0] sz) w1) ∧ va_F (va_A [x0] sz) st t
def ef_N (l : Launch) (y : MethodName) (w : List Cond) (rm : Room) (D : va_G) (cl : List vw_C) (tys : List (ClassId × FieldType)) (x0 : Nat × va_E) (sz : Nat) (post : va_W → Prop) (mc ms : Nat) : Prop := Met l y w rm (va_Pc [.ref x0.1] (fun U => U.heap.size = sz ∧ va_P D cl [x0] U.heap ∧ va_K D cl tys U ∧ va_D (fun _ => True) [x0] ∧ ef_X U)) (ef_QN D cl x0 sz post) mc ms (va_A [x0] sz)
theorem ef_N.of {l : Launch} {y : MethodName} {w w' : List Cond} {rm : Room} {D : va_G} {cl : List vw_C} {tys : List (ClassId × FieldType)} {x0 : Nat × va_E} {sz : Nat} {post : va_W → Prop} {mc ms : Nat} {cc : ByteArray} {maxL : Nat} (hy : plainName y.cls = true) (hyn : y.name = "<init>") (hw : w = Cond.code y cc maxL none :: w') (hn : 1 ≤ maxL)
    (body : ∀ (p : Program) (e : Env) (s : State) (m : MethodId) (below : List Frame) (meth : Method) (c : Code) (ls : Array Slot), p.tables.exec = Jvm.exec → c.code = cc → c.maxLocals = maxL → meth.sig.returnType = none → (∀ x ∈ w, x.before ([.ref x0.1] : List Value).toArray s = true) → s.vm.findClass y.cls = some m.cls → meth.locks = false → meth.name = "<init>" → va_K D cl tys s → ef_X s → (∀ q, s.heap.size ≤ q → va_A [x0] sz q) → va_P D cl [x0] s.heap → va_D (va_A [x0] sz) [x0] → va_S (va_A [x0] sz) s.heap s.heap [] → lv_has ls maxL [(0, .ref x0.1)] → W p l e rm s m ([.ref x0.1] : List Value).toArray below meth c s.heap [] 0 0 (MQ below (ef_QN D cl x0 sz post) ([.ref x0.1] : List Value).toArray s mc ms (va_A [x0] sz)) (F0 m 0 ls [])) : ef_N l y w rm D cl tys x0 sz post mc ms := by
  refine Met.ofW (cc := cc) (maxL := maxL) (ret := none) hy hw ?_
  intro p e s m args below meth c s₁ B hml hv
  obtain ⟨rfl, hsz, hP, hK, hD0, hX⟩ := hv
  have hl := lv_entry [.ref x0.1] (n := maxL) hn
  rw [lg_entry_eq]
  exact body p e s m below meth c _ B.exec B.bytes hml B.returns (atoms_spec (ws := w) B.pre) (findClass_of_methodNamed B.named) B.notSynchronized ((name_of_methodNamed B.named B.method).1.trans hyn) hK hX (fun q h => Or.inr (by omega)) hP hD0.self va_S.rf hl
section NCALLS
variable {p : Program} {l : Launch} {e : Env} {R : Room} {s : State} {m : MethodId} {args : Array Value} {below : List Frame} {meth : Method} {c : Code} {H : Heap} {locs : List Loc} {cells slots : Nat} {Q : State → Prop} {cc : ByteArray} {pc : Nat} {ls : Array Slot} {rest st0 : List Value}
variable {D : va_G} {cl : List vw_C} {tys : List (ClassId × FieldType)} {ws wr : va_W} {A : Nat → Prop} {H0 : Heap} {x0 : Nat × va_E} {sz mc ms : Nat} {post : va_W → Prop} {av : List Value}
theorem ef_nret {w1 : va_W} (hx : p.tables.exec = Jvm.exec) (hb : c.code = cc) (hr : meth.sig.returnType = none) (hlocks : meth.locks = false) (hP : va_P D cl w1 H) (hD : va_D (va_A [x0] sz) w1) (hS : va_S (va_A [x0] sz) s.heap H locs) (hdg : decode cc pc = .ok (.return_, 1)) (hp : post w1) : W p l e R s m args below meth c H locs mc ms (MQ below (ef_QN D cl x0 sz post) args s mc ms (va_A [x0] sz)) (F0 m pc ls []) :=
  W.vret hx hb hr (fun t ht _ => ⟨⟨w1, rfl, hp, by rw [ht]; exact hP, hD⟩, hS.F ht⟩) hS.2.2 hdg hlocks
theorem ef_contN {a : Array Value} (hr : va_Run p l e R s m args below meth c H locs cells slots mc ms (F0 m pc ls st0) rest (ef_QN D cl x0 H.size post a) (va_A [x0] H.size)) (hP : va_P D cl ws H) (hD : va_D A ws) (hS : va_S A H0 H locs) (hA : ∀ q, H0.size ≤ q → A q) (isC isR : List Nat) (hC : isC.map (fun i => ws[i]?) = [x0].map some) (hR : isR.map (fun i => ws[i]?) = wr.map some) (hn : va_nd isR = true) (hdis : ∀ i ∈ isR, i ∉ isC)
    (kk : ∀ (w1 : va_W) (H1 : Heap) (locs1 : List Loc), post w1 → va_P D cl (wr ++ w1) H1 → va_D A (wr ++ w1) → va_S A H0 H1 locs1 → W p l e R s m args below meth c H1 locs1 (cells + mc) (slots + ms) Q (F0 m (pc + 3) ls rest)) : W p l e R s m args below meth c H locs cells slots Q (F0 m pc ls st0) := by
  have hF := va_free (wc := [x0]) hD hS hA isC hC
  intro T hT X
  obtain ⟨v, st₀, t, T', L, h0, X', hL, e1, e2, ⟨⟨w1, hv, hp, hb, hd⟩, hz, hk⟩, st⟩ := hr T hT X
  cases hv
  rw [h0] at hz hk
  obtain ⟨hP2, hD2⟩ := va_join (wr := wr) (w1 := w1) (H1 := T'.heap) hP hD isC isR hC hR hn hdis (fun q h1 h2 => by rw [e1]; exact hk q h1 h2) hF (by rw [e1]; exact hb) hd
  obtain ⟨t2, a1, b1⟩ := kk w1 T'.heap (locs ++ L) hp hP2 hD2 ⟨Nat.le_trans hS.1 (by rw [e1]; exact hz), fun q h1 h2 => by rw [e1, hk q (Nat.lt_of_lt_of_le h1 hS.1) (fun z => h2 (hF q z))]; exact hS.2.1 q h1 h2, fun q hq => by
      rcases List.mem_append.mp hq with h | h
      · exact hS.2.2 q h
      · exact hF _ (hL q h)⟩ T' rfl X'
  exact ⟨t2, st t2 a1, b1⟩
theorem ef_npre (hK : va_K D cl tys s) (hX : ef_X s) (hP : va_P D cl [x0] H) (hD : va_D A [x0]) : PreS s H (va_Pc [.ref x0.1] (fun U => U.heap.size = H.size ∧ va_P D cl [x0] U.heap ∧ va_K D cl tys U ∧ va_D (fun _ => True) [x0] ∧ ef_X U)) [.ref x0.1] :=
  ⟨fun a U g mk q => by obtain ⟨q0, qz, qP, qK, qD, qX⟩ := q; exact ⟨q0, qz, qP, va_K.moved (u := U) (U := U.calling g mk a) (Vm.Alike.refl U.vm) qK, qD, ef_X.same (s := U) (U := U.calling g mk a) rfl qX⟩, fun U hU hW => ⟨rfl, by rw [hU], by rw [hU]; exact hP, va_K.moved hW.alike hK, hD.weaken (fun _ _ _ _ => trivial), hX.warm hW⟩⟩
variable {y : MethodName} {w : List Cond} {rm : Room} {Ts : List Cond} {bytes : ByteArray} {nL maxL index : Nat} {own host : String}
theorem ef_callI (S : CallFix p m c cc nL s args Ts own) (hM : ef_N l y w rm D cl tys x0 H.size post mc ms) (cw : CallB R s args own index y bytes maxL none w rm mc ms 0 ∧ y.name = "<init>" ∧ (Cond.instanceMethod y).before args s = true) (hK : va_K D cl tys s) (hX : ef_X s) (hP : va_P D cl ws H) (hD : va_D A ws) (hS : va_S A H0 H locs) (hA : ∀ q, H0.size ≤ q → A q) (isC isR : List Nat) (hP1 : va_P D cl [x0] H) (hD1 : va_D A [x0]) (hC : isC.map (fun i => ws[i]?) = [x0].map some) (hR : isR.map (fun i => ws[i]?) = wr.map some) (hn : va_nd isR = true) (hdis : ∀ i ∈ isR, i ∉ isC) (hsize : ls.size = nL) (hstack : st0 = .ref x0.1 :: rest) (hW : (rest.map fun v => v.category).sum ≤ 8) (hdg : decode cc pc = .ok (.invokespecial index, 3)) (hf : cells + mc ≤ R.cells ∧ slots + ms ≤ R.slots)
    (kk : ∀ (w1 : va_W) (H1 : Heap) (locs1 : List Loc), post w1 → va_P D cl (wr ++ w1) H1 → va_D A (wr ++ w1) → va_S A H0 H1 locs1 → W p l e R s m args below meth c H1 locs1 (cells + mc) (slots + ms) Q (F0 m (pc + 3) ls rest)) : W p l e R s m args below meth c H locs cells slots Q (F0 m pc ls st0) :=
  ef_contN (va_runI (As := []) S hM cw (ef_npre hK hX hP1 hD1) rfl rfl hsize hstack (lv_room hW) hdg hf) hP hD hS hA isC isR hC hR hn hdis kk
theorem ef_callIN (S : CallFix p m c cc nL s args Ts own) (hM : ef_N l y w rm D cl tys x0 H.size post mc ms) (cw : va_CN R s args own index y host bytes maxL none w rm mc ms 0 ∧ y.name = "<init>" ∧ (Cond.instanceMethod y).before args s = true) (hK : va_K D cl tys s) (hX : ef_X s) (hP : va_P D cl ws H) (hD : va_D A ws) (hS : va_S A H0 H locs) (hA : ∀ q, H0.size ≤ q → A q) (isC isR : List Nat) (hP1 : va_P D cl [x0] H) (hD1 : va_D A [x0]) (hC : isC.map (fun i => ws[i]?) = [x0].map some) (hR : isR.map (fun i => ws[i]?) = wr.map some) (hn : va_nd isR = true) (hdis : ∀ i ∈ isR, i ∉ isC) (hsize : ls.size = nL) (hstack : st0 = .ref x0.1 :: rest) (hW : (rest.map fun v => v.category).sum ≤ 8) (hdg : decode cc pc = .ok (.invokespecial index, 3)) (hf : cells + mc ≤ R.cells ∧ slots + ms ≤ R.slots)
    (kk : ∀ (w1 : va_W) (H1 : Heap) (locs1 : List Loc), post w1 → va_P D cl (wr ++ w1) H1 → va_D A (wr ++ w1) → va_S A H0 H1 locs1 → W p l e R s m args below meth c H1 locs1 (cells + mc) (slots + ms) Q (F0 m (pc + 3) ls rest)) : W p l e R s m args below meth c H locs cells slots Q (F0 m pc ls st0) :=
  ef_contN (va_runIN (As := []) S hM cw (ef_npre hK hX hP1 hD1) rfl rfl hsize hstack (lv_room hW) hdg hf) hP hD hS hA isC isR hC hR hn hdis kk
end NCALLS
/-- the class of int arrays is one -/
theorem ef_cI {D : va_G} {cl : List vw_C} {cI cA : ClassId} {s : State} (h : va_K D cl ([(cI, .int)] ++ [(cA, .int)]) s) : cI = cA := by
  have h1 : s.vm.findClass ("[" ++ FieldType.int.toString) = some cI := (h.2 0 _ rfl).2
  have h2 : s.vm.findClass ("[" ++ FieldType.int.toString) = some cA := (h.2 1 _ rfl).2
  exact Option.some.inj (h1.symm.trans h2)
theorem wA_zero (cA : ClassId) : vp_cell cA (301, .inl (wA (wd 0))) = arrV cA 301 (fun _ => defaultValue .int) := by
  rw [vp_cell_i]
  congr 1
  funext j
  show Value.int (iv ((wd 0 j : Nat) : Int)) = Value.int 0
  rw [wd_above (Nat.zero_le _)]
  rfl
theorem wA_zeroB (cA : ClassId) : vp_cell cA (640, .inl (wA (fun _ => 0))) = arrV cA 640 (fun _ => defaultValue .int) := rfl
theorem wo_zero (h a : Nat) : wo h a (wl 0) = (h, .inr (1, [.ref a, .int (iv 0)])) := by
  rw [wl_0.mpr rfl]; rfl
theorem bo_zero (h a : Nat) : bo h a (dn 0) = (h, .inr (3, [.ref a, .int (iv 0)])) := by
  rw [dn_0.mpr rfl]; rfl
theorem nr_301 : (iv 301).toNatClampNeg = 301 := by decide +kernel
theorem nr_640 : (iv 640).toNatClampNeg = 640 := by decide +kernel

set_option maxRecDepth 100000 in
set_option maxHeartbeats 4000000 in
/-- Whole() -/
theorem c_Winit (l : Launch) (dC : Nat → ClassId) (dI : Nat → Nat → Nat) (cI : ClassId) (h : Nat) (sz : Nat) : ef_N l yX1_init wsX1_init ({ frames := 1, cells := 1, slots := 301, locals := 14 } : Room) (dC, dI) vwCl [(cI, .int)] ((h, .inr (1, [.null, .int (iv 0)]))) sz (fun w1 => ∃ a : Nat, w1 = [wo h a (wl 0), wa cI a (wd 0)]) 1 301 := by
  refine ef_N.of (cc := cX1_init) (maxL := 1) (by decide) rfl rfl (by decide) ?_
  intro p e s m below meth c ls hx hb hml hr hts hown hlocks hin hK hNX hA hP hD hS hl
  have hown : s.vm.findClass RX1 = some m.cls := hown
  generalize hH : s.heap = H at hP ⊢
  have hS : va_S (va_A [(h, .inr (1, [.null, .int (iv 0)]))] sz) s.heap H [] := by rw [← hH]; exact hS
  generalize ([] : List Loc) = locs at hS ⊢
  refine lv_aload_n hx hb dX1_init_0 rfl (lv_at hl 0 rfl) ?_
  refine W.objInit hx hb hown (hts (.methodLink RX1 3 objectInit) (by decide +kernel)) (hts (.instanceMethod objectInit) (by decide +kernel)) (hts (.code objectInit ⟨#[0xb1]⟩ 1 none) (by decide +kernel)) rfl (by rw [hml]; exact hl.1) rfl dX1_init_1 (Nat.le_of_ble_eq_true rfl) (Nat.le_of_ble_eq_true rfl) ?_
  refine W.eq (g2 := F0 m 4 ls []) rfl ?_
  refine lv_aload_n hx hb dX1_init_4 rfl (lv_at hl 0 rfl) ?_
  refine lv_sipush (v := iv (301)) hx hb dX1_init_5 (by decide) ?_
  refine va_newa (atype := .int) (ty := .int) (a0 := (301, .inl (wA (wd 0)))) hx hb (hts (.arrayClass .int) (by decide +kernel)) rfl hK hP hD hS hA wA_zero (by decide +kernel) (N' := 301) nr_301 (by decide +kernel) (Nat.le_of_ble_eq_true rfl) (Nat.le_of_ble_eq_true rfl) dX1_init_8 (fun a cA H hK2 hP hD hS => ?_)
  have hcA := ef_cI hK2
  subst hcA
  have hP : va_P (dC, dI) vwCl [(h, .inr (1, [.null, .int (iv 0)])), wa cI a (wd 0)] H := hP
  have hD : va_D (va_A [(h, .inr (1, [.null, .int (iv 0)]))] sz) [(h, .inr (1, [.null, .int (iv 0)])), wa cI a (wd 0)] := hD
  refine va_putF (D := (dC, dI)) (ci := 1) (v := .ref a) (ty := .array .int) (C := RX1) (T := TX1) (N := 2) hx hb hts (by decide +kernel) tyX1 tyX1_ok nmX1 hown hK hP hD hS 0 rfl rfl 0 (by decide) (hts (.fieldLink RX1 9 "ExactFractions$Whole" "words" "[I") (by decide +kernel)) (fun _ h9 => h9) rfl hin rfl (by decide +kernel) rfl rfl (Nat.le_of_ble_eq_true rfl) dX1_init_10 (fun H locs hP hD hS => ?_)
  have hP : va_P (dC, dI) vwCl [(h, .inr (1, [.ref a, .int (iv 0)])), wa cI a (wd 0)] H := hP
  have hD : va_D (va_A [(h, .inr (1, [.null, .int (iv 0)]))] sz) [(h, .inr (1, [.ref a, .int (iv 0)])), wa cI a (wd 0)] := hD
  refine lv_aload_n hx hb dX1_init_13 rfl (lv_at hl 0 rfl) ?_
  refine lv_iconst (v := iv (0)) hx hb dX1_init_14 (by decide) ?_
  refine va_put (D := (dC, dI)) (ci := 1) (v := .int (iv (0))) (ty := .int) (C := RX1) (T := TX1) (N := 2) hx hb hts (by decide +kernel) tyX1 tyX1_ok nmX1 hown hK hP hD hS 0 rfl rfl 1 (by decide) (hts (.fieldLink RX1 15 "ExactFractions$Whole" "used" "I") (by decide +kernel)) (fun _ h9 => h9) rfl (by decide +kernel) rfl rfl (Nat.le_of_ble_eq_true rfl) dX1_init_15 (fun H locs hP hD hS => ?_)
  have hP : va_P (dC, dI) vwCl [(h, .inr (1, [.ref a, .int (iv 0)])), wa cI a (wd 0)] H := hP
  have hD : va_D (va_A [(h, .inr (1, [.null, .int (iv 0)]))] sz) [(h, .inr (1, [.ref a, .int (iv 0)])), wa cI a (wd 0)] := hD
  refine W.widen (k := 1) (n := 301) (Nat.le_of_ble_eq_true rfl) (Nat.le_of_ble_eq_true rfl) ?_
  exact ef_nret hx hb hr hlocks hP hD hS dX1_init_18 (⟨a, by rw [wo_zero]⟩)

set_option maxRecDepth 100000 in
set_option maxHeartbeats 4000000 in
/-- Big() -/
theorem r_Binit (l : Launch) (dC : Nat → ClassId) (dI : Nat → Nat → Nat) (cI : ClassId) (h : Nat) (sz : Nat) : ef_N l ry_B_init rw_B_init ({ frames := 1, cells := 1, slots := 640, locals := 14 } : Room) (dC, dI) vwCl [(cI, .int)] ((h, .inr (3, [.null, .int (iv 0)]))) sz (fun w1 => ∃ a : Nat, w1 = [bo h a (dn 0), ba cI a (fun _ => 0)]) 1 640 := by
  refine ef_N.of (cc := rc_B_init) (maxL := 1) (by decide) rfl rfl (by decide) ?_
  intro p e s m below meth c ls hx hb hml hr hts hown hlocks hin hK hNX hA hP hD hS hl
  have hown : s.vm.findClass rR3 = some m.cls := hown
  generalize hH : s.heap = H at hP ⊢
  have hS : va_S (va_A [(h, .inr (3, [.null, .int (iv 0)]))] sz) s.heap H [] := by rw [← hH]; exact hS
  generalize ([] : List Loc) = locs at hS ⊢
  refine lv_aload_n hx hb rd_B_init_0 rfl (lv_at hl 0 rfl) ?_
  refine W.objInit hx hb hown (hts (.methodLink rR3 1 objectInit) (List.mem_cons_of_mem _ (by decide +kernel))) (hts (.instanceMethod objectInit) (List.mem_cons_of_mem _ (by decide +kernel))) (hts (.code objectInit ⟨#[0xb1]⟩ 1 none) (List.mem_cons_of_mem _ (by decide +kernel))) rfl (by rw [hml]; exact hl.1) rfl rd_B_init_1 (Nat.le_of_ble_eq_true rfl) (Nat.le_of_ble_eq_true rfl) ?_
  refine W.eq (g2 := F0 m 4 ls []) rfl ?_
  refine lv_aload_n hx hb rd_B_init_4 rfl (lv_at hl 0 rfl) ?_
  refine lv_sipush (v := iv (640)) hx hb rd_B_init_5 (by decide) ?_
  refine va_newa (atype := .int) (ty := .int) (a0 := (640, .inl (wA (fun _ => 0)))) hx hb (hts _ (List.mem_cons_of_mem _ rm_54)) rfl hK hP hD hS hA wA_zeroB (by decide +kernel) (N' := 640) nr_640 (by decide +kernel) (Nat.le_of_ble_eq_true rfl) (Nat.le_of_ble_eq_true rfl) rd_B_init_8 (fun a cA H hK2 hP hD hS => ?_)
  have hcA := ef_cI hK2
  subst hcA
  have hP : va_P (dC, dI) vwCl [(h, .inr (3, [.null, .int (iv 0)])), ba cI a (fun _ => 0)] H := hP
  have hD : va_D (va_A [(h, .inr (3, [.null, .int (iv 0)]))] sz) [(h, .inr (3, [.null, .int (iv 0)])), ba cI a (fun _ => 0)] := hD
  refine va_putF (D := (dC, dI)) (ci := 3) (v := .ref a) (ty := .array .int) (C := rR3) (T := rT3) (N := 2) hx hb hts (fun w h => List.mem_cons_of_mem _ (rin3 w h)) rty3 rtyok3 rnm3 hown hK hP hD hS 0 rfl rfl 0 (by decide) (hts _ (List.mem_cons_of_mem _ rm_266)) (fun _ h9 => h9) rfl hin rfl (by decide +kernel) rfl rfl (Nat.le_of_ble_eq_true rfl) rd_B_init_10 (fun H locs hP hD hS => ?_)
  have hP : va_P (dC, dI) vwCl [(h, .inr (3, [.ref a, .int (iv 0)])), ba cI a (fun _ => 0)] H := hP
  have hD : va_D (va_A [(h, .inr (3, [.null, .int (iv 0)]))] sz) [(h, .inr (3, [.ref a, .int (iv 0)])), ba cI a (fun _ => 0)] := hD
  refine W.widen (k := 1) (n := 640) (Nat.le_of_ble_eq_true rfl) (Nat.le_of_ble_eq_true rfl) ?_
  exact ef_nret hx hb hr hlocks hP hD hS rd_B_init_13 (⟨a, by rw [bo_zero]⟩)
