/-! THE CLAIM OUT OF ONE WALK OF THE LAW'S BODY. Your part is whole_start (and what it stands on); all else here is the same for every law, but numbers. -/
def R_law : String := "ExactFractionsLaw"
def lw_P (b : Addr) (xs : List Int32) (args : Array Value) (s : State) : Prop := args = #[.ref b] ∧ s.IntsAt b xs ∧ xs.length ≤ 2560 ∧ (Jvm.Cond.and given_1 narrow_1).before args s = true
def lw_Q (_ : Array Value) (s : State) (o : Outcome) (t : State) : Prop := o = .returned (some (.int 1)) ∧ Framed s o t [] 42 8915
def lw_Z (below : List Frame) (a : Array Value) (s : State) : State → Prop := fun t => ∃ o, t.status = .running ∧ Ended t below o ∧ lw_Q a s o t
/-- the law's own end, with 1 on the stack, nothing written that was there before, its room as the claim has it -/
theorem lw_ret {p : Program} {l : Launch} {e : Env} {s : State} {m : MethodId} {below : List Frame} {meth : Method} {c : Code} {b : Nat} (hx : p.tables.exec = Jvm.exec) (hb : c.code = code) (hr : meth.sig.returnType = ret) (hlocks : meth.locks = false) {pc : Nat} {H : Heap} {ls : Array Slot} (hdg : decode code pc = .ok (.ireturn, 1)) : W p l e room_1 s m #[Value.ref b] below meth c H [] 42 8915 (lw_Z below #[Value.ref b] s) (F0 m pc ls [.int 1]) := by
  intro T hT X
  obtain ⟨fs, hret, hrun, hended, hW, hframe⟩ := X.leave (v := some (.int 1)) (hlocks := hlocks) (fun h => by rw [hr] at h; cases h)
  have hmeth' : T.vm.method? m = some meth := X.method'
  refine ⟨T.setFrames fs, ?_, .returned (some (.int 1)), hrun, hended, rfl, ⟨_, rfl⟩, hW, hframe⟩
  jvm_step X.here [X.here.top, hx, hb, hdg, hmeth', hr, ret, narrow_b1]
  (try refine ⟨rfl, ?_⟩); (try refine ⟨rfl, ?_⟩)
  first | (intro acts; rw [hret _ acts rfl rfl rfl]) | rw [hret _ _ rfl rfl rfl]
  exact Steps.refl _
/-- what holds at the law's entry: the machine, the code, the tables' words (any of lw_tbl by 'hts w (by decide +kernel)'), the script of L ints xs at the cell b, what the Statement gives of the start (any of its parts by flat_of_before) -/
def lw_At (p : Program) (s : State) (m : MethodId) (meth : Method) (c : Code) (b L : Nat) (xs : Nat → Int32) : Prop :=
  p.tables.exec = Jvm.exec ∧ c.code = code ∧ meth.sig.returnType = ret ∧ c.maxLocals = 4 ∧ s.vm.findClass R_law = some m.cls ∧ (∀ w ∈ lw_tbl, w.before #[Value.ref b] s = true) ∧ va_X b L xs s s.heap ∧ b < s.heap.size ∧ meth.locks = false ∧ (Jvm.Cond.and given_1 narrow_1).before #[Value.ref b] s = true

theorem ef_inL {w : Cond} (h : w ∈ efG) : w ∈ lw_tbl ∧ ((w.onTables && w.keeps) = true ∨ ∃ ty, w = .arrayClass ty) := ⟨(List.mem_filter.mp h).1, good_of_word (List.mem_filter.mp h).2⟩
theorem ef_goodL {c2 : Cond} {own C : String} {idx : Nat} {y : MethodName} (h1 : Cond.methodLink own idx y ∈ efG) (h2 : Cond.instanceMethod y ∈ efG) (h3 : Cond.selects C y y ∈ efG) (h4 : Cond.initialized C ∈ efG) (h5 : c2 ∈ efG) : GoodIn lw_tbl (wsV own idx C y (c2 :: efG)) := by
  intro w hw
  unfold wsV at hw
  rcases List.mem_append.mp hw with h | h
  · simp only [List.mem_cons, List.not_mem_nil, or_false] at h
    rcases h with rfl | rfl | rfl | rfl
    · exact ef_inL h1
    · exact ef_inL h2
    · exact ef_inL h3
    · exact ef_inL h4
  · rcases List.mem_cons.mp h with rfl | h
    · exact ef_inL h5
    · exact ef_inL h
theorem ef_goodLI {c2 : Cond} (h5 : c2 ∈ efG) : GoodIn lw_tbl (c2 :: efG) := by
  intro w hw
  rcases List.mem_cons.mp hw with rfl | h
  · exact ef_inL h5
  · exact ef_inL h
abbrev lwA (s : State) : Nat → Prop := fun q => s.heap.size ≤ q
abbrev lwCW (cI : ClassId) (q : Nat → Nat) (A1 U1 : Nat) (b1 e1 : Int) (A2 U2 : Nat) (b2 e2 : Int) (L R : Nat) : va_W := cC cI q A1 U1 b1 e1 A2 U2 b2 e2 L R
abbrev lwRW (cI : ClassId) (r : Nat → Nat) (V : Nat → Nat) (J : Nat → Nat → Nat) (pb pe ob oe : Int) (A1 U1 : Nat) (b1 e1 : Int) (A2 U2 : Nat) (b2 e2 : Int) : va_W := rC cI r (V 0) (V 1) (V 2) (V 3) (V 4) (V 5) (V 6) A1 U1 A2 U2 (J 0) (J 1) (J 2) (J 3) (J 4) (J 5) (J 6) (J 7) (J 8) (J 9) (J 10) pb pe ob oe b1 e1 b2 e2
/-- from every good state at a place of the law's loop the law comes to its end -/
def lw_G (p : Program) (l : Launch) (e : Env) (s : State) (m : MethodId) (b : Nat) (below : List Frame) (meth : Method) (c : Code) (dC : Nat → ClassId) (dI : Nat → Nat → Nat) (cI : ClassId) (pc i : Nat) : Prop :=
  ∀ (q r : Nat → Nat) (A1 U1 : Nat) (b1 e1 : Int) (A2 U2 : Nat) (b2 e2 : Int) (L R : Nat) (V : Nat → Nat) (J : Nat → Nat → Nat) (pb pe ob oe : Int) (H : Heap) (locs : List Loc) (ls : Array Slot), wf A1 U1 b1 e1 → wf A2 U2 b2 e2 → wl L ≤ 301 → wl R ≤ 301 → rJ V J → bk A1 (J 7) → bk U1 (J 8) → bk A2 (J 9) → bk U2 (J 10) →
    va_P (dC, dI) vwCl (lwCW cI q A1 U1 b1 e1 A2 U2 b2 e2 L R ++ lwRW cI r V J pb pe ob oe A1 U1 b1 e1 A2 U2 b2 e2) H → va_D (lwA s) (lwCW cI q A1 U1 b1 e1 A2 U2 b2 e2 L R ++ lwRW cI r V J pb pe ob oe A1 U1 b1 e1 A2 U2 b2 e2) → va_S (lwA s) s.heap H locs → lv_has ls 4 [(0, .ref b), (1, .ref (q 0)), (2, .ref (r 0)), (3, .int (iv (i : Int)))] →
    W p l e room_1 s m #[Value.ref b] below meth c H locs 42 8915 (lw_Z below #[Value.ref b] s) (F0 m pc ls [])
section LAWROWS
variable {p : Program} {l : Launch} {e : Env} {R : Room} {s : State} {m : MethodId} {args : Array Value} {below : List Frame} {meth : Method} {c : Code} {H : Heap} {locs : List Loc} {cells slots : Nat} {Q : State → Prop} {cc : ByteArray} {pc : Nat} {ls : Array Slot} {rest : List Value} {A : Nat → Prop} {H0 : Heap}
theorem lw_sld (hx : p.tables.exec = Jvm.exec) (hb : c.code = cc) {b L0 : Nat} {xs : Nat → Int32} (hX : va_X b L0 xs s H0) (hbl : b < H0.size) (hbA : ¬ A b) (hS : va_S A H0 H locs) {z : Int} (j : Nat) (hz : z = (j : Int)) (hj : j < L0) (hL : L0 ≤ 2560) (hdg : decode cc pc = .ok (.iaload, 1))
    (kk : W p l e R s m args below meth c H locs cells slots Q (F0 m (pc + 1) ls (.int (iv ((xs j).toInt)) :: rest))) : W p l e R s m args below meth c H locs cells slots Q (F0 m pc ls (.int (iv z) :: .ref b :: rest)) := by
  subst hz
  refine va_sld hx hb hX hbl hbA hS (iv_in hj (by omega)) hdg ?_
  rw [iv_clamp (by omega)]
  rw [iv_of] at kk
  exact kk
/-- a test of a word against 0, its answer on the stack -/
theorem lw_nz (hx : p.tables.exec = Jvm.exec) (hb : c.code = cc) {z : Int} (hz : ir z) (h0 : decode cc pc = .ok (.ifCond .eq 7, 3)) (h1 : decode cc (pc + 3) = .ok (.iconst 1, 1)) (h2 : decode cc (pc + 3 + 1) = .ok (.goto 4, 3)) (h3 : decode cc (pc + 7) = .ok (.iconst 0, 1))
    (kk : W p l e R s m args below meth c H locs cells slots Q (F0 m (pc + 8) ls (.int (iv (if z = 0 then 0 else 1)) :: rest))) : W p l e R s m args below meth c H locs cells slots Q (F0 m pc ls (.int (iv z) :: rest)) := by
  refine iw_if_eq (tgt := pc + 7) hx hb h0 (by omega) hz (fun h => ?_) (fun h => ?_)
  · rw [if_pos h] at kk
    exact lv_iconst (v := iv 0) hx hb h3 (by decide) kk
  · rw [if_neg h] at kk
    refine lv_iconst (v := iv 1) hx hb h1 (by decide) ?_
    exact lv_goto (tgt := pc + 8) hx hb h2 (by omega) kk
end LAWROWS

theorem gL_begin : GoodIn lw_tbl (wsV R_law 13 RX2 yX2_begin wsX2_begin) := goodIn_of _ (by decide +kernel)
theorem rgL_begin : GoodIn lw_tbl (wsV R_law 17 rR5 ry_M_begin rw_M_begin) := ef_goodL (by decide +kernel) (by decide +kernel) (by decide +kernel) rm_24 rm_335
theorem gL_digit : GoodIn lw_tbl (wsV R_law 18 RX2 yX2_digit wsX2_digit) := goodIn_of _ (by decide +kernel)
theorem rgL_digit : GoodIn lw_tbl (wsV R_law 22 rR5 ry_M_digit rw_M_digit) := ef_goodL (by decide +kernel) (by decide +kernel) (by decide +kernel) rm_24 rm_346
theorem gL_set : GoodIn lw_tbl (wsV R_law 25 RX2 yX2_set wsX2_set) := goodIn_of _ (by decide +kernel)
theorem rgL_set : GoodIn lw_tbl (wsV R_law 29 rR5 ry_M_set rw_M_set) := ef_goodL (by decide +kernel) (by decide +kernel) (by decide +kernel) rm_24 rm_367
theorem gL_scale : GoodIn lw_tbl (wsV R_law 30 RX2 yX2_scale wsX2_scale) := goodIn_of _ (by decide +kernel)
theorem rgL_scale : GoodIn lw_tbl (wsV R_law 34 rR5 ry_M_scale rw_M_scale) := ef_goodL (by decide +kernel) (by decide +kernel) (by decide +kernel) rm_24 rm_372
theorem gL_turn : GoodIn lw_tbl (wsV R_law 35 RX2 yX2_turn wsX2_turn) := goodIn_of _ (by decide +kernel)
theorem rgL_turn : GoodIn lw_tbl (wsV R_law 38 rR5 ry_M_turn rw_M_turn) := ef_goodL (by decide +kernel) (by decide +kernel) (by decide +kernel) rm_24 rm_376
theorem gL_move : GoodIn lw_tbl (wsV R_law 39 RX2 yX2_move wsX2_move) := goodIn_of _ (by decide +kernel)
theorem rgL_move : GoodIn lw_tbl (wsV R_law 43 rR5 ry_M_move rw_M_move) := ef_goodL (by decide +kernel) (by decide +kernel) (by decide +kernel) rm_24 rm_380
theorem gL_bits : GoodIn lw_tbl (wsV R_law 44 RX2 yX2_bits wsX2_bits) := goodIn_of _ (by decide +kernel)
theorem rgL_bits : GoodIn lw_tbl (wsV R_law 48 rR5 ry_M_bits rw_M_bits) := ef_goodL (by decide +kernel) (by decide +kernel) (by decide +kernel) rm_24 rm_401
theorem gL_word : GoodIn lw_tbl (wsV R_law 49 RX2 yX2_word wsX2_word) := goodIn_of _ (by decide +kernel)
theorem rgL_word : GoodIn lw_tbl (wsV R_law 53 rR5 ry_M_word rw_M_word) := ef_goodL (by decide +kernel) (by decide +kernel) (by decide +kernel) rm_24 rm_405
theorem gL_compare : GoodIn lw_tbl (wsV R_law 54 RX2 yX2_compare wsX2_compare) := goodIn_of _ (by decide +kernel)
theorem rgL_compare : GoodIn lw_tbl (wsV R_law 58 rR5 ry_M_compare rw_M_compare) := ef_goodL (by decide +kernel) (by decide +kernel) (by decide +kernel) rm_24 rm_409
theorem gL_round : GoodIn lw_tbl (wsV R_law 59 RX2 yX2_round wsX2_round) := goodIn_of _ (by decide +kernel)
theorem rgL_round : GoodIn lw_tbl (wsV R_law 63 rR5 ry_M_round rw_M_round) := ef_goodL (by decide +kernel) (by decide +kernel) (by decide +kernel) rm_24 rm_438
