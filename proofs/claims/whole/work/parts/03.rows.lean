section ROWS
variable {p : Program} {l : Launch} {e : Env} {R : Room} {s : State} {m : MethodId} {args : Array Value} {below : List Frame} {meth : Method} {c : Code} {H : Heap} {locs : List Loc} {cells slots : Nat} {Q : State → Prop} {cc : ByteArray} {pc : Nat} {ls : Array Slot} {rest : List Value}
theorem iw_iadd (hx : p.tables.exec = Jvm.exec) (hb : c.code = cc) {a b : Int} (hdg : decode cc pc = .ok (.iadd, 1)) (k : W p l e R s m args below meth c H locs cells slots Q (F0 m (pc + 1) ls (.int (iv (a + b)) :: rest))) : W p l e R s m args below meth c H locs cells slots Q (F0 m pc ls (.int (iv b) :: .int (iv a) :: rest)) := lv_iadd hx hb hdg (by rw [iv_add]; exact k)
theorem iw_isub (hx : p.tables.exec = Jvm.exec) (hb : c.code = cc) {a b : Int} (hdg : decode cc pc = .ok (.isub, 1)) (k : W p l e R s m args below meth c H locs cells slots Q (F0 m (pc + 1) ls (.int (iv (a - b)) :: rest))) : W p l e R s m args below meth c H locs cells slots Q (F0 m pc ls (.int (iv b) :: .int (iv a) :: rest)) := lv_isub hx hb hdg (by rw [iv_sub]; exact k)
theorem iw_imul (hx : p.tables.exec = Jvm.exec) (hb : c.code = cc) {a b : Int} (hdg : decode cc pc = .ok (.imul, 1)) (k : W p l e R s m args below meth c H locs cells slots Q (F0 m (pc + 1) ls (.int (iv (a * b)) :: rest))) : W p l e R s m args below meth c H locs cells slots Q (F0 m pc ls (.int (iv b) :: .int (iv a) :: rest)) := lv_imul hx hb hdg (by rw [iv_mul]; exact k)
theorem iw_ladd (hx : p.tables.exec = Jvm.exec) (hb : c.code = cc) {a b : Int} (hdg : decode cc pc = .ok (.ladd, 1)) (k : W p l e R s m args below meth c H locs cells slots Q (F0 m (pc + 1) ls (.long (jv (a + b)) :: rest))) : W p l e R s m args below meth c H locs cells slots Q (F0 m pc ls (.long (jv b) :: .long (jv a) :: rest)) := lv_ladd hx hb hdg (by rw [jv_add]; exact k)
theorem iw_lsub (hx : p.tables.exec = Jvm.exec) (hb : c.code = cc) {a b : Int} (hdg : decode cc pc = .ok (.lsub, 1)) (k : W p l e R s m args below meth c H locs cells slots Q (F0 m (pc + 1) ls (.long (jv (a - b)) :: rest))) : W p l e R s m args below meth c H locs cells slots Q (F0 m pc ls (.long (jv b) :: .long (jv a) :: rest)) := lv_lsub hx hb hdg (by rw [jv_sub]; exact k)
theorem iw_lmul (hx : p.tables.exec = Jvm.exec) (hb : c.code = cc) {a b : Int} (hdg : decode cc pc = .ok (.lmul, 1)) (k : W p l e R s m args below meth c H locs cells slots Q (F0 m (pc + 1) ls (.long (jv (a * b)) :: rest))) : W p l e R s m args below meth c H locs cells slots Q (F0 m pc ls (.long (jv b) :: .long (jv a) :: rest)) := lv_lmul hx hb hdg (by rw [jv_mul]; exact k)
theorem iw_ineg (hx : p.tables.exec = Jvm.exec) (hb : c.code = cc) {a : Int} (hdg : decode cc pc = .ok (.ineg, 1)) (k : W p l e R s m args below meth c H locs cells slots Q (F0 m (pc + 1) ls (.int (iv (-a)) :: rest))) : W p l e R s m args below meth c H locs cells slots Q (F0 m pc ls (.int (iv a) :: rest)) := lv_ineg hx hb hdg (by rw [iv_neg]; exact k)
theorem iw_i2l (hx : p.tables.exec = Jvm.exec) (hb : c.code = cc) {a : Int} (ha : ir a) (hdg : decode cc pc = .ok (.i2l, 1)) (k : W p l e R s m args below meth c H locs cells slots Q (F0 m (pc + 1) ls (.long (jv a) :: rest))) : W p l e R s m args below meth c H locs cells slots Q (F0 m pc ls (.int (iv a) :: rest)) := lv_i2l hx hb hdg (jv_i ha) k
theorem iw_l2i (hx : p.tables.exec = Jvm.exec) (hb : c.code = cc) {a : Int} (hdg : decode cc pc = .ok (.l2i, 1)) (k : W p l e R s m args below meth c H locs cells slots Q (F0 m (pc + 1) ls (.int (iv a) :: rest))) : W p l e R s m args below meth c H locs cells slots Q (F0 m pc ls (.long (jv a) :: rest)) := lv_l2i hx hb hdg (iv_j a) k
theorem iw_lushr (hx : p.tables.exec = Jvm.exec) (hb : c.code = cc) {a : Int} (h0 : 0 ≤ a) (h1 : a < 18446744073709551616) (hdg : decode cc pc = .ok (.lushr, 1)) (k : W p l e R s m args below meth c H locs cells slots Q (F0 m (pc + 1) ls (.long (jv (a / 4294967296)) :: rest))) : W p l e R s m args below meth c H locs cells slots Q (F0 m pc ls (.int (iv 32) :: .long (jv a) :: rest)) := lv_lushr hx hb hdg (jv_ushr h0 h1) k
theorem iw_lshr (hx : p.tables.exec = Jvm.exec) (hb : c.code = cc) {a : Int} (ha : jr a) (hdg : decode cc pc = .ok (.lshr, 1)) (k : W p l e R s m args below meth c H locs cells slots Q (F0 m (pc + 1) ls (.long (jv (a / 4294967296)) :: rest))) : W p l e R s m args below meth c H locs cells slots Q (F0 m pc ls (.int (iv 32) :: .long (jv a) :: rest)) := lv_lshr hx hb hdg (jv_shr ha) k
theorem iw_land (hx : p.tables.exec = Jvm.exec) (hb : c.code = cc) {a : Int} (hdg : decode cc pc = .ok (.land, 1)) (k : W p l e R s m args below meth c H locs cells slots Q (F0 m (pc + 1) ls (.long (jv (a % 4294967296)) :: rest))) : W p l e R s m args below meth c H locs cells slots Q (F0 m pc ls (.long 4294967295 :: .long (jv a) :: rest)) := lv_land hx hb hdg (by rw [jv_and]; exact k)
theorem iw_lcmp (hx : p.tables.exec = Jvm.exec) (hb : c.code = cc) {a b : Int} (ha : jr a) (hb2 : jr b) (hdg : decode cc pc = .ok (.lcmp, 1)) (k : W p l e R s m args below meth c H locs cells slots Q (F0 m (pc + 1) ls (.int (iv (zc a b)) :: rest))) : W p l e R s m args below meth c H locs cells slots Q (F0 m pc ls (.long (jv b) :: .long (jv a) :: rest)) := W.lcmp hx hb hdg (by rw [lg_zc ha hb2]; exact k)
theorem iw_topi {x y : Int32} (h : x = y) (k : W p l e R s m args below meth c H locs cells slots Q (F0 m pc ls (.int y :: rest))) : W p l e R s m args below meth c H locs cells slots Q (F0 m pc ls (.int x :: rest)) := by rw [h]; exact k
theorem iw_topl {x y : Int64} (h : x = y) (k : W p l e R s m args below meth c H locs cells slots Q (F0 m pc ls (.long y :: rest))) : W p l e R s m args below meth c H locs cells slots Q (F0 m pc ls (.long x :: rest)) := by rw [h]; exact k
theorem iw_icmp_eq (hx : p.tables.exec = Jvm.exec) (hb : c.code = cc) {a b : Int} {off : Int} {tgt : Nat} (hdg : decode cc pc = .ok (.if_icmp .eq off, 3)) (ht : (pc : Int) + off = (tgt : Int)) (ra : ir a) (rb : ir b) (kt : a = b → W p l e R s m args below meth c H locs cells slots Q (F0 m tgt ls (rest))) (kf : a ≠ b → W p l e R s m args below meth c H locs cells slots Q (F0 m (pc + 3) ls (rest))) : W p l e R s m args below meth c H locs cells slots Q (F0 m pc ls (.int (iv b) :: .int (iv a) :: rest)) := lv_icmp_eq hx hb hdg ht (fun h => kt ((iv_eq ra rb).1 h)) (fun h => kf (by have h9 := mt (iv_eq ra rb).2 h; omega))
theorem iw_if_eq (hx : p.tables.exec = Jvm.exec) (hb : c.code = cc) {a : Int} {off : Int} {tgt : Nat} (hdg : decode cc pc = .ok (.ifCond .eq off, 3)) (ht : (pc : Int) + off = (tgt : Int)) (ra : ir a) (kt : a = 0 → W p l e R s m args below meth c H locs cells slots Q (F0 m tgt ls (rest))) (kf : a ≠ 0 → W p l e R s m args below meth c H locs cells slots Q (F0 m (pc + 3) ls (rest))) : W p l e R s m args below meth c H locs cells slots Q (F0 m pc ls (.int (iv a) :: rest)) := lv_if_eq hx hb hdg ht (fun h => kt ((iv_eq ra ir_0).1 h)) (fun h => kf (by have h9 := mt (iv_eq ra ir_0).2 h; omega))
theorem iw_icmp_ne (hx : p.tables.exec = Jvm.exec) (hb : c.code = cc) {a b : Int} {off : Int} {tgt : Nat} (hdg : decode cc pc = .ok (.if_icmp .ne off, 3)) (ht : (pc : Int) + off = (tgt : Int)) (ra : ir a) (rb : ir b) (kt : a ≠ b → W p l e R s m args below meth c H locs cells slots Q (F0 m tgt ls (rest))) (kf : a = b → W p l e R s m args below meth c H locs cells slots Q (F0 m (pc + 3) ls (rest))) : W p l e R s m args below meth c H locs cells slots Q (F0 m pc ls (.int (iv b) :: .int (iv a) :: rest)) := lv_icmp_ne hx hb hdg ht (fun h => kt (fun q => h ((iv_eq ra rb).2 q))) (fun h => kf ((iv_eq ra rb).1 h))
theorem iw_if_ne (hx : p.tables.exec = Jvm.exec) (hb : c.code = cc) {a : Int} {off : Int} {tgt : Nat} (hdg : decode cc pc = .ok (.ifCond .ne off, 3)) (ht : (pc : Int) + off = (tgt : Int)) (ra : ir a) (kt : a ≠ 0 → W p l e R s m args below meth c H locs cells slots Q (F0 m tgt ls (rest))) (kf : a = 0 → W p l e R s m args below meth c H locs cells slots Q (F0 m (pc + 3) ls (rest))) : W p l e R s m args below meth c H locs cells slots Q (F0 m pc ls (.int (iv a) :: rest)) := lv_if_ne hx hb hdg ht (fun h => kt (fun q => h ((iv_eq ra ir_0).2 q))) (fun h => kf ((iv_eq ra ir_0).1 h))
theorem iw_icmp_lt (hx : p.tables.exec = Jvm.exec) (hb : c.code = cc) {a b : Int} {off : Int} {tgt : Nat} (hdg : decode cc pc = .ok (.if_icmp .lt off, 3)) (ht : (pc : Int) + off = (tgt : Int)) (ra : ir a) (rb : ir b) (kt : a < b → W p l e R s m args below meth c H locs cells slots Q (F0 m tgt ls (rest))) (kf : b ≤ a → W p l e R s m args below meth c H locs cells slots Q (F0 m (pc + 3) ls (rest))) : W p l e R s m args below meth c H locs cells slots Q (F0 m pc ls (.int (iv b) :: .int (iv a) :: rest)) := lv_icmp_lt hx hb hdg ht (fun h => kt ((iv_lt ra rb).1 h)) (fun h => kf (by have h9 := mt (iv_lt ra rb).2 h; omega))
theorem iw_if_lt (hx : p.tables.exec = Jvm.exec) (hb : c.code = cc) {a : Int} {off : Int} {tgt : Nat} (hdg : decode cc pc = .ok (.ifCond .lt off, 3)) (ht : (pc : Int) + off = (tgt : Int)) (ra : ir a) (kt : a < 0 → W p l e R s m args below meth c H locs cells slots Q (F0 m tgt ls (rest))) (kf : 0 ≤ a → W p l e R s m args below meth c H locs cells slots Q (F0 m (pc + 3) ls (rest))) : W p l e R s m args below meth c H locs cells slots Q (F0 m pc ls (.int (iv a) :: rest)) := lv_if_lt hx hb hdg ht (fun h => kt ((iv_lt ra ir_0).1 h)) (fun h => kf (by have h9 := mt (iv_lt ra ir_0).2 h; omega))
theorem iw_icmp_ge (hx : p.tables.exec = Jvm.exec) (hb : c.code = cc) {a b : Int} {off : Int} {tgt : Nat} (hdg : decode cc pc = .ok (.if_icmp .ge off, 3)) (ht : (pc : Int) + off = (tgt : Int)) (ra : ir a) (rb : ir b) (kt : b ≤ a → W p l e R s m args below meth c H locs cells slots Q (F0 m tgt ls (rest))) (kf : a < b → W p l e R s m args below meth c H locs cells slots Q (F0 m (pc + 3) ls (rest))) : W p l e R s m args below meth c H locs cells slots Q (F0 m pc ls (.int (iv b) :: .int (iv a) :: rest)) := lv_icmp_ge hx hb hdg ht (fun h => kt ((iv_le rb ra).1 h)) (fun h => kf (by have h9 := mt (iv_le rb ra).2 h; omega))
theorem iw_if_ge (hx : p.tables.exec = Jvm.exec) (hb : c.code = cc) {a : Int} {off : Int} {tgt : Nat} (hdg : decode cc pc = .ok (.ifCond .ge off, 3)) (ht : (pc : Int) + off = (tgt : Int)) (ra : ir a) (kt : 0 ≤ a → W p l e R s m args below meth c H locs cells slots Q (F0 m tgt ls (rest))) (kf : a < 0 → W p l e R s m args below meth c H locs cells slots Q (F0 m (pc + 3) ls (rest))) : W p l e R s m args below meth c H locs cells slots Q (F0 m pc ls (.int (iv a) :: rest)) := lv_if_ge hx hb hdg ht (fun h => kt ((iv_le ir_0 ra).1 h)) (fun h => kf (by have h9 := mt (iv_le ir_0 ra).2 h; omega))
theorem iw_icmp_gt (hx : p.tables.exec = Jvm.exec) (hb : c.code = cc) {a b : Int} {off : Int} {tgt : Nat} (hdg : decode cc pc = .ok (.if_icmp .gt off, 3)) (ht : (pc : Int) + off = (tgt : Int)) (ra : ir a) (rb : ir b) (kt : b < a → W p l e R s m args below meth c H locs cells slots Q (F0 m tgt ls (rest))) (kf : a ≤ b → W p l e R s m args below meth c H locs cells slots Q (F0 m (pc + 3) ls (rest))) : W p l e R s m args below meth c H locs cells slots Q (F0 m pc ls (.int (iv b) :: .int (iv a) :: rest)) := lv_icmp_gt hx hb hdg ht (fun h => kt ((iv_lt rb ra).1 h)) (fun h => kf (by have h9 := mt (iv_lt rb ra).2 h; omega))
theorem iw_if_gt (hx : p.tables.exec = Jvm.exec) (hb : c.code = cc) {a : Int} {off : Int} {tgt : Nat} (hdg : decode cc pc = .ok (.ifCond .gt off, 3)) (ht : (pc : Int) + off = (tgt : Int)) (ra : ir a) (kt : 0 < a → W p l e R s m args below meth c H locs cells slots Q (F0 m tgt ls (rest))) (kf : a ≤ 0 → W p l e R s m args below meth c H locs cells slots Q (F0 m (pc + 3) ls (rest))) : W p l e R s m args below meth c H locs cells slots Q (F0 m pc ls (.int (iv a) :: rest)) := lv_if_gt hx hb hdg ht (fun h => kt ((iv_lt ir_0 ra).1 h)) (fun h => kf (by have h9 := mt (iv_lt ir_0 ra).2 h; omega))
theorem iw_icmp_le (hx : p.tables.exec = Jvm.exec) (hb : c.code = cc) {a b : Int} {off : Int} {tgt : Nat} (hdg : decode cc pc = .ok (.if_icmp .le off, 3)) (ht : (pc : Int) + off = (tgt : Int)) (ra : ir a) (rb : ir b) (kt : a ≤ b → W p l e R s m args below meth c H locs cells slots Q (F0 m tgt ls (rest))) (kf : b < a → W p l e R s m args below meth c H locs cells slots Q (F0 m (pc + 3) ls (rest))) : W p l e R s m args below meth c H locs cells slots Q (F0 m pc ls (.int (iv b) :: .int (iv a) :: rest)) := lv_icmp_le hx hb hdg ht (fun h => kt ((iv_le ra rb).1 h)) (fun h => kf (by have h9 := mt (iv_le ra rb).2 h; omega))
theorem iw_if_le (hx : p.tables.exec = Jvm.exec) (hb : c.code = cc) {a : Int} {off : Int} {tgt : Nat} (hdg : decode cc pc = .ok (.ifCond .le off, 3)) (ht : (pc : Int) + off = (tgt : Int)) (ra : ir a) (kt : a ≤ 0 → W p l e R s m args below meth c H locs cells slots Q (F0 m tgt ls (rest))) (kf : 0 < a → W p l e R s m args below meth c H locs cells slots Q (F0 m (pc + 3) ls (rest))) : W p l e R s m args below meth c H locs cells slots Q (F0 m pc ls (.int (iv a) :: rest)) := lv_if_le hx hb hdg ht (fun h => kt ((iv_le ra ir_0).1 h)) (fun h => kf (by have h9 := mt (iv_le ra ir_0).2 h; omega))
/-- an array of ints by numbers: its place j holds F j -/
def wA (F : Nat → Nat) : Nat → Int32 := fun j => iv (F j)
theorem wA_up (F : Nat → Nat) (i v : Nat) : upd (wA F) i (iv (v : Int)) = wA (va_up F i v) := by
  funext j
  show (if j = i then iv (v : Int) else iv (F j)) = iv (((if j = i then v else F j) : Nat) : Int)
  by_cases h : j = i
  · rw [if_pos h, if_pos h]
  · rw [if_neg h, if_neg h]
theorem vp_cell_cong {cA : ClassId} {n : Nat} {f g : Nat → Int32} (h : ∀ j, j < n → f j = g j) : vp_cell cA (n, .inl f) = vp_cell cA (n, .inl g) := by
  rw [vp_cell_i, vp_cell_i]
  unfold arrV
  congr 1
  apply Array.ext
  · simp
  · intro i h1 h2
    simp at h1 ⊢
    exact h i h1
theorem iw_mmax (hx : p.tables.exec = Jvm.exec) (hb : c.code = cc) (hml : c.maxLocals = ls.size) {own : String} {index : Nat} (hown : s.vm.findClass own = some m.cls) (hlink : (Cond.methodLink own index Lib.Math.max.name).before args s = true) (hstat : (Cond.static Lib.Math.max.name).before args s = true) (hini : (Cond.initialized "java/lang/Math").before args s = true) (hcode : (Cond.code Lib.Math.max.name Lib.Math.max.code 2 (some .int)).before args s = true) (hframes : 1 ≤ R.frames) (hlocals : (rest.map fun v => v.category).sum + 13 ≤ R.locals) (hc : cells ≤ R.cells) (hs : slots ≤ R.slots) {a b : Int} (ra : ir a) (rb : ir b) (hdg : decode cc pc = .ok (.invokestatic index, 3)) (kk : W p l e R s m args below meth c H locs cells slots Q (F0 m (pc + 3) ls (.int (iv (if a < b then b else a)) :: rest))) : W p l e R s m args below meth c H locs cells slots Q (F0 m pc ls (.int (iv b) :: .int (iv a) :: rest)) := va_mmax hx hb hml hown hlink hstat hini hcode hframes hlocals hc hs hdg (by
  by_cases h : a < b
  · rw [if_pos ((iv_lt ra rb).2 h)]; rw [if_pos h] at kk; exact kk
  · rw [if_neg (fun q => h ((iv_lt ra rb).1 q))]; rw [if_neg h] at kk; exact kk)
theorem iw_mmin (hx : p.tables.exec = Jvm.exec) (hb : c.code = cc) (hml : c.maxLocals = ls.size) {own : String} {index : Nat} (hown : s.vm.findClass own = some m.cls) (hlink : (Cond.methodLink own index Lib.Math.min.name).before args s = true) (hstat : (Cond.static Lib.Math.min.name).before args s = true) (hini : (Cond.initialized "java/lang/Math").before args s = true) (hcode : (Cond.code Lib.Math.min.name Lib.Math.min.code 2 (some .int)).before args s = true) (hframes : 1 ≤ R.frames) (hlocals : (rest.map fun v => v.category).sum + 13 ≤ R.locals) (hc : cells ≤ R.cells) (hs : slots ≤ R.slots) {a b : Int} (ra : ir a) (rb : ir b) (hdg : decode cc pc = .ok (.invokestatic index, 3)) (kk : W p l e R s m args below meth c H locs cells slots Q (F0 m (pc + 3) ls (.int (iv (if b < a then b else a)) :: rest))) : W p l e R s m args below meth c H locs cells slots Q (F0 m pc ls (.int (iv b) :: .int (iv a) :: rest)) := va_mmin hx hb hml hown hlink hstat hini hcode hframes hlocals hc hs hdg (by
  by_cases h : b < a
  · rw [if_pos ((iv_lt rb ra).2 h)]; rw [if_pos h] at kk; exact kk
  · rw [if_neg (fun q => h ((iv_lt rb ra).1 q))]; rw [if_neg h] at kk; exact kk)
theorem iv_ushr {a k : Nat} (ha : a < 4294967296) (hk : k < 32) : ((iv (a : Int)).toUInt32 >>> ((iv (k : Int)).toUInt32 &&& Int32.toUInt32 31)).toInt32 = iv ((a / 2 ^ k : Nat) : Int) := by
  rw [iv_nI, iv_nI, iv_nI]
  refine pk_ushrN (by omega) (nI k) k ?_
  have h : ∀ n, n < 32 → (((nI n).toUInt32 &&& Int32.toUInt32 31).toBitVec % 32).toNat = n := by decide +kernel
  exact h k hk
theorem iw_iushr (hx : p.tables.exec = Jvm.exec) (hb : c.code = cc) {a k : Nat} (ha : a < 4294967296) (hk : k < 32) (hdg : decode cc pc = .ok (.iushr, 1)) (kk : W p l e R s m args below meth c H locs cells slots Q (F0 m (pc + 1) ls (.int (iv ((a / 2 ^ k : Nat) : Int)) :: rest))) : W p l e R s m args below meth c H locs cells slots Q (F0 m pc ls (.int (iv (k : Int)) :: .int (iv (a : Int)) :: rest)) := lv_iushr hx hb hdg (iv_ushr ha hk) kk
theorem iw_ifu_eq (hx : p.tables.exec = Jvm.exec) (hb : c.code = cc) {a : Int} {off : Int} {tgt : Nat} (hdg : decode cc pc = .ok (.ifCond .eq off, 3)) (ht : (pc : Int) + off = (tgt : Int)) (h0 : 0 ≤ a) (h1 : a < 4294967296) (kt : a = 0 → W p l e R s m args below meth c H locs cells slots Q (F0 m tgt ls (rest))) (kf : a ≠ 0 → W p l e R s m args below meth c H locs cells slots Q (F0 m (pc + 3) ls (rest))) : W p l e R s m args below meth c H locs cells slots Q (F0 m pc ls (.int (iv a) :: rest)) := lv_if_eq hx hb hdg ht (fun h => kt ((iv_u0 h0 h1).1 h)) (fun h => kf (fun q => h ((iv_u0 h0 h1).2 q)))
theorem iw_ifu_ne (hx : p.tables.exec = Jvm.exec) (hb : c.code = cc) {a : Int} {off : Int} {tgt : Nat} (hdg : decode cc pc = .ok (.ifCond .ne off, 3)) (ht : (pc : Int) + off = (tgt : Int)) (h0 : 0 ≤ a) (h1 : a < 4294967296) (kt : a ≠ 0 → W p l e R s m args below meth c H locs cells slots Q (F0 m tgt ls (rest))) (kf : a = 0 → W p l e R s m args below meth c H locs cells slots Q (F0 m (pc + 3) ls (rest))) : W p l e R s m args below meth c H locs cells slots Q (F0 m pc ls (.int (iv a) :: rest)) := lv_if_ne hx hb hdg ht (fun h => kt (fun q => h ((iv_u0 h0 h1).2 q))) (fun h => kf ((iv_u0 h0 h1).1 h))
theorem iv_shr5 {k : Nat} (h : k < 2147483648) : iv (k : Int) >>> (iv 5 &&& 31) = iv ((k / 32 : Nat) : Int) := by
  rw [iv_nI, iv_nI]
  exact pk_shrN (by omega) (iv 5 &&& 31) 5 (by decide)
theorem iv_and31 {k : Nat} (h : k < 2147483648) : iv (k : Int) &&& iv 31 = iv ((k % 32 : Nat) : Int) := by
  rw [iv_nI, iv_nI]
  exact pk_andN (by omega) (m := iv 31) 5 (by decide)
theorem jv_shl (w : Nat) {k : Nat} (hk : k < 64) : jv (w : Int) <<< ((iv (k : Int)).toInt64 &&& 63) = jv ((w * 2 ^ k : Nat) : Int) := by
  rw [jv_nat, iv_nI, jv_nat]
  exact wb_shl w hk
theorem jv_or {w v : Nat} (hw : w < 4294967296) (hv : v < 4294967296) : jv ((w * 4294967296 : Nat) : Int) ||| jv (v : Int) = jv ((w * 4294967296 + v : Nat) : Int) := by
  rw [jv_nat, jv_nat, jv_nat]
  exact g_or (k := 32) (p := 4294967296) rfl hv (by omega)
theorem jv_ushrk {z k : Nat} (hz : z < 18446744073709551616) (hk : k < 64) : ((jv (z : Int)).toUInt64 >>> ((iv (k : Int)).toInt64.toUInt64 &&& Int64.toUInt64 63)).toInt64 = jv ((z / 2 ^ k : Nat) : Int) := by
  rw [jv_nat, iv_nI, jv_nat]
  exact wb_shr (by omega) hk
theorem iw_ishr5 (hx : p.tables.exec = Jvm.exec) (hb : c.code = cc) {k : Nat} (hk : k < 2147483648) (hdg : decode cc pc = .ok (.ishr, 1)) (kk : W p l e R s m args below meth c H locs cells slots Q (F0 m (pc + 1) ls (.int (iv ((k / 32 : Nat) : Int)) :: rest))) : W p l e R s m args below meth c H locs cells slots Q (F0 m pc ls (.int (iv 5) :: .int (iv (k : Int)) :: rest)) := lv_ishr hx hb hdg (by rw [iv_shr5 hk]; exact kk)
theorem iw_iand31 (hx : p.tables.exec = Jvm.exec) (hb : c.code = cc) {k : Nat} (hk : k < 2147483648) (hdg : decode cc pc = .ok (.iand, 1)) (kk : W p l e R s m args below meth c H locs cells slots Q (F0 m (pc + 1) ls (.int (iv ((k % 32 : Nat) : Int)) :: rest))) : W p l e R s m args below meth c H locs cells slots Q (F0 m pc ls (.int (iv 31) :: .int (iv (k : Int)) :: rest)) := lv_iand hx hb hdg (by rw [iv_and31 hk]; exact kk)
theorem iw_lshlk (hx : p.tables.exec = Jvm.exec) (hb : c.code = cc) {w k : Nat} (hk : k < 64) (hdg : decode cc pc = .ok (.lshl, 1)) (kk : W p l e R s m args below meth c H locs cells slots Q (F0 m (pc + 1) ls (.long (jv ((w * 2 ^ k : Nat) : Int)) :: rest))) : W p l e R s m args below meth c H locs cells slots Q (F0 m pc ls (.int (iv (k : Int)) :: .long (jv (w : Int)) :: rest)) := lv_lshl hx hb hdg (jv_shl w hk) kk
theorem iw_lor (hx : p.tables.exec = Jvm.exec) (hb : c.code = cc) {w v : Nat} (hw : w < 4294967296) (hv : v < 4294967296) (hdg : decode cc pc = .ok (.lor, 1)) (kk : W p l e R s m args below meth c H locs cells slots Q (F0 m (pc + 1) ls (.long (jv ((w * 4294967296 + v : Nat) : Int)) :: rest))) : W p l e R s m args below meth c H locs cells slots Q (F0 m pc ls (.long (jv (v : Int)) :: .long (jv ((w * 4294967296 : Nat) : Int)) :: rest)) := lv_lor hx hb hdg (by rw [jv_or hw hv]; exact kk)
theorem iw_lushrk (hx : p.tables.exec = Jvm.exec) (hb : c.code = cc) {z k : Nat} (hz : z < 18446744073709551616) (hk : k < 64) (hdg : decode cc pc = .ok (.lushr, 1)) (kk : W p l e R s m args below meth c H locs cells slots Q (F0 m (pc + 1) ls (.long (jv ((z / 2 ^ k : Nat) : Int)) :: rest))) : W p l e R s m args below meth c H locs cells slots Q (F0 m pc ls (.int (iv (k : Int)) :: .long (jv (z : Int)) :: rest)) := lv_lushr hx hb hdg (jv_ushrk hz hk) kk
variable {D : va_G} {cl : List vw_C} {tys : List (ClassId × FieldType)} {ws : va_W} {A : Nat → Prop} {H0 : Heap} {a : Nat}
theorem iw_iald (hx : p.tables.exec = Jvm.exec) (hb : c.code = cc) (hK : va_K D cl tys s) (hP : va_P D cl ws H) (q0 t0 : Nat) {cA : ClassId} {n : Nat} {F : Nat → Nat} (ha : ws[q0]? = some (a, .inl (cA, n, .inl (wA F)))) (ht : tys[t0]? = some (cA, .int)) {i : Nat} (hi : i < n) (hn : n < 2147483648) (hdg : decode cc pc = .ok (.iaload, 1)) (kk : W p l e R s m args below meth c H locs cells slots Q (F0 m (pc + 1) ls (.int (iv (F i)) :: rest))) : W p l e R s m args below meth c H locs cells slots Q (F0 m pc ls (.int (iv (i : Int)) :: .ref a :: rest)) := va_iald hx hb hK hP q0 t0 ha ht (iv_in hi hn) hdg (by rw [iv_clamp (by omega)]; exact kk)
theorem iw_iast (hx : p.tables.exec = Jvm.exec) (hb : c.code = cc) (hK : va_K D cl tys s) (hP : va_P D cl ws H) (hD : va_D A ws) (hS : va_S A H0 H locs) (q0 t0 : Nat) {cA : ClassId} {n : Nat} {F : Nat → Nat} (ha : ws[q0]? = some (a, .inl (cA, n, .inl (wA F)))) (ht : tys[t0]? = some (cA, .int)) {i v : Nat} (hi : i < n) (hn : n < 2147483648) (hdg : decode cc pc = .ok (.iastore, 1)) (kk : ∀ (H1 : Heap) (locs1 : List Loc), va_P D cl (ws.set q0 (a, .inl (cA, n, .inl (wA (va_up F i v))))) H1 → va_D A (ws.set q0 (a, .inl (cA, n, .inl (wA (va_up F i v))))) → va_S A H0 H1 locs1 → W p l e R s m args below meth c H1 locs1 cells slots Q (F0 m (pc + 1) ls (rest))) : W p l e R s m args below meth c H locs cells slots Q (F0 m pc ls (.int (iv (v : Int)) :: .int (iv (i : Int)) :: .ref a :: rest)) := va_iast hx hb hK hP hD hS q0 t0 ha ht (iv_in hi hn) hdg (fun H1 locs1 h1 h2 h3 => by rw [iv_clamp (by omega), wA_up] at h1 h2; exact kk H1 locs1 h1 h2 h3)
end ROWS
/-! A method that makes nothing, as a contract over a whole world ws: 'post answer world-behind' -/
def ef_isNest : Cond → Bool
  | .fieldLinkNest _ _ _ _ _ _ => true
  | .methodLinkNest _ _ _ _ => true
  | _ => false
theorem ef_nestW {w : Cond} (h : ef_isNest w = true) {s U : State} (hW : s.WarmedH U.vm) (hZ : va_Nw w s) : va_Nw w U := by
  cases w <;> first | exact va_Nw.warmF hW hZ | exact va_Nw.warmM hW hZ | cases h
theorem ef_nestT {w : Cond} (h : ef_isNest w = true) : w.onTables = true := by
  cases w <;> first | rfl | cases h
/-- the tables' words on private members of nest mates -/
def ef_nest : List Cond := lw_tbl.filter ef_isNest
def ef_X (U : State) : Prop := ∀ w ∈ ef_nest, va_Nw w U
theorem ef_X.warm {s U : State} (hW : s.WarmedH U.vm) (h : ef_X s) : ef_X U := fun w hw => ef_nestW (List.mem_filter.mp hw).2 hW (h w hw)
theorem ef_X.same {s U : State} (e : s.vm = U.vm) (h : ef_X s) : ef_X U := fun w hw => va_Nw.same (ef_nestT (List.mem_filter.mp hw).2) e (h w hw)
theorem ef_X.use {args : Array Value} {s : State} (h : ef_X s) {w : Cond} (hm : w ∈ lw_tbl) (hw : ef_isNest w = true) : w.before args s = true := va_Nw.use (ef_nestT hw) (h w (List.mem_filter.mpr ⟨hm, hw⟩))
def ef_A (ws : va_W) : Nat → Prop := fun q => ∃ (k : Nat) (x : va_E), ws[k]? = some (q, x)
def ef_Q (D : va_G) (cl : List vw_C) (ws : va_W) (post : Option Value → va_W → Prop) : Array Value → State → Outcome → State → Prop := fun _ st oc t => (∃ (o : Option Value) (w1 : va_W), oc = .returned o ∧ post o w1 ∧ va_P D cl w1 t.heap ∧ va_D (ef_A ws) w1) ∧ va_F (ef_A ws) st t
def ef_C (l : Launch) (y : MethodName) (w : List Cond) (rm : Room) (av : List Value) (D : va_G) (cl : List vw_C) (tys : List (ClassId × FieldType)) (ws : va_W) (post : Option Value → va_W → Prop) : Prop := Met l y w rm (va_Pc av (fun U => va_P D cl ws U.heap ∧ va_K D cl tys U ∧ va_D (fun _ => True) ws ∧ ef_X U)) (ef_Q D cl ws post) 0 0 (ef_A ws)
abbrev ef_R (below : List Frame) (D : va_G) (cl : List vw_C) (ws : va_W) (post : Option Value → va_W → Prop) (av : List Value) (s : State) : State → Prop := MQ below (ef_Q D cl ws post) av.toArray s 0 0 (ef_A ws)
theorem ef_C.of {l : Launch} {y : MethodName} {w w' : List Cond} {rm : Room} {av : List Value} {D : va_G} {cl : List vw_C} {tys : List (ClassId × FieldType)} {ws : va_W} {post : Option Value → va_W → Prop} {cc : ByteArray} {maxL : Nat} {ret : Option FieldType} (hy : plainName y.cls = true) (hw : w = Cond.code y cc maxL ret :: w') (hn : (lg_sl av).length ≤ maxL)
    (body : ∀ (p : Program) (e : Env) (s : State) (m : MethodId) (below : List Frame) (meth : Method) (c : Code) (ls : Array Slot), p.tables.exec = Jvm.exec → c.code = cc → c.maxLocals = maxL → meth.sig.returnType = ret → (∀ x ∈ w, x.before av.toArray s = true) → s.vm.findClass y.cls = some m.cls → meth.locks = false → va_K D cl tys s → ef_X s → va_P D cl ws s.heap → va_D (ef_A ws) ws → va_S (ef_A ws) s.heap s.heap [] → lv_has ls maxL (lv_args 0 av) → W p l e rm s m av.toArray below meth c s.heap [] 0 0 (ef_R below D cl ws post av s) (F0 m 0 ls [])) : ef_C l y w rm av D cl tys ws post := by
  refine Met.ofW (cc := cc) (maxL := maxL) (ret := ret) hy hw ?_
  intro p e s m args below meth c s₁ B hml hv
  obtain ⟨rfl, hP, hK, hD0, hX⟩ := hv
  have hl := lv_entry av (n := maxL) hn
  rw [lg_entry_eq]
  exact body p e s m below meth c _ B.exec B.bytes hml B.returns (atoms_spec (ws := w) B.pre) (findClass_of_methodNamed B.named) B.notSynchronized hK hX hP ⟨hD0.1, fun k q hk => ⟨k, q.2, hk⟩⟩ va_S.rf hl
section CALLS
variable {p : Program} {l : Launch} {e : Env} {R : Room} {s : State} {m : MethodId} {args : Array Value} {below : List Frame} {meth : Method} {c : Code} {H : Heap} {locs : List Loc} {cells slots : Nat} {Q : State → Prop} {cc : ByteArray} {pc : Nat} {ls : Array Slot} {rest : List Value}
variable {D : va_G} {cl : List vw_C} {tys : List (ClassId × FieldType)} {ws : va_W} {A : Nat → Prop} {H0 : Heap} {post : Option Value → va_W → Prop} {av : List Value}
theorem ef_iret {v : Int32} {w1 : va_W} (hx : p.tables.exec = Jvm.exec) (hb : c.code = cc) (hr : meth.sig.returnType = some .int) (hlocks : meth.locks = false) (hP : va_P D cl w1 H) (hD : va_D (ef_A ws) w1) (hS : va_S (ef_A ws) s.heap H locs) (hdg : decode cc pc = .ok (.ireturn, 1)) (hp : post (some (.int v)) w1) : W p l e R s m av.toArray below meth c H locs 0 0 (ef_R below D cl ws post av s) (F0 m pc ls [.int v]) :=
  W.iret hx hb hr (fun t ht _ => ⟨⟨_, w1, rfl, hp, by rw [ht]; exact hP, hD⟩, hS.F ht⟩) hS.2.2 hdg hlocks
theorem ef_zret {v : Int32} {w1 : va_W} (hx : p.tables.exec = Jvm.exec) (hb : c.code = cc) (hr : meth.sig.returnType = some .boolean) (hlocks : meth.locks = false) (hn : narrow .boolean (.int v) = .int v) (hP : va_P D cl w1 H) (hD : va_D (ef_A ws) w1) (hS : va_S (ef_A ws) s.heap H locs) (hdg : decode cc pc = .ok (.ireturn, 1)) (hp : post (some (.int v)) w1) : W p l e R s m av.toArray below meth c H locs 0 0 (ef_R below D cl ws post av s) (F0 m pc ls [.int v]) :=
  W.zret hx hb hr hn (fun t ht _ => ⟨⟨_, w1, rfl, hp, by rw [ht]; exact hP, hD⟩, hS.F ht⟩) hS.2.2 hdg hlocks
theorem ef_lret {v : Int64} {w1 : va_W} (hx : p.tables.exec = Jvm.exec) (hb : c.code = cc) (hr : meth.sig.returnType = some .long) (hlocks : meth.locks = false) (hP : va_P D cl w1 H) (hD : va_D (ef_A ws) w1) (hS : va_S (ef_A ws) s.heap H locs) (hdg : decode cc pc = .ok (.lreturn, 1)) (hp : post (some (.long v)) w1) : W p l e R s m av.toArray below meth c H locs 0 0 (ef_R below D cl ws post av s) (F0 m pc ls [.long v]) :=
  W.lret hx hb hr (fun t ht _ => ⟨⟨_, w1, rfl, hp, by rw [ht]; exact hP, hD⟩, hS.F ht⟩) hS.2.2 hdg hlocks
theorem ef_vret {w1 : va_W} (hx : p.tables.exec = Jvm.exec) (hb : c.code = cc) (hr : meth.sig.returnType = none) (hlocks : meth.locks = false) (hP : va_P D cl w1 H) (hD : va_D (ef_A ws) w1) (hS : va_S (ef_A ws) s.heap H locs) (hdg : decode cc pc = .ok (.return_, 1)) (hp : post none w1) : W p l e R s m av.toArray below meth c H locs 0 0 (ef_R below D cl ws post av s) (F0 m pc ls []) :=
  W.vret hx hb hr (fun t ht _ => ⟨⟨_, w1, rfl, hp, by rw [ht]; exact hP, hD⟩, hS.F ht⟩) hS.2.2 hdg hlocks
theorem ef_aret {v : Value} {w1 : va_W} {rt : FieldType} (hx : p.tables.exec = Jvm.exec) (hb : c.code = cc) (hr : meth.sig.returnType = some rt) (hrt : (∃ n, rt = .object n) ∨ ∃ t, rt = .array t) (hv : v = .null ∨ ∃ a, v = .ref a) (hlocks : meth.locks = false) (hP : va_P D cl w1 H) (hD : va_D (ef_A ws) w1) (hS : va_S (ef_A ws) s.heap H locs) (hdg : decode cc pc = .ok (.areturn, 1)) (hp : post (some v) w1) : W p l e R s m av.toArray below meth c H locs 0 0 (ef_R below D cl ws post av s) (F0 m pc ls [v]) :=
  W.aret hx hb hr hrt hv (fun t ht _ => ⟨⟨_, w1, rfl, hp, by rw [ht]; exact hP, hD⟩, hS.F ht⟩) hS.2.2 hdg hlocks
theorem ef_cont {a : Array Value} {st0 : List Value} (hr : va_Run p l e R s m args below meth c H locs cells slots 0 0 (F0 m pc ls st0) rest (ef_Q D cl ws post a) (ef_A ws)) (hD : va_D A ws) (hS : va_S A H0 H locs)
    (kk : ∀ (o : Option Value) (w1 : va_W) (H1 : Heap) (locs1 : List Loc), post o w1 → va_P D cl w1 H1 → va_D A w1 → va_S A H0 H1 locs1 → W p l e R s m args below meth c H1 locs1 cells slots Q (F0 m (pc + 3) ls (o.toList ++ rest))) : W p l e R s m args below meth c H locs cells slots Q (F0 m pc ls st0) := by
  intro T hT X
  obtain ⟨v, st₀, t, T', L, h0, X', hL, e1, e2, ⟨⟨o, w1, hv, hp, hb, hd⟩, hz, hk⟩, st⟩ := hr T hT X
  cases hv
  rw [h0] at hz hk
  have hA : ∀ q, ef_A ws q → A q := fun q h => by
    obtain ⟨k, x, h⟩ := h
    exact hD.2 k (q, x) h
  obtain ⟨t2, a1, b1⟩ := kk v w1 T'.heap (locs ++ L) hp (by rw [e1]; exact hb) (hd.weaken (fun _ q _ h => hA q.1 h)) ⟨Nat.le_trans hS.1 (by rw [e1]; exact hz), fun q h1 h2 => by rw [e1, hk q (Nat.lt_of_lt_of_le h1 hS.1) (fun z => h2 (hA q z))]; exact hS.2.1 q h1 h2, fun q hq => by
      rcases List.mem_append.mp hq with h | h
      · exact hS.2.2 q h
      · exact hA _ (hL q h)⟩ T' rfl X'
  exact ⟨t2, st t2 a1, b1⟩
variable {y : MethodName} {w : List Cond} {rm : Room} {Ts : List Cond} {bytes : ByteArray} {nL maxL index n : Nat} {own C : String} {ret : Option FieldType} {b : Nat} {As st0 : List Value} {ci : Nat} {fs : List Value} {qc : vw_C}
theorem ef_pre (hK : va_K D cl tys s) (hX : ef_X s) (hP : va_P D cl ws H) (hD : va_D A ws) : PreS s H (va_Pc av (fun U => va_P D cl ws U.heap ∧ va_K D cl tys U ∧ va_D (fun _ => True) ws ∧ ef_X U)) av :=
  ⟨fun a U g mk q => by obtain ⟨q0, qP, qK, qD, qX⟩ := q; exact ⟨q0, qP, va_K.moved (u := U) (U := U.calling g mk a) (Vm.Alike.refl U.vm) qK, qD, ef_X.same (s := U) (U := U.calling g mk a) rfl qX⟩, fun U hU hW => ⟨rfl, by rw [hU]; exact hP, va_K.moved hW.alike hK, hD.weaken (fun _ _ _ _ => trivial), hX.warm hW⟩⟩
theorem ef_callV (S : CallFix p m c cc nL s args Ts own) (hM : ef_C l y w rm (.ref b :: As) D cl tys ws post) (cw : CallW R s args own C index y bytes maxL ret w rm 0 0 n) (hK : va_K D cl tys s) (hX : ef_X s) (hP : va_P D cl ws H) (hD : va_D A ws) (hS : va_S A H0 H locs) (q0 : Nat) (he : ws[q0]? = some (b, .inr (ci, fs))) (hc : cl[ci]? = some qc) (hqc : qc.1 = C) (hn : As.length = n) (hsize : ls.size = nL) (hstack : st0 = As.reverse ++ .ref b :: rest) (hW : (rest.map fun v => v.category).sum ≤ 8) (hdg : decode cc pc = .ok (.invokevirtual index, 3)) (hf : cells ≤ R.cells ∧ slots ≤ R.slots)
    (kk : ∀ (o : Option Value) (w1 : va_W) (H1 : Heap) (locs1 : List Loc), post o w1 → va_P D cl w1 H1 → va_D A w1 → va_S A H0 H1 locs1 → W p l e R s m args below meth c H1 locs1 cells slots Q (F0 m (pc + 3) ls (o.toList ++ rest))) : W p l e R s m args below meth c H locs cells slots Q (F0 m pc ls st0) := by
  have hp := ef_pre (av := .ref b :: As) hK hX hP hD
  have hrv := va_recv hK hP hc he
  rw [hqc] at hrv
  exact ef_cont (va_runV S hM cw ⟨hp.1, hrv, hp.2⟩ rfl hn hsize hstack (lv_room hW) hdg hf) hD hS kk
theorem ef_callVN {host : String} (S : CallFix p m c cc nL s args Ts own) (hM : ef_C l y w rm (.ref b :: As) D cl tys ws post) (cw : va_CN R s args own index y host bytes maxL ret w rm 0 0 n ∧ (Cond.instanceMethod y).before args s = true ∧ (Cond.selects C y y).before args s = true) (hK : va_K D cl tys s) (hX : ef_X s) (hP : va_P D cl ws H) (hD : va_D A ws) (hS : va_S A H0 H locs) (q0 : Nat) (he : ws[q0]? = some (b, .inr (ci, fs))) (hc : cl[ci]? = some qc) (hqc : qc.1 = C) (hn : As.length = n) (hsize : ls.size = nL) (hstack : st0 = As.reverse ++ .ref b :: rest) (hW : (rest.map fun v => v.category).sum ≤ 8) (hdg : decode cc pc = .ok (.invokevirtual index, 3)) (hf : cells ≤ R.cells ∧ slots ≤ R.slots)
    (kk : ∀ (o : Option Value) (w1 : va_W) (H1 : Heap) (locs1 : List Loc), post o w1 → va_P D cl w1 H1 → va_D A w1 → va_S A H0 H1 locs1 → W p l e R s m args below meth c H1 locs1 cells slots Q (F0 m (pc + 3) ls (o.toList ++ rest))) : W p l e R s m args below meth c H locs cells slots Q (F0 m pc ls st0) := by
  have hp := ef_pre (av := .ref b :: As) hK hX hP hD
  have hrv := va_recv hK hP hc he
  rw [hqc] at hrv
  exact ef_cont (va_runVN S hM cw ⟨hp.1, hrv, hp.2⟩ rfl hn hsize hstack (lv_room hW) hdg hf) hD hS kk
theorem ef_callS (S : CallFix p m c cc nL s args Ts own) (hM : ef_C l y w rm As D cl tys ws post) (cw : CallB R s args own index y bytes maxL ret w rm 0 0 n ∧ (Cond.static y).before args s = true) (hK : va_K D cl tys s) (hX : ef_X s) (hP : va_P D cl ws H) (hD : va_D A ws) (hS : va_S A H0 H locs) (hn : As.length = n) (hsize : ls.size = nL) (hstack : st0 = As.reverse ++ rest) (hW : (rest.map fun v => v.category).sum ≤ 8) (hdg : decode cc pc = .ok (.invokestatic index, 3)) (hf : cells ≤ R.cells ∧ slots ≤ R.slots)
    (kk : ∀ (o : Option Value) (w1 : va_W) (H1 : Heap) (locs1 : List Loc), post o w1 → va_P D cl w1 H1 → va_D A w1 → va_S A H0 H1 locs1 → W p l e R s m args below meth c H1 locs1 cells slots Q (F0 m (pc + 3) ls (o.toList ++ rest))) : W p l e R s m args below meth c H locs cells slots Q (F0 m pc ls st0) :=
  ef_cont (va_runS S hM cw (ef_pre (av := As) hK hX hP hD) rfl hn hsize hstack (lv_room hW) hdg hf) hD hS kk
end CALLS
/-- the frame: what stands beside a method's world stays -/
theorem ef_C.frame {l : Launch} {y : MethodName} {w : List Cond} {rm : Room} {av : List Value} {D : va_G} {cl : List vw_C} {tys : List (ClassId × FieldType)} {ws : va_W} {post : Option Value → va_W → Prop} (h : ef_C l y w rm av D cl tys ws post) (wl wr : va_W) : ef_C l y w rm av D cl tys (wl ++ ws ++ wr) (fun o w1 => ∃ w2, post o w2 ∧ w1 = wl ++ w2 ++ wr) := by
  have hin : ∀ q, ef_A ws q → ef_A (wl ++ ws ++ wr) q := fun q h => by
    obtain ⟨k, x, hk⟩ := h
    have hlt : k < ws.length := (List.getElem?_eq_some_iff.mp hk).1
    refine ⟨wl.length + k, x, ?_⟩
    rw [List.append_assoc, List.getElem?_append_right (by omega), List.getElem?_append_left (by omega)]
    rw [show wl.length + k - wl.length = k by omega]
    exact hk
  unfold ef_C Met at h ⊢
  refine MetFree.mono h ?_ (fun _ _ _ _ _ h => h) ?_
  · rintro a U ⟨h1, h2, h3, h4, hX⟩
    have g : ∀ (k : Nat) (q : Nat × va_E), ws[k]? = some q → (wl ++ ws ++ wr)[wl.length + k]? = some q := fun k q hk => by
      have hlt : k < ws.length := (List.getElem?_eq_some_iff.mp hk).1
      rw [List.append_assoc, List.getElem?_append_right (by omega), List.getElem?_append_left (by omega), show wl.length + k - wl.length = k by omega]
      exact hk
    exact ⟨h1, h2.by (fun k => wl.length + k) g, h3, h4.by (fun k => wl.length + k) g (fun i j _ _ h => by omega), hX⟩
  · rintro a U o t ⟨h1, h2, h3, h4, hX⟩ ⟨⟨⟨o1, w1, e1, hp, hP, hD⟩, hF⟩, L, hL, hLf⟩
    have sid : ∀ (k : Nat) (q : Nat × va_E), (wl ++ ws ++ wr)[k]? = some q → (k < wl.length ∨ wl.length + ws.length ≤ k) → t.heap[q.1]? = U.heap[q.1]? := by
      intro k q hk hs
      refine hF.2 q.1 ((h2 k q hk).lt) ?_
      rintro ⟨j, x, hj⟩
      have hlt : j < ws.length := (List.getElem?_eq_some_iff.mp hj).1
      have hj2 : (wl ++ ws ++ wr)[wl.length + j]? = some (q.1, x) := by
        rw [List.append_assoc, List.getElem?_append_right (by omega), List.getElem?_append_left (by omega), show wl.length + j - wl.length = j by omega]
        exact hj
      have := h4.1 k (wl.length + j) q (q.1, x) hk hj2 rfl
      omega
    have hl : ∀ (k : Nat) (q : Nat × va_E), wl[k]? = some q → (wl ++ ws ++ wr)[k]? = some q := fun k q hk => by
      have hlt : k < wl.length := (List.getElem?_eq_some_iff.mp hk).1
      rw [List.append_assoc, List.getElem?_append_left hlt]
      exact hk
    have hr : ∀ (k : Nat) (q : Nat × va_E), wr[k]? = some q → (wl ++ ws ++ wr)[wl.length + ws.length + k]? = some q := fun k q hk => by
      rw [List.getElem?_append_right (by rw [List.length_append]; omega), List.length_append, show wl.length + ws.length + k - (wl.length + ws.length) = k by omega]
      exact hk
    have hPl : va_P D cl wl t.heap := fun k q hk => (h2 _ _ (hl k q hk)).kept (sid _ _ (hl k q hk) (Or.inl (List.getElem?_eq_some_iff.mp hk).1))
    have hPr : va_P D cl wr t.heap := fun k q hk => (h2 _ _ (hr k q hk)).kept (sid _ _ (hr k q hk) (Or.inr (by omega)))
    have hap : ∀ (k : Nat) (q : Nat × va_E), (wl ++ ws ++ wr)[k]? = some q → (k < wl.length ∨ wl.length + ws.length ≤ k) → ¬ ef_A ws q.1 := by
      rintro k q hk hs ⟨j, x, hj⟩
      have hlt : j < ws.length := (List.getElem?_eq_some_iff.mp hj).1
      have hj2 : (wl ++ ws ++ wr)[wl.length + j]? = some (q.1, x) := by
        rw [List.append_assoc, List.getElem?_append_right (by omega), List.getElem?_append_left (by omega), show wl.length + j - wl.length = j by omega]
        exact hj
      have := h4.1 k (wl.length + j) q (q.1, x) hk hj2 rfl
      omega
    have hDl : va_D (ef_A (wl ++ ws ++ wr)) wl := ⟨fun i j x y hi hj hxy => h4.1 i j x y (hl i x hi) (hl j y hj) hxy, fun k q hk => ⟨k, q.2, hl k q hk⟩⟩
    have hDr : va_D (ef_A (wl ++ ws ++ wr)) wr := ⟨fun i j x y hi hj hxy => by have := h4.1 _ _ x y (hr i x hi) (hr j y hj) hxy; omega, fun k q hk => ⟨_, q.2, hr k q hk⟩⟩
    have hD' : va_D (ef_A (wl ++ ws ++ wr)) w1 := hD.weaken (fun _ q _ h => hin q.1 h)
    have hlw : ∀ (i j : Nat) (x y : Nat × va_E), wl[i]? = some x → w1[j]? = some y → x.1 ≠ y.1 := fun i j x y hi hj hxy => hap i x (hl i x hi) (Or.inl (List.getElem?_eq_some_iff.mp hi).1) (by rw [hxy]; exact hD.2 j y hj)
    have hwr : ∀ (i j : Nat) (x y : Nat × va_E), w1[i]? = some x → wr[j]? = some y → x.1 ≠ y.1 := fun i j x y hi hj hxy => hap _ y (hr j y hj) (Or.inr (by omega)) (by rw [← hxy]; exact hD.2 i x hi)
    have hlr : ∀ (i j : Nat) (x y : Nat × va_E), wl[i]? = some x → wr[j]? = some y → x.1 ≠ y.1 := fun i j x y hi hj hxy => by
      have h5 := h4.1 _ _ x y (hl i x hi) (hr j y hj) hxy
      have h6 := (List.getElem?_eq_some_iff.mp hi).1
      omega
    refine ⟨⟨⟨o1, wl ++ w1 ++ wr, e1, ⟨w1, hp, rfl⟩, (hPl.app hP).app hPr, va_D.app (va_D.app hDl hD' hlw) hDr ?_⟩, hF.1, fun q h5 h6 => hF.2 q h5 (fun h => h6 (hin q h))⟩, L, hL, fun q hq => hin _ (hLf q hq)⟩
    intro i j x y hi hj hxy
    rcases Nat.lt_or_ge i wl.length with h7 | h7
    · rw [List.getElem?_append_left h7] at hi
      exact hlr i j x y hi hj hxy
    · rw [List.getElem?_append_right h7] at hi
      exact hwr _ j x y hi hj hxy
/-! two cells of a world put anew -/
def ef_w (ws : va_W) (k0 k1 : Nat) (x0 x1 : Nat × va_E) : va_W := (ws.set k0 x0).set k1 x1
theorem ef_w0 {ws : va_W} {k0 k1 : Nat} {x0 x1 z : Nat × va_E} (h : ws[k0]? = some z) (hne : k0 ≠ k1) : (ef_w ws k0 k1 x0 x1)[k0]? = some x0 := by
  have hlt : k0 < ws.length := (List.getElem?_eq_some_iff.mp h).1
  unfold ef_w
  rw [List.getElem?_set_ne (Ne.symm hne), List.getElem?_set_self hlt]
theorem ef_w1 {ws : va_W} {k0 k1 : Nat} {x0 x1 z : Nat × va_E} (h : ws[k1]? = some z) : (ef_w ws k0 k1 x0 x1)[k1]? = some x1 := by
  have hlt : k1 < ws.length := (List.getElem?_eq_some_iff.mp h).1
  unfold ef_w
  rw [List.getElem?_set_self (by rw [List.length_set]; exact hlt)]
theorem ef_wo {ws : va_W} {k0 k1 j : Nat} {x0 x1 : Nat × va_E} (h0 : j ≠ k0) (h1 : j ≠ k1) : (ef_w ws k0 k1 x0 x1)[j]? = ws[j]? := by
  unfold ef_w
  rw [List.getElem?_set_ne (Ne.symm h1), List.getElem?_set_ne (Ne.symm h0)]
theorem ef_ws0 {ws : va_W} {k0 k1 : Nat} {x0 x1 y : Nat × va_E} (hne : k0 ≠ k1) : (ef_w ws k0 k1 x0 x1).set k0 y = ef_w ws k0 k1 y x1 := by
  unfold ef_w
  rw [List.set_comm _ _ (Ne.symm hne), List.set_set]
theorem ef_ws1 {ws : va_W} {k0 k1 : Nat} {x0 x1 y : Nat × va_E} : (ef_w ws k0 k1 x0 x1).set k1 y = ef_w ws k0 k1 x0 y := by
  unfold ef_w
  rw [List.set_set]
theorem ef_wid {ws : va_W} {k0 k1 : Nat} {x0 x1 : Nat × va_E} (h0 : ws[k0]? = some x0) (h1 : ws[k1]? = some x1) : ef_w ws k0 k1 x0 x1 = ws := by
  have e : ∀ (l : va_W) (k : Nat) (x : Nat × va_E), l[k]? = some x → l.set k x = l := by
    intro l k x h
    obtain ⟨hlt, he⟩ := List.getElem?_eq_some_iff.mp h
    subst he
    exact List.set_getElem_self hlt
  unfold ef_w
  rw [e ws k0 x0 h0, e ws k1 x1 h1]
theorem ef_ww {ws : va_W} {k0 k1 : Nat} {x0 x1 y0 y1 : Nat × va_E} (hne : k0 ≠ k1) : ef_w (ef_w ws k0 k1 x0 x1) k0 k1 y0 y1 = ef_w ws k0 k1 y0 y1 := by
  show ((ef_w ws k0 k1 x0 x1).set k0 y0).set k1 y1 = _
  rw [ef_ws0 hne, ef_ws1]

