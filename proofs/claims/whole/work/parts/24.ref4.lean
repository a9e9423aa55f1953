theorem wd_dg (X i : Nat) : wd X i = dg X (2 * i) + dg X (2 * i + 1) * 65536 := by
  have e1 : (2 : Nat) ^ (32 * i) = 2 ^ (16 * (2 * i)) := by congr 1; omega
  have e2 := dg_div X (2 * i)
  have e3 : dg X (2 * i + 1) = X / 2 ^ (16 * (2 * i + 1)) % 65536 := rfl
  have e4 := dg_lt X (2 * i)
  unfold wd
  rw [e1, e2, e3]
  omega
theorem wz_far {X : Nat} (h : dn X ≤ 300) {i : Int} (hi : i < 0 ∨ 300 ≤ i) : wz (wd X) i = 0 := by
  rcases hi with hi | hi
  · exact wz_out (Or.inl hi)
  · rcases Int.lt_or_le i 301 with h1 | h1
    · obtain ⟨n, rfl⟩ : ∃ n : Nat, i = n := ⟨i.toNat, by omega⟩
      rw [wz_in (by omega)]
      apply wd_above
      have := wl_le (k := 150) (Nat.lt_of_lt_of_le (dn_lt X) (Nat.pow_le_pow_right (by decide) (by omega)))
      omega
    · exact wz_out (Or.inr h1)
theorem iv_or {w v : Nat} (hw : w < 65536) (hv : v < 65536) : iv ((w * 65536 : Nat) : Int) ||| iv (v : Int) = iv ((w * 65536 + v : Nat) : Int) := by
  apply Int32.toBitVec_inj.mp
  apply BitVec.eq_of_toNat_eq
  show (BitVec.ofInt 32 ((w * 65536 : Nat) : Int) ||| BitVec.ofInt 32 (v : Int)).toNat = (BitVec.ofInt 32 ((w * 65536 + v : Nat) : Int)).toNat
  rw [BitVec.toNat_or, BitVec.toNat_ofInt, BitVec.toNat_ofInt, BitVec.toNat_ofInt]
  show (((w * 65536 : Nat) : Int) % 4294967296).toNat ||| ((v : Int) % 4294967296).toNat = (((w * 65536 + v : Nat) : Int) % 4294967296).toNat
  rw [show (((w * 65536 : Nat) : Int) % 4294967296).toNat = 2 ^ 16 * w by omega, show ((v : Int) % 4294967296).toNat = v by omega, show (((w * 65536 + v : Nat) : Int) % 4294967296).toNat = 2 ^ 16 * w + v by omega]
  exact (Nat.two_pow_add_eq_or_of_lt (i := 16) hv w).symm
section OROWS
variable {p : Program} {l : Launch} {e : Env} {R : Room} {s : State} {m : MethodId} {args : Array Value} {below : List Frame} {meth : Method} {c : Code} {H : Heap} {locs : List Loc} {cells slots : Nat} {Q : State → Prop} {cc : ByteArray} {pc : Nat} {ls : Array Slot} {rest : List Value}
theorem iw_ior (hx : p.tables.exec = Jvm.exec) (hb : c.code = cc) {w v : Nat} (hw : w < 65536) (hv : v < 65536) (hdg : decode cc pc = .ok (.ior, 1)) (kk : W p l e R s m args below meth c H locs cells slots Q (F0 m (pc + 1) ls (.int (iv ((w * 65536 + v : Nat) : Int)) :: rest))) : W p l e R s m args below meth c H locs cells slots Q (F0 m pc ls (.int (iv (v : Int)) :: .int (iv ((w * 65536 : Nat) : Int)) :: rest)) := lv_ior hx hb hdg (by rw [iv_or hw hv]; exact kk)
end OROWS

set_option maxRecDepth 100000 in
set_option maxHeartbeats 4000000 in
/-- word -/
theorem r_word00 (l : Launch) (dC : Nat → ClassId) (dI : Nat → Nat → Nat) {cI : ClassId} {tys : List (ClassId × FieldType)} (ht : tys[0]? = some (cI, .int)) (r : Nat → Nat) {V : Nat → Nat} {J : Nat → Nat → Nat} {A1 U1 A2 U2 : Nat} {pb pe ob oe b1 e1 b2 e2 : Int} (hJ : rJ V J) (kA1 : bk A1 (J 7)) (kU1 : bk U1 (J 8)) (kA2 : bk A2 (J 9)) (kU2 : bk U2 (J 10)) (mA1 : dn A1 ≤ 300) (mU1 : dn U1 ≤ 300) (mA2 : dn A2 ≤ 300) (mU2 : dn U2 ≤ 300) (i : Int) (hi : ir i) : ef_C l ry_M_word rw_M_word ({ frames := 1, cells := 0, slots := 0, locals := 23 } : Room) [.ref (r 0), .int (iv (0)), .int (iv (0)), .int (iv (i))] (dC, dI) vwCl tys (rC cI r ((V 0)) ((V 1)) ((V 2)) ((V 3)) ((V 4)) ((V 5)) ((V 6)) (A1) (U1) (A2) (U2) ((J 0)) ((J 1)) ((J 2)) ((J 3)) ((J 4)) ((J 5)) ((J 6)) ((J 7)) ((J 8)) ((J 9)) ((J 10)) (pb) (pe) (ob) (oe) (b1) (e1) (b2) (e2)) (fun o w1 => ∃ (V2 : Nat → Nat) (J2 : Nat → Nat → Nat) (pb2 pe2 ob2 oe2 : Int), o = some (.int (iv (wz (wd A1) i : Int))) ∧ w1 = rC cI r (V2 0) (V2 1) (V2 2) (V2 3) (V2 4) (V2 5) (V2 6) (A1) (U1) (A2) (U2) (J2 0) (J2 1) (J2 2) (J2 3) (J2 4) (J2 5) (J2 6) (J2 7) (J2 8) (J2 9) (J2 10) (pb2) (pe2) (ob2) (oe2) (b1) (e1) (b2) (e2) ∧ rJ V2 J2 ∧ bk (A1) (J2 7) ∧ bk (U1) (J2 8) ∧ bk (A2) (J2 9) ∧ bk (U2) (J2 10)) := by
  refine ef_C.of (cc := rc_M_word) (maxL := 7) (ret := (some .int)) (by decide) rfl (Nat.le_of_ble_eq_true rfl) ?_
  intro p e s m below meth c ls hx hb hml hr hts hown hlocks hK hNX hP hD hS hl
  have hl : lv_has ls 7 [(0, .ref (r 0)), (1, .int (iv (0))), (2, .int (iv (0))), (3, .int (iv (i)))] := hl
  have hown : s.vm.findClass rR5 = some m.cls := hown
  generalize hH : s.heap = H at hP ⊢
  have hS : va_S (ef_A (rC cI r ((V 0)) ((V 1)) ((V 2)) ((V 3)) ((V 4)) ((V 5)) ((V 6)) (A1) (U1) (A2) (U2) ((J 0)) ((J 1)) ((J 2)) ((J 3)) ((J 4)) ((J 5)) ((J 6)) ((J 7)) ((J 8)) ((J 9)) ((J 10)) (pb) (pe) (ob) (oe) (b1) (e1) (b2) (e2))) s.heap H [] := by rw [← hH]; exact hS
  generalize ([] : List Loc) = locs at hS ⊢
  refine lv_iload_n hx hb rd_M_word_0 rfl (lv_at hl 1 rfl) ?_
  refine ef_callS (As := [.int (iv (0))]) (rest := []) ⟨hx, hb, hml, hown, hts⟩ (r_isNumber0 l dC dI ht r) (cwS 1 hts (ef_goodS rm_336 rm_337 rm_24 rm_338) rfl rfl rfl (by decide +kernel) ⟨Nat.le_of_ble_eq_true rfl, Nat.le_of_ble_eq_true rfl⟩) hK hNX hP hD hS rfl hl.1 rfl (Nat.le_of_ble_eq_true rfl) rd_M_word_1 ⟨Nat.zero_le _, Nat.zero_le _⟩ (fun o w1 H locs hq hP hD hS => ?_)
  obtain ⟨rfl, e9⟩ := hq
  rw [e9] at hP hD
  refine W.eq (g2 := F0 m 4 ls [.int (iv (1))]) rfl ?_
  refine iw_if_eq (tgt := 25) hx hb rd_M_word_4 (by decide) ⟨by omega, by omega⟩ (fun k1 => ?_) (fun k1 => ?_)
  ·
    exact absurd k1 (by decide)
  ·
    refine lv_iload_n hx hb rd_M_word_7 rfl (lv_at hl 2 rfl) ?_
    refine ef_callS (As := [.int (iv (0))]) (rest := []) ⟨hx, hb, hml, hown, hts⟩ (r_isNumber0 l dC dI ht r) (cwS 1 hts (ef_goodS rm_336 rm_337 rm_24 rm_338) rfl rfl rfl (by decide +kernel) ⟨Nat.le_of_ble_eq_true rfl, Nat.le_of_ble_eq_true rfl⟩) hK hNX hP hD hS rfl hl.1 rfl (Nat.le_of_ble_eq_true rfl) rd_M_word_8 ⟨Nat.zero_le _, Nat.zero_le _⟩ (fun o w1 H locs hq hP hD hS => ?_)
    obtain ⟨rfl, e9⟩ := hq
    rw [e9] at hP hD
    refine W.eq (g2 := F0 m 11 ls [.int (iv (1))]) rfl ?_
    refine iw_if_eq (tgt := 25) hx hb rd_M_word_11 (by decide) ⟨by omega, by omega⟩ (fun k2 => ?_) (fun k2 => ?_)
    ·
      exact absurd k2 (by decide)
    ·
      refine lv_iload_n hx hb rd_M_word_14 rfl (lv_at hl 3 rfl) ?_
      refine iw_if_lt (tgt := 25) hx hb rd_M_word_15 (by decide) (hi) (fun c1 => ?_) (fun c1 => ?_)
      ·
        refine lv_iconst (v := iv (0)) hx hb rd_M_word_25 (by decide) ?_
        exact ef_iret hx hb hr hlocks hP hD hS rd_M_word_26 (by rw [wz_far mA1 (by omega)]; exact ⟨fun i => [((V 0)), ((V 1)), ((V 2)), ((V 3)), ((V 4)), ((V 5)), ((V 6))].getD i 0, fun i => [((J 0)), ((J 1)), ((J 2)), ((J 3)), ((J 4)), ((J 5)), ((J 6)), ((J 7)), ((J 8)), ((J 9)), ((J 10))].getD i (fun _ => 0), _, _, _, _, rfl, rfl, rJ_of (hJ 0 (by decide)) (hJ 1 (by decide)) (hJ 2 (by decide)) (hJ 3 (by decide)) (hJ 4 (by decide)) (hJ 5 (by decide)) (hJ 6 (by decide)), kA1, kU1, kA2, kU2⟩)
      ·
        refine lv_iload_n hx hb rd_M_word_18 rfl (lv_at hl 3 rfl) ?_
        refine lv_sipush (v := iv (300)) hx hb rd_M_word_19 (by decide) ?_
        refine iw_icmp_lt (tgt := 27) hx hb rd_M_word_22 (by decide) (hi) ⟨by omega, by omega⟩ (fun c2 => ?_) (fun c2 => ?_)
        ·
          obtain ⟨i, rfl⟩ : ∃ k : Nat, i = k := ⟨i.toNat, by omega⟩
          have hl0 := dg_lt A1 (2 * i)
          have hl1 := dg_lt A1 (2 * i + 1)
          refine lv_aload_n hx hb rd_M_word_27 rfl (lv_at hl 0 rfl) ?_
          refine lv_iload_n hx hb rd_M_word_28 rfl (lv_at hl 1 rfl) ?_
          refine lv_iload_n hx hb rd_M_word_29 rfl (lv_at hl 2 rfl) ?_
          refine ef_callV (As := [.int (iv (0)), .int (iv (0))]) (rest := []) ⟨hx, hb, hml, hown, hts⟩ (r_partOf00 l dC dI ht r) (cwV 2 hts (ef_goodV rm_348 rm_350 rm_13 rm_24 rm_351) rfl rfl rfl (by decide +kernel) ⟨Nat.le_of_ble_eq_true rfl, Nat.le_of_ble_eq_true rfl⟩) hK hNX hP hD hS 0 rfl rfl rfl rfl hl.1 rfl (Nat.le_of_ble_eq_true rfl) rd_M_word_30 ⟨Nat.zero_le _, Nat.zero_le _⟩ (fun o w1 H locs hq hP hD hS => ?_)
          obtain ⟨rfl, e9⟩ := hq
          rw [e9] at hP hD
          refine W.eq (g2 := F0 m 33 ls [.ref (r 19)]) rfl ?_
          refine lv_astore (lv' := [(4, .ref (r 19)), (0, .ref (r 0)), (1, .int (iv (0))), (2, .int (iv (0))), (3, .int (iv ((i : Int))))]) hx hb rd_M_word_33 hl (by decide) rfl (fun ls hl => ?_)
          refine lv_iconst (v := iv (2)) hx hb rd_M_word_35 (by decide) ?_
          refine lv_iload_n hx hb rd_M_word_36 rfl (lv_at hl 4 rfl) ?_
          refine iw_imul hx hb rd_M_word_37 ?_
          refine iw_topi (y := iv (((2 * i : Nat) : Int))) (congrArg iv (by omega : (((2) * ((i : Int))) : Int) = (((2 * i : Nat) : Int)))) ?_
          refine lv_aload hx hb rd_M_word_38 (lv_at hl 0 rfl) ?_
          refine va_getN (D := (dC, dI)) (ci := 3) (v := .int (iv ((dn (A1) : Int)))) (C := rR3) (T := rT3) (N := 2) hx hb hts (fun w h => List.mem_cons_of_mem _ (rin3 w h)) hown hK hP 19 rfl rfl 1 (by decide) (hNX.use rm_270 rfl) (fun _ h9 => h9) rfl rd_M_word_40 ?_
          refine iw_icmp_ge (tgt := 58) hx hb rd_M_word_43 (by decide) ⟨by omega, by omega⟩ ⟨by omega, by omega⟩ (fun d0 => ?_) (fun d0 => ?_)
          ·
            have hz0 : dg A1 (2 * i) = 0 := dg_above (by omega)
            refine lv_iconst (v := iv (0)) hx hb rd_M_word_58 (by decide) ?_
            refine iw_topi (y := iv (((dg A1 (2 * i) : Nat) : Int))) (congrArg iv (by rw [hz0]; rfl : ((0) : Int) = (((dg A1 (2 * i) : Nat) : Int)))) ?_
            refine lv_istore (lv' := [(5, .int (iv (((dg A1 (2 * i) : Nat) : Int)))), (4, .ref (r 19)), (0, .ref (r 0)), (1, .int (iv (0))), (2, .int (iv (0))), (3, .int (iv ((i : Int))))]) hx hb rd_M_word_59 hl (by decide) rfl (fun ls hl => ?_)
            refine lv_iconst (v := iv (2)) hx hb rd_M_word_61 (by decide) ?_
            refine lv_iload_n hx hb rd_M_word_62 rfl (lv_at hl 5 rfl) ?_
            refine iw_imul hx hb rd_M_word_63 ?_
            refine lv_iconst (v := iv (1)) hx hb rd_M_word_64 (by decide) ?_
            refine iw_iadd hx hb rd_M_word_65 ?_
            refine iw_topi (y := iv (((2 * i + 1 : Nat) : Int))) (congrArg iv (by omega : ((((2) * ((i : Int))) + (1)) : Int) = (((2 * i + 1 : Nat) : Int)))) ?_
            refine lv_aload hx hb rd_M_word_66 (lv_at hl 1 rfl) ?_
            refine va_getN (D := (dC, dI)) (ci := 3) (v := .int (iv ((dn (A1) : Int)))) (C := rR3) (T := rT3) (N := 2) hx hb hts (fun w h => List.mem_cons_of_mem _ (rin3 w h)) hown hK hP 19 rfl rfl 1 (by decide) (hNX.use rm_270 rfl) (fun _ h9 => h9) rfl rd_M_word_68 ?_
            refine iw_icmp_ge (tgt := 88) hx hb rd_M_word_71 (by decide) ⟨by omega, by omega⟩ ⟨by omega, by omega⟩ (fun d1 => ?_) (fun d1 => ?_)
            ·
              have hz1 : dg A1 (2 * i + 1) = 0 := dg_above (by omega)
              refine lv_iconst (v := iv (0)) hx hb rd_M_word_88 (by decide) ?_
              refine iw_topi (y := iv (((dg A1 (2 * i + 1) : Nat) : Int))) (congrArg iv (by rw [hz1]; rfl : ((0) : Int) = (((dg A1 (2 * i + 1) : Nat) : Int)))) ?_
              refine lv_istore (lv' := [(6, .int (iv (((dg A1 (2 * i + 1) : Nat) : Int)))), (5, .int (iv (((dg A1 (2 * i) : Nat) : Int)))), (4, .ref (r 19)), (0, .ref (r 0)), (1, .int (iv (0))), (2, .int (iv (0))), (3, .int (iv ((i : Int))))]) hx hb rd_M_word_89 hl (by decide) rfl (fun ls hl => ?_)
              refine lv_iload hx hb rd_M_word_91 (lv_at hl 0 rfl) ?_
              refine lv_bipush (v := iv (16)) hx hb rd_M_word_93 (by decide) ?_
              refine iw_topi (y := iv (((16 : Nat) : Int))) (congrArg iv (by rfl : ((16) : Int) = (((16 : Nat) : Int)))) ?_
              refine iw_ishlk (a := dg A1 (2 * i + 1)) (k := 16) hx hb (by decide) (by omega) rd_M_word_95 ?_
              refine iw_topi (y := iv (((dg A1 (2 * i + 1) * 65536 : Nat) : Int))) (congrArg iv (by rfl : ((((dg A1 (2 * i + 1) * 2 ^ 16 : Nat) : Int)) : Int) = (((dg A1 (2 * i + 1) * 65536 : Nat) : Int)))) ?_
              refine lv_iload hx hb rd_M_word_96 (lv_at hl 1 rfl) ?_
              refine iw_ior hx hb hl1 hl0 rd_M_word_98 ?_
              exact ef_iret hx hb hr hlocks hP hD hS rd_M_word_99 (by rw [wz_in (by omega), wd_dg, Nat.add_comm]; exact ⟨fun i => [((V 0)), ((V 1)), ((V 2)), ((V 3)), ((V 4)), ((V 5)), ((V 6))].getD i 0, fun i => [((J 0)), ((J 1)), ((J 2)), ((J 3)), ((J 4)), ((J 5)), ((J 6)), ((J 7)), ((J 8)), ((J 9)), ((J 10))].getD i (fun _ => 0), _, _, _, _, rfl, rfl, rJ_of (hJ 0 (by decide)) (hJ 1 (by decide)) (hJ 2 (by decide)) (hJ 3 (by decide)) (hJ 4 (by decide)) (hJ 5 (by decide)) (hJ 6 (by decide)), kA1, kU1, kA2, kU2⟩)
            ·
              have hz1 := kA1.1 (2 * i + 1) (by omega)
              refine lv_aload hx hb rd_M_word_74 (lv_at hl 1 rfl) ?_
              refine va_getN (D := (dC, dI)) (ci := 3) (v := .ref (r 20)) (C := rR3) (T := rT3) (N := 2) hx hb hts (fun w h => List.mem_cons_of_mem _ (rin3 w h)) hown hK hP 19 rfl rfl 0 (by decide) (hNX.use rm_267 rfl) (fun _ h9 => h9) rfl rd_M_word_76 ?_
              refine lv_iconst (v := iv (2)) hx hb rd_M_word_79 (by decide) ?_
              refine lv_iload_n hx hb rd_M_word_80 rfl (lv_at hl 5 rfl) ?_
              refine iw_imul hx hb rd_M_word_81 ?_
              refine lv_iconst (v := iv (1)) hx hb rd_M_word_82 (by decide) ?_
              refine iw_iadd hx hb rd_M_word_83 ?_
              refine iw_topi (y := iv (((2 * i + 1 : Nat) : Int))) (congrArg iv (by omega : ((((2) * ((i : Int))) + (1)) : Int) = (((2 * i + 1 : Nat) : Int)))) ?_
              refine iw_iald (i := 2 * i + 1) hx hb hK hP 20 0 rfl ht (by omega) (by decide) rd_M_word_84 ?_
              refine iw_topi (y := iv (((dg A1 (2 * i + 1) : Nat) : Int))) (congrArg iv (by rw [hz1] : ((((J 7)) (2 * i + 1)) : Int) = (((dg A1 (2 * i + 1) : Nat) : Int)))) ?_
              refine lv_goto (tgt := 89) hx hb rd_M_word_85 (by decide) ?_
              refine lv_istore (lv' := [(6, .int (iv (((dg A1 (2 * i + 1) : Nat) : Int)))), (5, .int (iv (((dg A1 (2 * i) : Nat) : Int)))), (4, .ref (r 19)), (0, .ref (r 0)), (1, .int (iv (0))), (2, .int (iv (0))), (3, .int (iv ((i : Int))))]) hx hb rd_M_word_89 hl (by decide) rfl (fun ls hl => ?_)
              refine lv_iload hx hb rd_M_word_91 (lv_at hl 0 rfl) ?_
              refine lv_bipush (v := iv (16)) hx hb rd_M_word_93 (by decide) ?_
              refine iw_topi (y := iv (((16 : Nat) : Int))) (congrArg iv (by rfl : ((16) : Int) = (((16 : Nat) : Int)))) ?_
              refine iw_ishlk (a := dg A1 (2 * i + 1)) (k := 16) hx hb (by decide) (by omega) rd_M_word_95 ?_
              refine iw_topi (y := iv (((dg A1 (2 * i + 1) * 65536 : Nat) : Int))) (congrArg iv (by rfl : ((((dg A1 (2 * i + 1) * 2 ^ 16 : Nat) : Int)) : Int) = (((dg A1 (2 * i + 1) * 65536 : Nat) : Int)))) ?_
              refine lv_iload hx hb rd_M_word_96 (lv_at hl 1 rfl) ?_
              refine iw_ior hx hb hl1 hl0 rd_M_word_98 ?_
              exact ef_iret hx hb hr hlocks hP hD hS rd_M_word_99 (by rw [wz_in (by omega), wd_dg, Nat.add_comm]; exact ⟨fun i => [((V 0)), ((V 1)), ((V 2)), ((V 3)), ((V 4)), ((V 5)), ((V 6))].getD i 0, fun i => [((J 0)), ((J 1)), ((J 2)), ((J 3)), ((J 4)), ((J 5)), ((J 6)), ((J 7)), ((J 8)), ((J 9)), ((J 10))].getD i (fun _ => 0), _, _, _, _, rfl, rfl, rJ_of (hJ 0 (by decide)) (hJ 1 (by decide)) (hJ 2 (by decide)) (hJ 3 (by decide)) (hJ 4 (by decide)) (hJ 5 (by decide)) (hJ 6 (by decide)), kA1, kU1, kA2, kU2⟩)
          ·
            have hz0 := kA1.1 (2 * i) (by omega)
            refine lv_aload hx hb rd_M_word_46 (lv_at hl 0 rfl) ?_
            refine va_getN (D := (dC, dI)) (ci := 3) (v := .ref (r 20)) (C := rR3) (T := rT3) (N := 2) hx hb hts (fun w h => List.mem_cons_of_mem _ (rin3 w h)) hown hK hP 19 rfl rfl 0 (by decide) (hNX.use rm_267 rfl) (fun _ h9 => h9) rfl rd_M_word_48 ?_
            refine lv_iconst (v := iv (2)) hx hb rd_M_word_51 (by decide) ?_
            refine lv_iload_n hx hb rd_M_word_52 rfl (lv_at hl 4 rfl) ?_
            refine iw_imul hx hb rd_M_word_53 ?_
            refine iw_topi (y := iv (((2 * i : Nat) : Int))) (congrArg iv (by omega : (((2) * ((i : Int))) : Int) = (((2 * i : Nat) : Int)))) ?_
            refine iw_iald (i := 2 * i) hx hb hK hP 20 0 rfl ht (by omega) (by decide) rd_M_word_54 ?_
            refine iw_topi (y := iv (((dg A1 (2 * i) : Nat) : Int))) (congrArg iv (by rw [hz0] : ((((J 7)) (2 * i)) : Int) = (((dg A1 (2 * i) : Nat) : Int)))) ?_
            refine lv_goto (tgt := 59) hx hb rd_M_word_55 (by decide) ?_
            refine lv_istore (lv' := [(5, .int (iv (((dg A1 (2 * i) : Nat) : Int)))), (4, .ref (r 19)), (0, .ref (r 0)), (1, .int (iv (0))), (2, .int (iv (0))), (3, .int (iv ((i : Int))))]) hx hb rd_M_word_59 hl (by decide) rfl (fun ls hl => ?_)
            refine lv_iconst (v := iv (2)) hx hb rd_M_word_61 (by decide) ?_
            refine lv_iload_n hx hb rd_M_word_62 rfl (lv_at hl 5 rfl) ?_
            refine iw_imul hx hb rd_M_word_63 ?_
            refine lv_iconst (v := iv (1)) hx hb rd_M_word_64 (by decide) ?_
            refine iw_iadd hx hb rd_M_word_65 ?_
            refine iw_topi (y := iv (((2 * i + 1 : Nat) : Int))) (congrArg iv (by omega : ((((2) * ((i : Int))) + (1)) : Int) = (((2 * i + 1 : Nat) : Int)))) ?_
            refine lv_aload hx hb rd_M_word_66 (lv_at hl 1 rfl) ?_
            refine va_getN (D := (dC, dI)) (ci := 3) (v := .int (iv ((dn (A1) : Int)))) (C := rR3) (T := rT3) (N := 2) hx hb hts (fun w h => List.mem_cons_of_mem _ (rin3 w h)) hown hK hP 19 rfl rfl 1 (by decide) (hNX.use rm_270 rfl) (fun _ h9 => h9) rfl rd_M_word_68 ?_
            refine iw_icmp_ge (tgt := 88) hx hb rd_M_word_71 (by decide) ⟨by omega, by omega⟩ ⟨by omega, by omega⟩ (fun d1 => ?_) (fun d1 => ?_)
            ·
              have hz1 : dg A1 (2 * i + 1) = 0 := dg_above (by omega)
              refine lv_iconst (v := iv (0)) hx hb rd_M_word_88 (by decide) ?_
              refine iw_topi (y := iv (((dg A1 (2 * i + 1) : Nat) : Int))) (congrArg iv (by rw [hz1]; rfl : ((0) : Int) = (((dg A1 (2 * i + 1) : Nat) : Int)))) ?_
              refine lv_istore (lv' := [(6, .int (iv (((dg A1 (2 * i + 1) : Nat) : Int)))), (5, .int (iv (((dg A1 (2 * i) : Nat) : Int)))), (4, .ref (r 19)), (0, .ref (r 0)), (1, .int (iv (0))), (2, .int (iv (0))), (3, .int (iv ((i : Int))))]) hx hb rd_M_word_89 hl (by decide) rfl (fun ls hl => ?_)
              refine lv_iload hx hb rd_M_word_91 (lv_at hl 0 rfl) ?_
              refine lv_bipush (v := iv (16)) hx hb rd_M_word_93 (by decide) ?_
              refine iw_topi (y := iv (((16 : Nat) : Int))) (congrArg iv (by rfl : ((16) : Int) = (((16 : Nat) : Int)))) ?_
              refine iw_ishlk (a := dg A1 (2 * i + 1)) (k := 16) hx hb (by decide) (by omega) rd_M_word_95 ?_
              refine iw_topi (y := iv (((dg A1 (2 * i + 1) * 65536 : Nat) : Int))) (congrArg iv (by rfl : ((((dg A1 (2 * i + 1) * 2 ^ 16 : Nat) : Int)) : Int) = (((dg A1 (2 * i + 1) * 65536 : Nat) : Int)))) ?_
              refine lv_iload hx hb rd_M_word_96 (lv_at hl 1 rfl) ?_
              refine iw_ior hx hb hl1 hl0 rd_M_word_98 ?_
              exact ef_iret hx hb hr hlocks hP hD hS rd_M_word_99 (by rw [wz_in (by omega), wd_dg, Nat.add_comm]; exact ⟨fun i => [((V 0)), ((V 1)), ((V 2)), ((V 3)), ((V 4)), ((V 5)), ((V 6))].getD i 0, fun i => [((J 0)), ((J 1)), ((J 2)), ((J 3)), ((J 4)), ((J 5)), ((J 6)), ((J 7)), ((J 8)), ((J 9)), ((J 10))].getD i (fun _ => 0), _, _, _, _, rfl, rfl, rJ_of (hJ 0 (by decide)) (hJ 1 (by decide)) (hJ 2 (by decide)) (hJ 3 (by decide)) (hJ 4 (by decide)) (hJ 5 (by decide)) (hJ 6 (by decide)), kA1, kU1, kA2, kU2⟩)
            ·
              have hz1 := kA1.1 (2 * i + 1) (by omega)
              refine lv_aload hx hb rd_M_word_74 (lv_at hl 1 rfl) ?_
              refine va_getN (D := (dC, dI)) (ci := 3) (v := .ref (r 20)) (C := rR3) (T := rT3) (N := 2) hx hb hts (fun w h => List.mem_cons_of_mem _ (rin3 w h)) hown hK hP 19 rfl rfl 0 (by decide) (hNX.use rm_267 rfl) (fun _ h9 => h9) rfl rd_M_word_76 ?_
              refine lv_iconst (v := iv (2)) hx hb rd_M_word_79 (by decide) ?_
              refine lv_iload_n hx hb rd_M_word_80 rfl (lv_at hl 5 rfl) ?_
              refine iw_imul hx hb rd_M_word_81 ?_
              refine lv_iconst (v := iv (1)) hx hb rd_M_word_82 (by decide) ?_
              refine iw_iadd hx hb rd_M_word_83 ?_
              refine iw_topi (y := iv (((2 * i + 1 : Nat) : Int))) (congrArg iv (by omega : ((((2) * ((i : Int))) + (1)) : Int) = (((2 * i + 1 : Nat) : Int)))) ?_
              refine iw_iald (i := 2 * i + 1) hx hb hK hP 20 0 rfl ht (by omega) (by decide) rd_M_word_84 ?_
              refine iw_topi (y := iv (((dg A1 (2 * i + 1) : Nat) : Int))) (congrArg iv (by rw [hz1] : ((((J 7)) (2 * i + 1)) : Int) = (((dg A1 (2 * i + 1) : Nat) : Int)))) ?_
              refine lv_goto (tgt := 89) hx hb rd_M_word_85 (by decide) ?_
              refine lv_istore (lv' := [(6, .int (iv (((dg A1 (2 * i + 1) : Nat) : Int)))), (5, .int (iv (((dg A1 (2 * i) : Nat) : Int)))), (4, .ref (r 19)), (0, .ref (r 0)), (1, .int (iv (0))), (2, .int (iv (0))), (3, .int (iv ((i : Int))))]) hx hb rd_M_word_89 hl (by decide) rfl (fun ls hl => ?_)
              refine lv_iload hx hb rd_M_word_91 (lv_at hl 0 rfl) ?_
              refine lv_bipush (v := iv (16)) hx hb rd_M_word_93 (by decide) ?_
              refine iw_topi (y := iv (((16 : Nat) : Int))) (congrArg iv (by rfl : ((16) : Int) = (((16 : Nat) : Int)))) ?_
              refine iw_ishlk (a := dg A1 (2 * i + 1)) (k := 16) hx hb (by decide) (by omega) rd_M_word_95 ?_
              refine iw_topi (y := iv (((dg A1 (2 * i + 1) * 65536 : Nat) : Int))) (congrArg iv (by rfl : ((((dg A1 (2 * i + 1) * 2 ^ 16 : Nat) : Int)) : Int) = (((dg A1 (2 * i + 1) * 65536 : Nat) : Int)))) ?_
              refine lv_iload hx hb rd_M_word_96 (lv_at hl 1 rfl) ?_
              refine iw_ior hx hb hl1 hl0 rd_M_word_98 ?_
              exact ef_iret hx hb hr hlocks hP hD hS rd_M_word_99 (by rw [wz_in (by omega), wd_dg, Nat.add_comm]; exact ⟨fun i => [((V 0)), ((V 1)), ((V 2)), ((V 3)), ((V 4)), ((V 5)), ((V 6))].getD i 0, fun i => [((J 0)), ((J 1)), ((J 2)), ((J 3)), ((J 4)), ((J 5)), ((J 6)), ((J 7)), ((J 8)), ((J 9)), ((J 10))].getD i (fun _ => 0), _, _, _, _, rfl, rfl, rJ_of (hJ 0 (by decide)) (hJ 1 (by decide)) (hJ 2 (by decide)) (hJ 3 (by decide)) (hJ 4 (by decide)) (hJ 5 (by decide)) (hJ 6 (by decide)), kA1, kU1, kA2, kU2⟩)
        ·
          refine lv_iconst (v := iv (0)) hx hb rd_M_word_25 (by decide) ?_
          exact ef_iret hx hb hr hlocks hP hD hS rd_M_word_26 (by rw [wz_far mA1 (by omega)]; exact ⟨fun i => [((V 0)), ((V 1)), ((V 2)), ((V 3)), ((V 4)), ((V 5)), ((V 6))].getD i 0, fun i => [((J 0)), ((J 1)), ((J 2)), ((J 3)), ((J 4)), ((J 5)), ((J 6)), ((J 7)), ((J 8)), ((J 9)), ((J 10))].getD i (fun _ => 0), _, _, _, _, rfl, rfl, rJ_of (hJ 0 (by decide)) (hJ 1 (by decide)) (hJ 2 (by decide)) (hJ 3 (by decide)) (hJ 4 (by decide)) (hJ 5 (by decide)) (hJ 6 (by decide)), kA1, kU1, kA2, kU2⟩)

set_option maxRecDepth 100000 in
set_option maxHeartbeats 4000000 in
/-- word -/
theorem r_word01 (l : Launch) (dC : Nat → ClassId) (dI : Nat → Nat → Nat) {cI : ClassId} {tys : List (ClassId × FieldType)} (ht : tys[0]? = some (cI, .int)) (r : Nat → Nat) {V : Nat → Nat} {J : Nat → Nat → Nat} {A1 U1 A2 U2 : Nat} {pb pe ob oe b1 e1 b2 e2 : Int} (hJ : rJ V J) (kA1 : bk A1 (J 7)) (kU1 : bk U1 (J 8)) (kA2 : bk A2 (J 9)) (kU2 : bk U2 (J 10)) (mA1 : dn A1 ≤ 300) (mU1 : dn U1 ≤ 300) (mA2 : dn A2 ≤ 300) (mU2 : dn U2 ≤ 300) (i : Int) (hi : ir i) : ef_C l ry_M_word rw_M_word ({ frames := 1, cells := 0, slots := 0, locals := 23 } : Room) [.ref (r 0), .int (iv (0)), .int (iv (1)), .int (iv (i))] (dC, dI) vwCl tys (rC cI r ((V 0)) ((V 1)) ((V 2)) ((V 3)) ((V 4)) ((V 5)) ((V 6)) (A1) (U1) (A2) (U2) ((J 0)) ((J 1)) ((J 2)) ((J 3)) ((J 4)) ((J 5)) ((J 6)) ((J 7)) ((J 8)) ((J 9)) ((J 10)) (pb) (pe) (ob) (oe) (b1) (e1) (b2) (e2)) (fun o w1 => ∃ (V2 : Nat → Nat) (J2 : Nat → Nat → Nat) (pb2 pe2 ob2 oe2 : Int), o = some (.int (iv (wz (wd U1) i : Int))) ∧ w1 = rC cI r (V2 0) (V2 1) (V2 2) (V2 3) (V2 4) (V2 5) (V2 6) (A1) (U1) (A2) (U2) (J2 0) (J2 1) (J2 2) (J2 3) (J2 4) (J2 5) (J2 6) (J2 7) (J2 8) (J2 9) (J2 10) (pb2) (pe2) (ob2) (oe2) (b1) (e1) (b2) (e2) ∧ rJ V2 J2 ∧ bk (A1) (J2 7) ∧ bk (U1) (J2 8) ∧ bk (A2) (J2 9) ∧ bk (U2) (J2 10)) := by
  refine ef_C.of (cc := rc_M_word) (maxL := 7) (ret := (some .int)) (by decide) rfl (Nat.le_of_ble_eq_true rfl) ?_
  intro p e s m below meth c ls hx hb hml hr hts hown hlocks hK hNX hP hD hS hl
  have hl : lv_has ls 7 [(0, .ref (r 0)), (1, .int (iv (0))), (2, .int (iv (1))), (3, .int (iv (i)))] := hl
  have hown : s.vm.findClass rR5 = some m.cls := hown
  generalize hH : s.heap = H at hP ⊢
  have hS : va_S (ef_A (rC cI r ((V 0)) ((V 1)) ((V 2)) ((V 3)) ((V 4)) ((V 5)) ((V 6)) (A1) (U1) (A2) (U2) ((J 0)) ((J 1)) ((J 2)) ((J 3)) ((J 4)) ((J 5)) ((J 6)) ((J 7)) ((J 8)) ((J 9)) ((J 10)) (pb) (pe) (ob) (oe) (b1) (e1) (b2) (e2))) s.heap H [] := by rw [← hH]; exact hS
  generalize ([] : List Loc) = locs at hS ⊢
  refine lv_iload_n hx hb rd_M_word_0 rfl (lv_at hl 1 rfl) ?_
  refine ef_callS (As := [.int (iv (0))]) (rest := []) ⟨hx, hb, hml, hown, hts⟩ (r_isNumber0 l dC dI ht r) (cwS 1 hts (ef_goodS rm_336 rm_337 rm_24 rm_338) rfl rfl rfl (by decide +kernel) ⟨Nat.le_of_ble_eq_true rfl, Nat.le_of_ble_eq_true rfl⟩) hK hNX hP hD hS rfl hl.1 rfl (Nat.le_of_ble_eq_true rfl) rd_M_word_1 ⟨Nat.zero_le _, Nat.zero_le _⟩ (fun o w1 H locs hq hP hD hS => ?_)
  obtain ⟨rfl, e9⟩ := hq
  rw [e9] at hP hD
  refine W.eq (g2 := F0 m 4 ls [.int (iv (1))]) rfl ?_
  refine iw_if_eq (tgt := 25) hx hb rd_M_word_4 (by decide) ⟨by omega, by omega⟩ (fun k1 => ?_) (fun k1 => ?_)
  ·
    exact absurd k1 (by decide)
  ·
    refine lv_iload_n hx hb rd_M_word_7 rfl (lv_at hl 2 rfl) ?_
    refine ef_callS (As := [.int (iv (1))]) (rest := []) ⟨hx, hb, hml, hown, hts⟩ (r_isNumber1 l dC dI ht r) (cwS 1 hts (ef_goodS rm_336 rm_337 rm_24 rm_338) rfl rfl rfl (by decide +kernel) ⟨Nat.le_of_ble_eq_true rfl, Nat.le_of_ble_eq_true rfl⟩) hK hNX hP hD hS rfl hl.1 rfl (Nat.le_of_ble_eq_true rfl) rd_M_word_8 ⟨Nat.zero_le _, Nat.zero_le _⟩ (fun o w1 H locs hq hP hD hS => ?_)
    obtain ⟨rfl, e9⟩ := hq
    rw [e9] at hP hD
    refine W.eq (g2 := F0 m 11 ls [.int (iv (1))]) rfl ?_
    refine iw_if_eq (tgt := 25) hx hb rd_M_word_11 (by decide) ⟨by omega, by omega⟩ (fun k2 => ?_) (fun k2 => ?_)
    ·
      exact absurd k2 (by decide)
    ·
      refine lv_iload_n hx hb rd_M_word_14 rfl (lv_at hl 3 rfl) ?_
      refine iw_if_lt (tgt := 25) hx hb rd_M_word_15 (by decide) (hi) (fun c1 => ?_) (fun c1 => ?_)
      ·
        refine lv_iconst (v := iv (0)) hx hb rd_M_word_25 (by decide) ?_
        exact ef_iret hx hb hr hlocks hP hD hS rd_M_word_26 (by rw [wz_far mU1 (by omega)]; exact ⟨fun i => [((V 0)), ((V 1)), ((V 2)), ((V 3)), ((V 4)), ((V 5)), ((V 6))].getD i 0, fun i => [((J 0)), ((J 1)), ((J 2)), ((J 3)), ((J 4)), ((J 5)), ((J 6)), ((J 7)), ((J 8)), ((J 9)), ((J 10))].getD i (fun _ => 0), _, _, _, _, rfl, rfl, rJ_of (hJ 0 (by decide)) (hJ 1 (by decide)) (hJ 2 (by decide)) (hJ 3 (by decide)) (hJ 4 (by decide)) (hJ 5 (by decide)) (hJ 6 (by decide)), kA1, kU1, kA2, kU2⟩)
      ·
        refine lv_iload_n hx hb rd_M_word_18 rfl (lv_at hl 3 rfl) ?_
        refine lv_sipush (v := iv (300)) hx hb rd_M_word_19 (by decide) ?_
        refine iw_icmp_lt (tgt := 27) hx hb rd_M_word_22 (by decide) (hi) ⟨by omega, by omega⟩ (fun c2 => ?_) (fun c2 => ?_)
        ·
          obtain ⟨i, rfl⟩ : ∃ k : Nat, i = k := ⟨i.toNat, by omega⟩
          have hl0 := dg_lt U1 (2 * i)
          have hl1 := dg_lt U1 (2 * i + 1)
          refine lv_aload_n hx hb rd_M_word_27 rfl (lv_at hl 0 rfl) ?_
          refine lv_iload_n hx hb rd_M_word_28 rfl (lv_at hl 1 rfl) ?_
          refine lv_iload_n hx hb rd_M_word_29 rfl (lv_at hl 2 rfl) ?_
          refine ef_callV (As := [.int (iv (0)), .int (iv (1))]) (rest := []) ⟨hx, hb, hml, hown, hts⟩ (r_partOf01 l dC dI ht r) (cwV 2 hts (ef_goodV rm_348 rm_350 rm_13 rm_24 rm_351) rfl rfl rfl (by decide +kernel) ⟨Nat.le_of_ble_eq_true rfl, Nat.le_of_ble_eq_true rfl⟩) hK hNX hP hD hS 0 rfl rfl rfl rfl hl.1 rfl (Nat.le_of_ble_eq_true rfl) rd_M_word_30 ⟨Nat.zero_le _, Nat.zero_le _⟩ (fun o w1 H locs hq hP hD hS => ?_)
          obtain ⟨rfl, e9⟩ := hq
          rw [e9] at hP hD
          refine W.eq (g2 := F0 m 33 ls [.ref (r 21)]) rfl ?_
          refine lv_astore (lv' := [(4, .ref (r 21)), (0, .ref (r 0)), (1, .int (iv (0))), (2, .int (iv (1))), (3, .int (iv ((i : Int))))]) hx hb rd_M_word_33 hl (by decide) rfl (fun ls hl => ?_)
          refine lv_iconst (v := iv (2)) hx hb rd_M_word_35 (by decide) ?_
          refine lv_iload_n hx hb rd_M_word_36 rfl (lv_at hl 4 rfl) ?_
          refine iw_imul hx hb rd_M_word_37 ?_
          refine iw_topi (y := iv (((2 * i : Nat) : Int))) (congrArg iv (by omega : (((2) * ((i : Int))) : Int) = (((2 * i : Nat) : Int)))) ?_
          refine lv_aload hx hb rd_M_word_38 (lv_at hl 0 rfl) ?_
          refine va_getN (D := (dC, dI)) (ci := 3) (v := .int (iv ((dn (U1) : Int)))) (C := rR3) (T := rT3) (N := 2) hx hb hts (fun w h => List.mem_cons_of_mem _ (rin3 w h)) hown hK hP 21 rfl rfl 1 (by decide) (hNX.use rm_270 rfl) (fun _ h9 => h9) rfl rd_M_word_40 ?_
          refine iw_icmp_ge (tgt := 58) hx hb rd_M_word_43 (by decide) ⟨by omega, by omega⟩ ⟨by omega, by omega⟩ (fun d0 => ?_) (fun d0 => ?_)
          ·
            have hz0 : dg U1 (2 * i) = 0 := dg_above (by omega)
            refine lv_iconst (v := iv (0)) hx hb rd_M_word_58 (by decide) ?_
            refine iw_topi (y := iv (((dg U1 (2 * i) : Nat) : Int))) (congrArg iv (by rw [hz0]; rfl : ((0) : Int) = (((dg U1 (2 * i) : Nat) : Int)))) ?_
            refine lv_istore (lv' := [(5, .int (iv (((dg U1 (2 * i) : Nat) : Int)))), (4, .ref (r 21)), (0, .ref (r 0)), (1, .int (iv (0))), (2, .int (iv (1))), (3, .int (iv ((i : Int))))]) hx hb rd_M_word_59 hl (by decide) rfl (fun ls hl => ?_)
            refine lv_iconst (v := iv (2)) hx hb rd_M_word_61 (by decide) ?_
            refine lv_iload_n hx hb rd_M_word_62 rfl (lv_at hl 5 rfl) ?_
            refine iw_imul hx hb rd_M_word_63 ?_
            refine lv_iconst (v := iv (1)) hx hb rd_M_word_64 (by decide) ?_
            refine iw_iadd hx hb rd_M_word_65 ?_
            refine iw_topi (y := iv (((2 * i + 1 : Nat) : Int))) (congrArg iv (by omega : ((((2) * ((i : Int))) + (1)) : Int) = (((2 * i + 1 : Nat) : Int)))) ?_
            refine lv_aload hx hb rd_M_word_66 (lv_at hl 1 rfl) ?_
            refine va_getN (D := (dC, dI)) (ci := 3) (v := .int (iv ((dn (U1) : Int)))) (C := rR3) (T := rT3) (N := 2) hx hb hts (fun w h => List.mem_cons_of_mem _ (rin3 w h)) hown hK hP 21 rfl rfl 1 (by decide) (hNX.use rm_270 rfl) (fun _ h9 => h9) rfl rd_M_word_68 ?_
            refine iw_icmp_ge (tgt := 88) hx hb rd_M_word_71 (by decide) ⟨by omega, by omega⟩ ⟨by omega, by omega⟩ (fun d1 => ?_) (fun d1 => ?_)
            ·
              have hz1 : dg U1 (2 * i + 1) = 0 := dg_above (by omega)
              refine lv_iconst (v := iv (0)) hx hb rd_M_word_88 (by decide) ?_
              refine iw_topi (y := iv (((dg U1 (2 * i + 1) : Nat) : Int))) (congrArg iv (by rw [hz1]; rfl : ((0) : Int) = (((dg U1 (2 * i + 1) : Nat) : Int)))) ?_
              refine lv_istore (lv' := [(6, .int (iv (((dg U1 (2 * i + 1) : Nat) : Int)))), (5, .int (iv (((dg U1 (2 * i) : Nat) : Int)))), (4, .ref (r 21)), (0, .ref (r 0)), (1, .int (iv (0))), (2, .int (iv (1))), (3, .int (iv ((i : Int))))]) hx hb rd_M_word_89 hl (by decide) rfl (fun ls hl => ?_)
              refine lv_iload hx hb rd_M_word_91 (lv_at hl 0 rfl) ?_
              refine lv_bipush (v := iv (16)) hx hb rd_M_word_93 (by decide) ?_
              refine iw_topi (y := iv (((16 : Nat) : Int))) (congrArg iv (by rfl : ((16) : Int) = (((16 : Nat) : Int)))) ?_
              refine iw_ishlk (a := dg U1 (2 * i + 1)) (k := 16) hx hb (by decide) (by omega) rd_M_word_95 ?_
              refine iw_topi (y := iv (((dg U1 (2 * i + 1) * 65536 : Nat) : Int))) (congrArg iv (by rfl : ((((dg U1 (2 * i + 1) * 2 ^ 16 : Nat) : Int)) : Int) = (((dg U1 (2 * i + 1) * 65536 : Nat) : Int)))) ?_
              refine lv_iload hx hb rd_M_word_96 (lv_at hl 1 rfl) ?_
              refine iw_ior hx hb hl1 hl0 rd_M_word_98 ?_
              exact ef_iret hx hb hr hlocks hP hD hS rd_M_word_99 (by rw [wz_in (by omega), wd_dg, Nat.add_comm]; exact ⟨fun i => [((V 0)), ((V 1)), ((V 2)), ((V 3)), ((V 4)), ((V 5)), ((V 6))].getD i 0, fun i => [((J 0)), ((J 1)), ((J 2)), ((J 3)), ((J 4)), ((J 5)), ((J 6)), ((J 7)), ((J 8)), ((J 9)), ((J 10))].getD i (fun _ => 0), _, _, _, _, rfl, rfl, rJ_of (hJ 0 (by decide)) (hJ 1 (by decide)) (hJ 2 (by decide)) (hJ 3 (by decide)) (hJ 4 (by decide)) (hJ 5 (by decide)) (hJ 6 (by decide)), kA1, kU1, kA2, kU2⟩)
            ·
              have hz1 := kU1.1 (2 * i + 1) (by omega)
              refine lv_aload hx hb rd_M_word_74 (lv_at hl 1 rfl) ?_
              refine va_getN (D := (dC, dI)) (ci := 3) (v := .ref (r 22)) (C := rR3) (T := rT3) (N := 2) hx hb hts (fun w h => List.mem_cons_of_mem _ (rin3 w h)) hown hK hP 21 rfl rfl 0 (by decide) (hNX.use rm_267 rfl) (fun _ h9 => h9) rfl rd_M_word_76 ?_
              refine lv_iconst (v := iv (2)) hx hb rd_M_word_79 (by decide) ?_
              refine lv_iload_n hx hb rd_M_word_80 rfl (lv_at hl 5 rfl) ?_
              refine iw_imul hx hb rd_M_word_81 ?_
              refine lv_iconst (v := iv (1)) hx hb rd_M_word_82 (by decide) ?_
              refine iw_iadd hx hb rd_M_word_83 ?_
              refine iw_topi (y := iv (((2 * i + 1 : Nat) : Int))) (congrArg iv (by omega : ((((2) * ((i : Int))) + (1)) : Int) = (((2 * i + 1 : Nat) : Int)))) ?_
              refine iw_iald (i := 2 * i + 1) hx hb hK hP 22 0 rfl ht (by omega) (by decide) rd_M_word_84 ?_
              refine iw_topi (y := iv (((dg U1 (2 * i + 1) : Nat) : Int))) (congrArg iv (by rw [hz1] : ((((J 8)) (2 * i + 1)) : Int) = (((dg U1 (2 * i + 1) : Nat) : Int)))) ?_
              refine lv_goto (tgt := 89) hx hb rd_M_word_85 (by decide) ?_
              refine lv_istore (lv' := [(6, .int (iv (((dg U1 (2 * i + 1) : Nat) : Int)))), (5, .int (iv (((dg U1 (2 * i) : Nat) : Int)))), (4, .ref (r 21)), (0, .ref (r 0)), (1, .int (iv (0))), (2, .int (iv (1))), (3, .int (iv ((i : Int))))]) hx hb rd_M_word_89 hl (by decide) rfl (fun ls hl => ?_)
              refine lv_iload hx hb rd_M_word_91 (lv_at hl 0 rfl) ?_
              refine lv_bipush (v := iv (16)) hx hb rd_M_word_93 (by decide) ?_
              refine iw_topi (y := iv (((16 : Nat) : Int))) (congrArg iv (by rfl : ((16) : Int) = (((16 : Nat) : Int)))) ?_
              refine iw_ishlk (a := dg U1 (2 * i + 1)) (k := 16) hx hb (by decide) (by omega) rd_M_word_95 ?_
              refine iw_topi (y := iv (((dg U1 (2 * i + 1) * 65536 : Nat) : Int))) (congrArg iv (by rfl : ((((dg U1 (2 * i + 1) * 2 ^ 16 : Nat) : Int)) : Int) = (((dg U1 (2 * i + 1) * 65536 : Nat) : Int)))) ?_
              refine lv_iload hx hb rd_M_word_96 (lv_at hl 1 rfl) ?_
              refine iw_ior hx hb hl1 hl0 rd_M_word_98 ?_
              exact ef_iret hx hb hr hlocks hP hD hS rd_M_word_99 (by rw [wz_in (by omega), wd_dg, Nat.add_comm]; exact ⟨fun i => [((V 0)), ((V 1)), ((V 2)), ((V 3)), ((V 4)), ((V 5)), ((V 6))].getD i 0, fun i => [((J 0)), ((J 1)), ((J 2)), ((J 3)), ((J 4)), ((J 5)), ((J 6)), ((J 7)), ((J 8)), ((J 9)), ((J 10))].getD i (fun _ => 0), _, _, _, _, rfl, rfl, rJ_of (hJ 0 (by decide)) (hJ 1 (by decide)) (hJ 2 (by decide)) (hJ 3 (by decide)) (hJ 4 (by decide)) (hJ 5 (by decide)) (hJ 6 (by decide)), kA1, kU1, kA2, kU2⟩)
          ·
            have hz0 := kU1.1 (2 * i) (by omega)
            refine lv_aload hx hb rd_M_word_46 (lv_at hl 0 rfl) ?_
            refine va_getN (D := (dC, dI)) (ci := 3) (v := .ref (r 22)) (C := rR3) (T := rT3) (N := 2) hx hb hts (fun w h => List.mem_cons_of_mem _ (rin3 w h)) hown hK hP 21 rfl rfl 0 (by decide) (hNX.use rm_267 rfl) (fun _ h9 => h9) rfl rd_M_word_48 ?_
            refine lv_iconst (v := iv (2)) hx hb rd_M_word_51 (by decide) ?_
            refine lv_iload_n hx hb rd_M_word_52 rfl (lv_at hl 4 rfl) ?_
            refine iw_imul hx hb rd_M_word_53 ?_
            refine iw_topi (y := iv (((2 * i : Nat) : Int))) (congrArg iv (by omega : (((2) * ((i : Int))) : Int) = (((2 * i : Nat) : Int)))) ?_
            refine iw_iald (i := 2 * i) hx hb hK hP 22 0 rfl ht (by omega) (by decide) rd_M_word_54 ?_
            refine iw_topi (y := iv (((dg U1 (2 * i) : Nat) : Int))) (congrArg iv (by rw [hz0] : ((((J 8)) (2 * i)) : Int) = (((dg U1 (2 * i) : Nat) : Int)))) ?_
            refine lv_goto (tgt := 59) hx hb rd_M_word_55 (by decide) ?_
            refine lv_istore (lv' := [(5, .int (iv (((dg U1 (2 * i) : Nat) : Int)))), (4, .ref (r 21)), (0, .ref (r 0)), (1, .int (iv (0))), (2, .int (iv (1))), (3, .int (iv ((i : Int))))]) hx hb rd_M_word_59 hl (by decide) rfl (fun ls hl => ?_)
            refine lv_iconst (v := iv (2)) hx hb rd_M_word_61 (by decide) ?_
            refine lv_iload_n hx hb rd_M_word_62 rfl (lv_at hl 5 rfl) ?_
            refine iw_imul hx hb rd_M_word_63 ?_
            refine lv_iconst (v := iv (1)) hx hb rd_M_word_64 (by decide) ?_
            refine iw_iadd hx hb rd_M_word_65 ?_
            refine iw_topi (y := iv (((2 * i + 1 : Nat) : Int))) (congrArg iv (by omega : ((((2) * ((i : Int))) + (1)) : Int) = (((2 * i + 1 : Nat) : Int)))) ?_
            refine lv_aload hx hb rd_M_word_66 (lv_at hl 1 rfl) ?_
            refine va_getN (D := (dC, dI)) (ci := 3) (v := .int (iv ((dn (U1) : Int)))) (C := rR3) (T := rT3) (N := 2) hx hb hts (fun w h => List.mem_cons_of_mem _ (rin3 w h)) hown hK hP 21 rfl rfl 1 (by decide) (hNX.use rm_270 rfl) (fun _ h9 => h9) rfl rd_M_word_68 ?_
            refine iw_icmp_ge (tgt := 88) hx hb rd_M_word_71 (by decide) ⟨by omega, by omega⟩ ⟨by omega, by omega⟩ (fun d1 => ?_) (fun d1 => ?_)
            ·
              have hz1 : dg U1 (2 * i + 1) = 0 := dg_above (by omega)
              refine lv_iconst (v := iv (0)) hx hb rd_M_word_88 (by decide) ?_
              refine iw_topi (y := iv (((dg U1 (2 * i + 1) : Nat) : Int))) (congrArg iv (by rw [hz1]; rfl : ((0) : Int) = (((dg U1 (2 * i + 1) : Nat) : Int)))) ?_
              refine lv_istore (lv' := [(6, .int (iv (((dg U1 (2 * i + 1) : Nat) : Int)))), (5, .int (iv (((dg U1 (2 * i) : Nat) : Int)))), (4, .ref (r 21)), (0, .ref (r 0)), (1, .int (iv (0))), (2, .int (iv (1))), (3, .int (iv ((i : Int))))]) hx hb rd_M_word_89 hl (by decide) rfl (fun ls hl => ?_)
              refine lv_iload hx hb rd_M_word_91 (lv_at hl 0 rfl) ?_
              refine lv_bipush (v := iv (16)) hx hb rd_M_word_93 (by decide) ?_
              refine iw_topi (y := iv (((16 : Nat) : Int))) (congrArg iv (by rfl : ((16) : Int) = (((16 : Nat) : Int)))) ?_
              refine iw_ishlk (a := dg U1 (2 * i + 1)) (k := 16) hx hb (by decide) (by omega) rd_M_word_95 ?_
              refine iw_topi (y := iv (((dg U1 (2 * i + 1) * 65536 : Nat) : Int))) (congrArg iv (by rfl : ((((dg U1 (2 * i + 1) * 2 ^ 16 : Nat) : Int)) : Int) = (((dg U1 (2 * i + 1) * 65536 : Nat) : Int)))) ?_
              refine lv_iload hx hb rd_M_word_96 (lv_at hl 1 rfl) ?_
              refine iw_ior hx hb hl1 hl0 rd_M_word_98 ?_
              exact ef_iret hx hb hr hlocks hP hD hS rd_M_word_99 (by rw [wz_in (by omega), wd_dg, Nat.add_comm]; exact ⟨fun i => [((V 0)), ((V 1)), ((V 2)), ((V 3)), ((V 4)), ((V 5)), ((V 6))].getD i 0, fun i => [((J 0)), ((J 1)), ((J 2)), ((J 3)), ((J 4)), ((J 5)), ((J 6)), ((J 7)), ((J 8)), ((J 9)), ((J 10))].getD i (fun _ => 0), _, _, _, _, rfl, rfl, rJ_of (hJ 0 (by decide)) (hJ 1 (by decide)) (hJ 2 (by decide)) (hJ 3 (by decide)) (hJ 4 (by decide)) (hJ 5 (by decide)) (hJ 6 (by decide)), kA1, kU1, kA2, kU2⟩)
            ·
              have hz1 := kU1.1 (2 * i + 1) (by omega)
              refine lv_aload hx hb rd_M_word_74 (lv_at hl 1 rfl) ?_
              refine va_getN (D := (dC, dI)) (ci := 3) (v := .ref (r 22)) (C := rR3) (T := rT3) (N := 2) hx hb hts (fun w h => List.mem_cons_of_mem _ (rin3 w h)) hown hK hP 21 rfl rfl 0 (by decide) (hNX.use rm_267 rfl) (fun _ h9 => h9) rfl rd_M_word_76 ?_
              refine lv_iconst (v := iv (2)) hx hb rd_M_word_79 (by decide) ?_
              refine lv_iload_n hx hb rd_M_word_80 rfl (lv_at hl 5 rfl) ?_
              refine iw_imul hx hb rd_M_word_81 ?_
              refine lv_iconst (v := iv (1)) hx hb rd_M_word_82 (by decide) ?_
              refine iw_iadd hx hb rd_M_word_83 ?_
              refine iw_topi (y := iv (((2 * i + 1 : Nat) : Int))) (congrArg iv (by omega : ((((2) * ((i : Int))) + (1)) : Int) = (((2 * i + 1 : Nat) : Int)))) ?_
              refine iw_iald (i := 2 * i + 1) hx hb hK hP 22 0 rfl ht (by omega) (by decide) rd_M_word_84 ?_
              refine iw_topi (y := iv (((dg U1 (2 * i + 1) : Nat) : Int))) (congrArg iv (by rw [hz1] : ((((J 8)) (2 * i + 1)) : Int) = (((dg U1 (2 * i + 1) : Nat) : Int)))) ?_
              refine lv_goto (tgt := 89) hx hb rd_M_word_85 (by decide) ?_
              refine lv_istore (lv' := [(6, .int (iv (((dg U1 (2 * i + 1) : Nat) : Int)))), (5, .int (iv (((dg U1 (2 * i) : Nat) : Int)))), (4, .ref (r 21)), (0, .ref (r 0)), (1, .int (iv (0))), (2, .int (iv (1))), (3, .int (iv ((i : Int))))]) hx hb rd_M_word_89 hl (by decide) rfl (fun ls hl => ?_)
              refine lv_iload hx hb rd_M_word_91 (lv_at hl 0 rfl) ?_
              refine lv_bipush (v := iv (16)) hx hb rd_M_word_93 (by decide) ?_
              refine iw_topi (y := iv (((16 : Nat) : Int))) (congrArg iv (by rfl : ((16) : Int) = (((16 : Nat) : Int)))) ?_
              refine iw_ishlk (a := dg U1 (2 * i + 1)) (k := 16) hx hb (by decide) (by omega) rd_M_word_95 ?_
              refine iw_topi (y := iv (((dg U1 (2 * i + 1) * 65536 : Nat) : Int))) (congrArg iv (by rfl : ((((dg U1 (2 * i + 1) * 2 ^ 16 : Nat) : Int)) : Int) = (((dg U1 (2 * i + 1) * 65536 : Nat) : Int)))) ?_
              refine lv_iload hx hb rd_M_word_96 (lv_at hl 1 rfl) ?_
              refine iw_ior hx hb hl1 hl0 rd_M_word_98 ?_
              exact ef_iret hx hb hr hlocks hP hD hS rd_M_word_99 (by rw [wz_in (by omega), wd_dg, Nat.add_comm]; exact ⟨fun i => [((V 0)), ((V 1)), ((V 2)), ((V 3)), ((V 4)), ((V 5)), ((V 6))].getD i 0, fun i => [((J 0)), ((J 1)), ((J 2)), ((J 3)), ((J 4)), ((J 5)), ((J 6)), ((J 7)), ((J 8)), ((J 9)), ((J 10))].getD i (fun _ => 0), _, _, _, _, rfl, rfl, rJ_of (hJ 0 (by decide)) (hJ 1 (by decide)) (hJ 2 (by decide)) (hJ 3 (by decide)) (hJ 4 (by decide)) (hJ 5 (by decide)) (hJ 6 (by decide)), kA1, kU1, kA2, kU2⟩)
        ·
          refine lv_iconst (v := iv (0)) hx hb rd_M_word_25 (by decide) ?_
          exact ef_iret hx hb hr hlocks hP hD hS rd_M_word_26 (by rw [wz_far mU1 (by omega)]; exact ⟨fun i => [((V 0)), ((V 1)), ((V 2)), ((V 3)), ((V 4)), ((V 5)), ((V 6))].getD i 0, fun i => [((J 0)), ((J 1)), ((J 2)), ((J 3)), ((J 4)), ((J 5)), ((J 6)), ((J 7)), ((J 8)), ((J 9)), ((J 10))].getD i (fun _ => 0), _, _, _, _, rfl, rfl, rJ_of (hJ 0 (by decide)) (hJ 1 (by decide)) (hJ 2 (by decide)) (hJ 3 (by decide)) (hJ 4 (by decide)) (hJ 5 (by decide)) (hJ 6 (by decide)), kA1, kU1, kA2, kU2⟩)

set_option maxRecDepth 100000 in
set_option maxHeartbeats 4000000 in
/-- word -/
theorem r_word10 (l : Launch) (dC : Nat → ClassId) (dI : Nat → Nat → Nat) {cI : ClassId} {tys : List (ClassId × FieldType)} (ht : tys[0]? = some (cI, .int)) (r : Nat → Nat) {V : Nat → Nat} {J : Nat → Nat → Nat} {A1 U1 A2 U2 : Nat} {pb pe ob oe b1 e1 b2 e2 : Int} (hJ : rJ V J) (kA1 : bk A1 (J 7)) (kU1 : bk U1 (J 8)) (kA2 : bk A2 (J 9)) (kU2 : bk U2 (J 10)) (mA1 : dn A1 ≤ 300) (mU1 : dn U1 ≤ 300) (mA2 : dn A2 ≤ 300) (mU2 : dn U2 ≤ 300) (i : Int) (hi : ir i) : ef_C l ry_M_word rw_M_word ({ frames := 1, cells := 0, slots := 0, locals := 23 } : Room) [.ref (r 0), .int (iv (1)), .int (iv (0)), .int (iv (i))] (dC, dI) vwCl tys (rC cI r ((V 0)) ((V 1)) ((V 2)) ((V 3)) ((V 4)) ((V 5)) ((V 6)) (A1) (U1) (A2) (U2) ((J 0)) ((J 1)) ((J 2)) ((J 3)) ((J 4)) ((J 5)) ((J 6)) ((J 7)) ((J 8)) ((J 9)) ((J 10)) (pb) (pe) (ob) (oe) (b1) (e1) (b2) (e2)) (fun o w1 => ∃ (V2 : Nat → Nat) (J2 : Nat → Nat → Nat) (pb2 pe2 ob2 oe2 : Int), o = some (.int (iv (wz (wd A2) i : Int))) ∧ w1 = rC cI r (V2 0) (V2 1) (V2 2) (V2 3) (V2 4) (V2 5) (V2 6) (A1) (U1) (A2) (U2) (J2 0) (J2 1) (J2 2) (J2 3) (J2 4) (J2 5) (J2 6) (J2 7) (J2 8) (J2 9) (J2 10) (pb2) (pe2) (ob2) (oe2) (b1) (e1) (b2) (e2) ∧ rJ V2 J2 ∧ bk (A1) (J2 7) ∧ bk (U1) (J2 8) ∧ bk (A2) (J2 9) ∧ bk (U2) (J2 10)) := by
  refine ef_C.of (cc := rc_M_word) (maxL := 7) (ret := (some .int)) (by decide) rfl (Nat.le_of_ble_eq_true rfl) ?_
  intro p e s m below meth c ls hx hb hml hr hts hown hlocks hK hNX hP hD hS hl
  have hl : lv_has ls 7 [(0, .ref (r 0)), (1, .int (iv (1))), (2, .int (iv (0))), (3, .int (iv (i)))] := hl
  have hown : s.vm.findClass rR5 = some m.cls := hown
  generalize hH : s.heap = H at hP ⊢
  have hS : va_S (ef_A (rC cI r ((V 0)) ((V 1)) ((V 2)) ((V 3)) ((V 4)) ((V 5)) ((V 6)) (A1) (U1) (A2) (U2) ((J 0)) ((J 1)) ((J 2)) ((J 3)) ((J 4)) ((J 5)) ((J 6)) ((J 7)) ((J 8)) ((J 9)) ((J 10)) (pb) (pe) (ob) (oe) (b1) (e1) (b2) (e2))) s.heap H [] := by rw [← hH]; exact hS
  generalize ([] : List Loc) = locs at hS ⊢
  refine lv_iload_n hx hb rd_M_word_0 rfl (lv_at hl 1 rfl) ?_
  refine ef_callS (As := [.int (iv (1))]) (rest := []) ⟨hx, hb, hml, hown, hts⟩ (r_isNumber1 l dC dI ht r) (cwS 1 hts (ef_goodS rm_336 rm_337 rm_24 rm_338) rfl rfl rfl (by decide +kernel) ⟨Nat.le_of_ble_eq_true rfl, Nat.le_of_ble_eq_true rfl⟩) hK hNX hP hD hS rfl hl.1 rfl (Nat.le_of_ble_eq_true rfl) rd_M_word_1 ⟨Nat.zero_le _, Nat.zero_le _⟩ (fun o w1 H locs hq hP hD hS => ?_)
  obtain ⟨rfl, e9⟩ := hq
  rw [e9] at hP hD
  refine W.eq (g2 := F0 m 4 ls [.int (iv (1))]) rfl ?_
  refine iw_if_eq (tgt := 25) hx hb rd_M_word_4 (by decide) ⟨by omega, by omega⟩ (fun k1 => ?_) (fun k1 => ?_)
  ·
    exact absurd k1 (by decide)
  ·
    refine lv_iload_n hx hb rd_M_word_7 rfl (lv_at hl 2 rfl) ?_
    refine ef_callS (As := [.int (iv (0))]) (rest := []) ⟨hx, hb, hml, hown, hts⟩ (r_isNumber0 l dC dI ht r) (cwS 1 hts (ef_goodS rm_336 rm_337 rm_24 rm_338) rfl rfl rfl (by decide +kernel) ⟨Nat.le_of_ble_eq_true rfl, Nat.le_of_ble_eq_true rfl⟩) hK hNX hP hD hS rfl hl.1 rfl (Nat.le_of_ble_eq_true rfl) rd_M_word_8 ⟨Nat.zero_le _, Nat.zero_le _⟩ (fun o w1 H locs hq hP hD hS => ?_)
    obtain ⟨rfl, e9⟩ := hq
    rw [e9] at hP hD
    refine W.eq (g2 := F0 m 11 ls [.int (iv (1))]) rfl ?_
    refine iw_if_eq (tgt := 25) hx hb rd_M_word_11 (by decide) ⟨by omega, by omega⟩ (fun k2 => ?_) (fun k2 => ?_)
    ·
      exact absurd k2 (by decide)
    ·
      refine lv_iload_n hx hb rd_M_word_14 rfl (lv_at hl 3 rfl) ?_
      refine iw_if_lt (tgt := 25) hx hb rd_M_word_15 (by decide) (hi) (fun c1 => ?_) (fun c1 => ?_)
      ·
        refine lv_iconst (v := iv (0)) hx hb rd_M_word_25 (by decide) ?_
        exact ef_iret hx hb hr hlocks hP hD hS rd_M_word_26 (by rw [wz_far mA2 (by omega)]; exact ⟨fun i => [((V 0)), ((V 1)), ((V 2)), ((V 3)), ((V 4)), ((V 5)), ((V 6))].getD i 0, fun i => [((J 0)), ((J 1)), ((J 2)), ((J 3)), ((J 4)), ((J 5)), ((J 6)), ((J 7)), ((J 8)), ((J 9)), ((J 10))].getD i (fun _ => 0), _, _, _, _, rfl, rfl, rJ_of (hJ 0 (by decide)) (hJ 1 (by decide)) (hJ 2 (by decide)) (hJ 3 (by decide)) (hJ 4 (by decide)) (hJ 5 (by decide)) (hJ 6 (by decide)), kA1, kU1, kA2, kU2⟩)
      ·
        refine lv_iload_n hx hb rd_M_word_18 rfl (lv_at hl 3 rfl) ?_
        refine lv_sipush (v := iv (300)) hx hb rd_M_word_19 (by decide) ?_
        refine iw_icmp_lt (tgt := 27) hx hb rd_M_word_22 (by decide) (hi) ⟨by omega, by omega⟩ (fun c2 => ?_) (fun c2 => ?_)
        ·
          obtain ⟨i, rfl⟩ : ∃ k : Nat, i = k := ⟨i.toNat, by omega⟩
          have hl0 := dg_lt A2 (2 * i)
          have hl1 := dg_lt A2 (2 * i + 1)
          refine lv_aload_n hx hb rd_M_word_27 rfl (lv_at hl 0 rfl) ?_
          refine lv_iload_n hx hb rd_M_word_28 rfl (lv_at hl 1 rfl) ?_
          refine lv_iload_n hx hb rd_M_word_29 rfl (lv_at hl 2 rfl) ?_
          refine ef_callV (As := [.int (iv (1)), .int (iv (0))]) (rest := []) ⟨hx, hb, hml, hown, hts⟩ (r_partOf10 l dC dI ht r) (cwV 2 hts (ef_goodV rm_348 rm_350 rm_13 rm_24 rm_351) rfl rfl rfl (by decide +kernel) ⟨Nat.le_of_ble_eq_true rfl, Nat.le_of_ble_eq_true rfl⟩) hK hNX hP hD hS 0 rfl rfl rfl rfl hl.1 rfl (Nat.le_of_ble_eq_true rfl) rd_M_word_30 ⟨Nat.zero_le _, Nat.zero_le _⟩ (fun o w1 H locs hq hP hD hS => ?_)
          obtain ⟨rfl, e9⟩ := hq
          rw [e9] at hP hD
          refine W.eq (g2 := F0 m 33 ls [.ref (r 23)]) rfl ?_
          refine lv_astore (lv' := [(4, .ref (r 23)), (0, .ref (r 0)), (1, .int (iv (1))), (2, .int (iv (0))), (3, .int (iv ((i : Int))))]) hx hb rd_M_word_33 hl (by decide) rfl (fun ls hl => ?_)
          refine lv_iconst (v := iv (2)) hx hb rd_M_word_35 (by decide) ?_
          refine lv_iload_n hx hb rd_M_word_36 rfl (lv_at hl 4 rfl) ?_
          refine iw_imul hx hb rd_M_word_37 ?_
          refine iw_topi (y := iv (((2 * i : Nat) : Int))) (congrArg iv (by omega : (((2) * ((i : Int))) : Int) = (((2 * i : Nat) : Int)))) ?_
          refine lv_aload hx hb rd_M_word_38 (lv_at hl 0 rfl) ?_
          refine va_getN (D := (dC, dI)) (ci := 3) (v := .int (iv ((dn (A2) : Int)))) (C := rR3) (T := rT3) (N := 2) hx hb hts (fun w h => List.mem_cons_of_mem _ (rin3 w h)) hown hK hP 23 rfl rfl 1 (by decide) (hNX.use rm_270 rfl) (fun _ h9 => h9) rfl rd_M_word_40 ?_
          refine iw_icmp_ge (tgt := 58) hx hb rd_M_word_43 (by decide) ⟨by omega, by omega⟩ ⟨by omega, by omega⟩ (fun d0 => ?_) (fun d0 => ?_)
          ·
            have hz0 : dg A2 (2 * i) = 0 := dg_above (by omega)
            refine lv_iconst (v := iv (0)) hx hb rd_M_word_58 (by decide) ?_
            refine iw_topi (y := iv (((dg A2 (2 * i) : Nat) : Int))) (congrArg iv (by rw [hz0]; rfl : ((0) : Int) = (((dg A2 (2 * i) : Nat) : Int)))) ?_
            refine lv_istore (lv' := [(5, .int (iv (((dg A2 (2 * i) : Nat) : Int)))), (4, .ref (r 23)), (0, .ref (r 0)), (1, .int (iv (1))), (2, .int (iv (0))), (3, .int (iv ((i : Int))))]) hx hb rd_M_word_59 hl (by decide) rfl (fun ls hl => ?_)
            refine lv_iconst (v := iv (2)) hx hb rd_M_word_61 (by decide) ?_
            refine lv_iload_n hx hb rd_M_word_62 rfl (lv_at hl 5 rfl) ?_
            refine iw_imul hx hb rd_M_word_63 ?_
            refine lv_iconst (v := iv (1)) hx hb rd_M_word_64 (by decide) ?_
            refine iw_iadd hx hb rd_M_word_65 ?_
            refine iw_topi (y := iv (((2 * i + 1 : Nat) : Int))) (congrArg iv (by omega : ((((2) * ((i : Int))) + (1)) : Int) = (((2 * i + 1 : Nat) : Int)))) ?_
            refine lv_aload hx hb rd_M_word_66 (lv_at hl 1 rfl) ?_
            refine va_getN (D := (dC, dI)) (ci := 3) (v := .int (iv ((dn (A2) : Int)))) (C := rR3) (T := rT3) (N := 2) hx hb hts (fun w h => List.mem_cons_of_mem _ (rin3 w h)) hown hK hP 23 rfl rfl 1 (by decide) (hNX.use rm_270 rfl) (fun _ h9 => h9) rfl rd_M_word_68 ?_
            refine iw_icmp_ge (tgt := 88) hx hb rd_M_word_71 (by decide) ⟨by omega, by omega⟩ ⟨by omega, by omega⟩ (fun d1 => ?_) (fun d1 => ?_)
            ·
              have hz1 : dg A2 (2 * i + 1) = 0 := dg_above (by omega)
              refine lv_iconst (v := iv (0)) hx hb rd_M_word_88 (by decide) ?_
              refine iw_topi (y := iv (((dg A2 (2 * i + 1) : Nat) : Int))) (congrArg iv (by rw [hz1]; rfl : ((0) : Int) = (((dg A2 (2 * i + 1) : Nat) : Int)))) ?_
              refine lv_istore (lv' := [(6, .int (iv (((dg A2 (2 * i + 1) : Nat) : Int)))), (5, .int (iv (((dg A2 (2 * i) : Nat) : Int)))), (4, .ref (r 23)), (0, .ref (r 0)), (1, .int (iv (1))), (2, .int (iv (0))), (3, .int (iv ((i : Int))))]) hx hb rd_M_word_89 hl (by decide) rfl (fun ls hl => ?_)
              refine lv_iload hx hb rd_M_word_91 (lv_at hl 0 rfl) ?_
              refine lv_bipush (v := iv (16)) hx hb rd_M_word_93 (by decide) ?_
              refine iw_topi (y := iv (((16 : Nat) : Int))) (congrArg iv (by rfl : ((16) : Int) = (((16 : Nat) : Int)))) ?_
              refine iw_ishlk (a := dg A2 (2 * i + 1)) (k := 16) hx hb (by decide) (by omega) rd_M_word_95 ?_
              refine iw_topi (y := iv (((dg A2 (2 * i + 1) * 65536 : Nat) : Int))) (congrArg iv (by rfl : ((((dg A2 (2 * i + 1) * 2 ^ 16 : Nat) : Int)) : Int) = (((dg A2 (2 * i + 1) * 65536 : Nat) : Int)))) ?_
              refine lv_iload hx hb rd_M_word_96 (lv_at hl 1 rfl) ?_
              refine iw_ior hx hb hl1 hl0 rd_M_word_98 ?_
              exact ef_iret hx hb hr hlocks hP hD hS rd_M_word_99 (by rw [wz_in (by omega), wd_dg, Nat.add_comm]; exact ⟨fun i => [((V 0)), ((V 1)), ((V 2)), ((V 3)), ((V 4)), ((V 5)), ((V 6))].getD i 0, fun i => [((J 0)), ((J 1)), ((J 2)), ((J 3)), ((J 4)), ((J 5)), ((J 6)), ((J 7)), ((J 8)), ((J 9)), ((J 10))].getD i (fun _ => 0), _, _, _, _, rfl, rfl, rJ_of (hJ 0 (by decide)) (hJ 1 (by decide)) (hJ 2 (by decide)) (hJ 3 (by decide)) (hJ 4 (by decide)) (hJ 5 (by decide)) (hJ 6 (by decide)), kA1, kU1, kA2, kU2⟩)
            ·
              have hz1 := kA2.1 (2 * i + 1) (by omega)
              refine lv_aload hx hb rd_M_word_74 (lv_at hl 1 rfl) ?_
              refine va_getN (D := (dC, dI)) (ci := 3) (v := .ref (r 24)) (C := rR3) (T := rT3) (N := 2) hx hb hts (fun w h => List.mem_cons_of_mem _ (rin3 w h)) hown hK hP 23 rfl rfl 0 (by decide) (hNX.use rm_267 rfl) (fun _ h9 => h9) rfl rd_M_word_76 ?_
              refine lv_iconst (v := iv (2)) hx hb rd_M_word_79 (by decide) ?_
              refine lv_iload_n hx hb rd_M_word_80 rfl (lv_at hl 5 rfl) ?_
              refine iw_imul hx hb rd_M_word_81 ?_
              refine lv_iconst (v := iv (1)) hx hb rd_M_word_82 (by decide) ?_
              refine iw_iadd hx hb rd_M_word_83 ?_
              refine iw_topi (y := iv (((2 * i + 1 : Nat) : Int))) (congrArg iv (by omega : ((((2) * ((i : Int))) + (1)) : Int) = (((2 * i + 1 : Nat) : Int)))) ?_
              refine iw_iald (i := 2 * i + 1) hx hb hK hP 24 0 rfl ht (by omega) (by decide) rd_M_word_84 ?_
              refine iw_topi (y := iv (((dg A2 (2 * i + 1) : Nat) : Int))) (congrArg iv (by rw [hz1] : ((((J 9)) (2 * i + 1)) : Int) = (((dg A2 (2 * i + 1) : Nat) : Int)))) ?_
              refine lv_goto (tgt := 89) hx hb rd_M_word_85 (by decide) ?_
              refine lv_istore (lv' := [(6, .int (iv (((dg A2 (2 * i + 1) : Nat) : Int)))), (5, .int (iv (((dg A2 (2 * i) : Nat) : Int)))), (4, .ref (r 23)), (0, .ref (r 0)), (1, .int (iv (1))), (2, .int (iv (0))), (3, .int (iv ((i : Int))))]) hx hb rd_M_word_89 hl (by decide) rfl (fun ls hl => ?_)
              refine lv_iload hx hb rd_M_word_91 (lv_at hl 0 rfl) ?_
              refine lv_bipush (v := iv (16)) hx hb rd_M_word_93 (by decide) ?_
              refine iw_topi (y := iv (((16 : Nat) : Int))) (congrArg iv (by rfl : ((16) : Int) = (((16 : Nat) : Int)))) ?_
              refine iw_ishlk (a := dg A2 (2 * i + 1)) (k := 16) hx hb (by decide) (by omega) rd_M_word_95 ?_
              refine iw_topi (y := iv (((dg A2 (2 * i + 1) * 65536 : Nat) : Int))) (congrArg iv (by rfl : ((((dg A2 (2 * i + 1) * 2 ^ 16 : Nat) : Int)) : Int) = (((dg A2 (2 * i + 1) * 65536 : Nat) : Int)))) ?_
              refine lv_iload hx hb rd_M_word_96 (lv_at hl 1 rfl) ?_
              refine iw_ior hx hb hl1 hl0 rd_M_word_98 ?_
              exact ef_iret hx hb hr hlocks hP hD hS rd_M_word_99 (by rw [wz_in (by omega), wd_dg, Nat.add_comm]; exact ⟨fun i => [((V 0)), ((V 1)), ((V 2)), ((V 3)), ((V 4)), ((V 5)), ((V 6))].getD i 0, fun i => [((J 0)), ((J 1)), ((J 2)), ((J 3)), ((J 4)), ((J 5)), ((J 6)), ((J 7)), ((J 8)), ((J 9)), ((J 10))].getD i (fun _ => 0), _, _, _, _, rfl, rfl, rJ_of (hJ 0 (by decide)) (hJ 1 (by decide)) (hJ 2 (by decide)) (hJ 3 (by decide)) (hJ 4 (by decide)) (hJ 5 (by decide)) (hJ 6 (by decide)), kA1, kU1, kA2, kU2⟩)
          ·
            have hz0 := kA2.1 (2 * i) (by omega)
            refine lv_aload hx hb rd_M_word_46 (lv_at hl 0 rfl) ?_
            refine va_getN (D := (dC, dI)) (ci := 3) (v := .ref (r 24)) (C := rR3) (T := rT3) (N := 2) hx hb hts (fun w h => List.mem_cons_of_mem _ (rin3 w h)) hown hK hP 23 rfl rfl 0 (by decide) (hNX.use rm_267 rfl) (fun _ h9 => h9) rfl rd_M_word_48 ?_
            refine lv_iconst (v := iv (2)) hx hb rd_M_word_51 (by decide) ?_
            refine lv_iload_n hx hb rd_M_word_52 rfl (lv_at hl 4 rfl) ?_
            refine iw_imul hx hb rd_M_word_53 ?_
            refine iw_topi (y := iv (((2 * i : Nat) : Int))) (congrArg iv (by omega : (((2) * ((i : Int))) : Int) = (((2 * i : Nat) : Int)))) ?_
            refine iw_iald (i := 2 * i) hx hb hK hP 24 0 rfl ht (by omega) (by decide) rd_M_word_54 ?_
            refine iw_topi (y := iv (((dg A2 (2 * i) : Nat) : Int))) (congrArg iv (by rw [hz0] : ((((J 9)) (2 * i)) : Int) = (((dg A2 (2 * i) : Nat) : Int)))) ?_
            refine lv_goto (tgt := 59) hx hb rd_M_word_55 (by decide) ?_
            refine lv_istore (lv' := [(5, .int (iv (((dg A2 (2 * i) : Nat) : Int)))), (4, .ref (r 23)), (0, .ref (r 0)), (1, .int (iv (1))), (2, .int (iv (0))), (3, .int (iv ((i : Int))))]) hx hb rd_M_word_59 hl (by decide) rfl (fun ls hl => ?_)
            refine lv_iconst (v := iv (2)) hx hb rd_M_word_61 (by decide) ?_
            refine lv_iload_n hx hb rd_M_word_62 rfl (lv_at hl 5 rfl) ?_
            refine iw_imul hx hb rd_M_word_63 ?_
            refine lv_iconst (v := iv (1)) hx hb rd_M_word_64 (by decide) ?_
            refine iw_iadd hx hb rd_M_word_65 ?_
            refine iw_topi (y := iv (((2 * i + 1 : Nat) : Int))) (congrArg iv (by omega : ((((2) * ((i : Int))) + (1)) : Int) = (((2 * i + 1 : Nat) : Int)))) ?_
            refine lv_aload hx hb rd_M_word_66 (lv_at hl 1 rfl) ?_
            refine va_getN (D := (dC, dI)) (ci := 3) (v := .int (iv ((dn (A2) : Int)))) (C := rR3) (T := rT3) (N := 2) hx hb hts (fun w h => List.mem_cons_of_mem _ (rin3 w h)) hown hK hP 23 rfl rfl 1 (by decide) (hNX.use rm_270 rfl) (fun _ h9 => h9) rfl rd_M_word_68 ?_
            refine iw_icmp_ge (tgt := 88) hx hb rd_M_word_71 (by decide) ⟨by omega, by omega⟩ ⟨by omega, by omega⟩ (fun d1 => ?_) (fun d1 => ?_)
            ·
              have hz1 : dg A2 (2 * i + 1) = 0 := dg_above (by omega)
              refine lv_iconst (v := iv (0)) hx hb rd_M_word_88 (by decide) ?_
              refine iw_topi (y := iv (((dg A2 (2 * i + 1) : Nat) : Int))) (congrArg iv (by rw [hz1]; rfl : ((0) : Int) = (((dg A2 (2 * i + 1) : Nat) : Int)))) ?_
              refine lv_istore (lv' := [(6, .int (iv (((dg A2 (2 * i + 1) : Nat) : Int)))), (5, .int (iv (((dg A2 (2 * i) : Nat) : Int)))), (4, .ref (r 23)), (0, .ref (r 0)), (1, .int (iv (1))), (2, .int (iv (0))), (3, .int (iv ((i : Int))))]) hx hb rd_M_word_89 hl (by decide) rfl (fun ls hl => ?_)
              refine lv_iload hx hb rd_M_word_91 (lv_at hl 0 rfl) ?_
              refine lv_bipush (v := iv (16)) hx hb rd_M_word_93 (by decide) ?_
              refine iw_topi (y := iv (((16 : Nat) : Int))) (congrArg iv (by rfl : ((16) : Int) = (((16 : Nat) : Int)))) ?_
              refine iw_ishlk (a := dg A2 (2 * i + 1)) (k := 16) hx hb (by decide) (by omega) rd_M_word_95 ?_
              refine iw_topi (y := iv (((dg A2 (2 * i + 1) * 65536 : Nat) : Int))) (congrArg iv (by rfl : ((((dg A2 (2 * i + 1) * 2 ^ 16 : Nat) : Int)) : Int) = (((dg A2 (2 * i + 1) * 65536 : Nat) : Int)))) ?_
              refine lv_iload hx hb rd_M_word_96 (lv_at hl 1 rfl) ?_
              refine iw_ior hx hb hl1 hl0 rd_M_word_98 ?_
              exact ef_iret hx hb hr hlocks hP hD hS rd_M_word_99 (by rw [wz_in (by omega), wd_dg, Nat.add_comm]; exact ⟨fun i => [((V 0)), ((V 1)), ((V 2)), ((V 3)), ((V 4)), ((V 5)), ((V 6))].getD i 0, fun i => [((J 0)), ((J 1)), ((J 2)), ((J 3)), ((J 4)), ((J 5)), ((J 6)), ((J 7)), ((J 8)), ((J 9)), ((J 10))].getD i (fun _ => 0), _, _, _, _, rfl, rfl, rJ_of (hJ 0 (by decide)) (hJ 1 (by decide)) (hJ 2 (by decide)) (hJ 3 (by decide)) (hJ 4 (by decide)) (hJ 5 (by decide)) (hJ 6 (by decide)), kA1, kU1, kA2, kU2⟩)
            ·
              have hz1 := kA2.1 (2 * i + 1) (by omega)
              refine lv_aload hx hb rd_M_word_74 (lv_at hl 1 rfl) ?_
              refine va_getN (D := (dC, dI)) (ci := 3) (v := .ref (r 24)) (C := rR3) (T := rT3) (N := 2) hx hb hts (fun w h => List.mem_cons_of_mem _ (rin3 w h)) hown hK hP 23 rfl rfl 0 (by decide) (hNX.use rm_267 rfl) (fun _ h9 => h9) rfl rd_M_word_76 ?_
              refine lv_iconst (v := iv (2)) hx hb rd_M_word_79 (by decide) ?_
              refine lv_iload_n hx hb rd_M_word_80 rfl (lv_at hl 5 rfl) ?_
              refine iw_imul hx hb rd_M_word_81 ?_
              refine lv_iconst (v := iv (1)) hx hb rd_M_word_82 (by decide) ?_
              refine iw_iadd hx hb rd_M_word_83 ?_
              refine iw_topi (y := iv (((2 * i + 1 : Nat) : Int))) (congrArg iv (by omega : ((((2) * ((i : Int))) + (1)) : Int) = (((2 * i + 1 : Nat) : Int)))) ?_
              refine iw_iald (i := 2 * i + 1) hx hb hK hP 24 0 rfl ht (by omega) (by decide) rd_M_word_84 ?_
              refine iw_topi (y := iv (((dg A2 (2 * i + 1) : Nat) : Int))) (congrArg iv (by rw [hz1] : ((((J 9)) (2 * i + 1)) : Int) = (((dg A2 (2 * i + 1) : Nat) : Int)))) ?_
              refine lv_goto (tgt := 89) hx hb rd_M_word_85 (by decide) ?_
              refine lv_istore (lv' := [(6, .int (iv (((dg A2 (2 * i + 1) : Nat) : Int)))), (5, .int (iv (((dg A2 (2 * i) : Nat) : Int)))), (4, .ref (r 23)), (0, .ref (r 0)), (1, .int (iv (1))), (2, .int (iv (0))), (3, .int (iv ((i : Int))))]) hx hb rd_M_word_89 hl (by decide) rfl (fun ls hl => ?_)
              refine lv_iload hx hb rd_M_word_91 (lv_at hl 0 rfl) ?_
              refine lv_bipush (v := iv (16)) hx hb rd_M_word_93 (by decide) ?_
              refine iw_topi (y := iv (((16 : Nat) : Int))) (congrArg iv (by rfl : ((16) : Int) = (((16 : Nat) : Int)))) ?_
              refine iw_ishlk (a := dg A2 (2 * i + 1)) (k := 16) hx hb (by decide) (by omega) rd_M_word_95 ?_
              refine iw_topi (y := iv (((dg A2 (2 * i + 1) * 65536 : Nat) : Int))) (congrArg iv (by rfl : ((((dg A2 (2 * i + 1) * 2 ^ 16 : Nat) : Int)) : Int) = (((dg A2 (2 * i + 1) * 65536 : Nat) : Int)))) ?_
              refine lv_iload hx hb rd_M_word_96 (lv_at hl 1 rfl) ?_
              refine iw_ior hx hb hl1 hl0 rd_M_word_98 ?_
              exact ef_iret hx hb hr hlocks hP hD hS rd_M_word_99 (by rw [wz_in (by omega), wd_dg, Nat.add_comm]; exact ⟨fun i => [((V 0)), ((V 1)), ((V 2)), ((V 3)), ((V 4)), ((V 5)), ((V 6))].getD i 0, fun i => [((J 0)), ((J 1)), ((J 2)), ((J 3)), ((J 4)), ((J 5)), ((J 6)), ((J 7)), ((J 8)), ((J 9)), ((J 10))].getD i (fun _ => 0), _, _, _, _, rfl, rfl, rJ_of (hJ 0 (by decide)) (hJ 1 (by decide)) (hJ 2 (by decide)) (hJ 3 (by decide)) (hJ 4 (by decide)) (hJ 5 (by decide)) (hJ 6 (by decide)), kA1, kU1, kA2, kU2⟩)
        ·
          refine lv_iconst (v := iv (0)) hx hb rd_M_word_25 (by decide) ?_
          exact ef_iret hx hb hr hlocks hP hD hS rd_M_word_26 (by rw [wz_far mA2 (by omega)]; exact ⟨fun i => [((V 0)), ((V 1)), ((V 2)), ((V 3)), ((V 4)), ((V 5)), ((V 6))].getD i 0, fun i => [((J 0)), ((J 1)), ((J 2)), ((J 3)), ((J 4)), ((J 5)), ((J 6)), ((J 7)), ((J 8)), ((J 9)), ((J 10))].getD i (fun _ => 0), _, _, _, _, rfl, rfl, rJ_of (hJ 0 (by decide)) (hJ 1 (by decide)) (hJ 2 (by decide)) (hJ 3 (by decide)) (hJ 4 (by decide)) (hJ 5 (by decide)) (hJ 6 (by decide)), kA1, kU1, kA2, kU2⟩)

set_option maxRecDepth 100000 in
set_option maxHeartbeats 4000000 in
/-- word -/
theorem r_word11 (l : Launch) (dC : Nat → ClassId) (dI : Nat → Nat → Nat) {cI : ClassId} {tys : List (ClassId × FieldType)} (ht : tys[0]? = some (cI, .int)) (r : Nat → Nat) {V : Nat → Nat} {J : Nat → Nat → Nat} {A1 U1 A2 U2 : Nat} {pb pe ob oe b1 e1 b2 e2 : Int} (hJ : rJ V J) (kA1 : bk A1 (J 7)) (kU1 : bk U1 (J 8)) (kA2 : bk A2 (J 9)) (kU2 : bk U2 (J 10)) (mA1 : dn A1 ≤ 300) (mU1 : dn U1 ≤ 300) (mA2 : dn A2 ≤ 300) (mU2 : dn U2 ≤ 300) (i : Int) (hi : ir i) : ef_C l ry_M_word rw_M_word ({ frames := 1, cells := 0, slots := 0, locals := 23 } : Room) [.ref (r 0), .int (iv (1)), .int (iv (1)), .int (iv (i))] (dC, dI) vwCl tys (rC cI r ((V 0)) ((V 1)) ((V 2)) ((V 3)) ((V 4)) ((V 5)) ((V 6)) (A1) (U1) (A2) (U2) ((J 0)) ((J 1)) ((J 2)) ((J 3)) ((J 4)) ((J 5)) ((J 6)) ((J 7)) ((J 8)) ((J 9)) ((J 10)) (pb) (pe) (ob) (oe) (b1) (e1) (b2) (e2)) (fun o w1 => ∃ (V2 : Nat → Nat) (J2 : Nat → Nat → Nat) (pb2 pe2 ob2 oe2 : Int), o = some (.int (iv (wz (wd U2) i : Int))) ∧ w1 = rC cI r (V2 0) (V2 1) (V2 2) (V2 3) (V2 4) (V2 5) (V2 6) (A1) (U1) (A2) (U2) (J2 0) (J2 1) (J2 2) (J2 3) (J2 4) (J2 5) (J2 6) (J2 7) (J2 8) (J2 9) (J2 10) (pb2) (pe2) (ob2) (oe2) (b1) (e1) (b2) (e2) ∧ rJ V2 J2 ∧ bk (A1) (J2 7) ∧ bk (U1) (J2 8) ∧ bk (A2) (J2 9) ∧ bk (U2) (J2 10)) := by
  refine ef_C.of (cc := rc_M_word) (maxL := 7) (ret := (some .int)) (by decide) rfl (Nat.le_of_ble_eq_true rfl) ?_
  intro p e s m below meth c ls hx hb hml hr hts hown hlocks hK hNX hP hD hS hl
  have hl : lv_has ls 7 [(0, .ref (r 0)), (1, .int (iv (1))), (2, .int (iv (1))), (3, .int (iv (i)))] := hl
  have hown : s.vm.findClass rR5 = some m.cls := hown
  generalize hH : s.heap = H at hP ⊢
  have hS : va_S (ef_A (rC cI r ((V 0)) ((V 1)) ((V 2)) ((V 3)) ((V 4)) ((V 5)) ((V 6)) (A1) (U1) (A2) (U2) ((J 0)) ((J 1)) ((J 2)) ((J 3)) ((J 4)) ((J 5)) ((J 6)) ((J 7)) ((J 8)) ((J 9)) ((J 10)) (pb) (pe) (ob) (oe) (b1) (e1) (b2) (e2))) s.heap H [] := by rw [← hH]; exact hS
  generalize ([] : List Loc) = locs at hS ⊢
  refine lv_iload_n hx hb rd_M_word_0 rfl (lv_at hl 1 rfl) ?_
  refine ef_callS (As := [.int (iv (1))]) (rest := []) ⟨hx, hb, hml, hown, hts⟩ (r_isNumber1 l dC dI ht r) (cwS 1 hts (ef_goodS rm_336 rm_337 rm_24 rm_338) rfl rfl rfl (by decide +kernel) ⟨Nat.le_of_ble_eq_true rfl, Nat.le_of_ble_eq_true rfl⟩) hK hNX hP hD hS rfl hl.1 rfl (Nat.le_of_ble_eq_true rfl) rd_M_word_1 ⟨Nat.zero_le _, Nat.zero_le _⟩ (fun o w1 H locs hq hP hD hS => ?_)
  obtain ⟨rfl, e9⟩ := hq
  rw [e9] at hP hD
  refine W.eq (g2 := F0 m 4 ls [.int (iv (1))]) rfl ?_
  refine iw_if_eq (tgt := 25) hx hb rd_M_word_4 (by decide) ⟨by omega, by omega⟩ (fun k1 => ?_) (fun k1 => ?_)
  ·
    exact absurd k1 (by decide)
  ·
    refine lv_iload_n hx hb rd_M_word_7 rfl (lv_at hl 2 rfl) ?_
    refine ef_callS (As := [.int (iv (1))]) (rest := []) ⟨hx, hb, hml, hown, hts⟩ (r_isNumber1 l dC dI ht r) (cwS 1 hts (ef_goodS rm_336 rm_337 rm_24 rm_338) rfl rfl rfl (by decide +kernel) ⟨Nat.le_of_ble_eq_true rfl, Nat.le_of_ble_eq_true rfl⟩) hK hNX hP hD hS rfl hl.1 rfl (Nat.le_of_ble_eq_true rfl) rd_M_word_8 ⟨Nat.zero_le _, Nat.zero_le _⟩ (fun o w1 H locs hq hP hD hS => ?_)
    obtain ⟨rfl, e9⟩ := hq
    rw [e9] at hP hD
    refine W.eq (g2 := F0 m 11 ls [.int (iv (1))]) rfl ?_
    refine iw_if_eq (tgt := 25) hx hb rd_M_word_11 (by decide) ⟨by omega, by omega⟩ (fun k2 => ?_) (fun k2 => ?_)
    ·
      exact absurd k2 (by decide)
    ·
      refine lv_iload_n hx hb rd_M_word_14 rfl (lv_at hl 3 rfl) ?_
      refine iw_if_lt (tgt := 25) hx hb rd_M_word_15 (by decide) (hi) (fun c1 => ?_) (fun c1 => ?_)
      ·
        refine lv_iconst (v := iv (0)) hx hb rd_M_word_25 (by decide) ?_
        exact ef_iret hx hb hr hlocks hP hD hS rd_M_word_26 (by rw [wz_far mU2 (by omega)]; exact ⟨fun i => [((V 0)), ((V 1)), ((V 2)), ((V 3)), ((V 4)), ((V 5)), ((V 6))].getD i 0, fun i => [((J 0)), ((J 1)), ((J 2)), ((J 3)), ((J 4)), ((J 5)), ((J 6)), ((J 7)), ((J 8)), ((J 9)), ((J 10))].getD i (fun _ => 0), _, _, _, _, rfl, rfl, rJ_of (hJ 0 (by decide)) (hJ 1 (by decide)) (hJ 2 (by decide)) (hJ 3 (by decide)) (hJ 4 (by decide)) (hJ 5 (by decide)) (hJ 6 (by decide)), kA1, kU1, kA2, kU2⟩)
      ·
        refine lv_iload_n hx hb rd_M_word_18 rfl (lv_at hl 3 rfl) ?_
        refine lv_sipush (v := iv (300)) hx hb rd_M_word_19 (by decide) ?_
        refine iw_icmp_lt (tgt := 27) hx hb rd_M_word_22 (by decide) (hi) ⟨by omega, by omega⟩ (fun c2 => ?_) (fun c2 => ?_)
        ·
          obtain ⟨i, rfl⟩ : ∃ k : Nat, i = k := ⟨i.toNat, by omega⟩
          have hl0 := dg_lt U2 (2 * i)
          have hl1 := dg_lt U2 (2 * i + 1)
          refine lv_aload_n hx hb rd_M_word_27 rfl (lv_at hl 0 rfl) ?_
          refine lv_iload_n hx hb rd_M_word_28 rfl (lv_at hl 1 rfl) ?_
          refine lv_iload_n hx hb rd_M_word_29 rfl (lv_at hl 2 rfl) ?_
          refine ef_callV (As := [.int (iv (1)), .int (iv (1))]) (rest := []) ⟨hx, hb, hml, hown, hts⟩ (r_partOf11 l dC dI ht r) (cwV 2 hts (ef_goodV rm_348 rm_350 rm_13 rm_24 rm_351) rfl rfl rfl (by decide +kernel) ⟨Nat.le_of_ble_eq_true rfl, Nat.le_of_ble_eq_true rfl⟩) hK hNX hP hD hS 0 rfl rfl rfl rfl hl.1 rfl (Nat.le_of_ble_eq_true rfl) rd_M_word_30 ⟨Nat.zero_le _, Nat.zero_le _⟩ (fun o w1 H locs hq hP hD hS => ?_)
          obtain ⟨rfl, e9⟩ := hq
          rw [e9] at hP hD
          refine W.eq (g2 := F0 m 33 ls [.ref (r 25)]) rfl ?_
          refine lv_astore (lv' := [(4, .ref (r 25)), (0, .ref (r 0)), (1, .int (iv (1))), (2, .int (iv (1))), (3, .int (iv ((i : Int))))]) hx hb rd_M_word_33 hl (by decide) rfl (fun ls hl => ?_)
          refine lv_iconst (v := iv (2)) hx hb rd_M_word_35 (by decide) ?_
          refine lv_iload_n hx hb rd_M_word_36 rfl (lv_at hl 4 rfl) ?_
          refine iw_imul hx hb rd_M_word_37 ?_
          refine iw_topi (y := iv (((2 * i : Nat) : Int))) (congrArg iv (by omega : (((2) * ((i : Int))) : Int) = (((2 * i : Nat) : Int)))) ?_
          refine lv_aload hx hb rd_M_word_38 (lv_at hl 0 rfl) ?_
          refine va_getN (D := (dC, dI)) (ci := 3) (v := .int (iv ((dn (U2) : Int)))) (C := rR3) (T := rT3) (N := 2) hx hb hts (fun w h => List.mem_cons_of_mem _ (rin3 w h)) hown hK hP 25 rfl rfl 1 (by decide) (hNX.use rm_270 rfl) (fun _ h9 => h9) rfl rd_M_word_40 ?_
          refine iw_icmp_ge (tgt := 58) hx hb rd_M_word_43 (by decide) ⟨by omega, by omega⟩ ⟨by omega, by omega⟩ (fun d0 => ?_) (fun d0 => ?_)
          ·
            have hz0 : dg U2 (2 * i) = 0 := dg_above (by omega)
            refine lv_iconst (v := iv (0)) hx hb rd_M_word_58 (by decide) ?_
            refine iw_topi (y := iv (((dg U2 (2 * i) : Nat) : Int))) (congrArg iv (by rw [hz0]; rfl : ((0) : Int) = (((dg U2 (2 * i) : Nat) : Int)))) ?_
            refine lv_istore (lv' := [(5, .int (iv (((dg U2 (2 * i) : Nat) : Int)))), (4, .ref (r 25)), (0, .ref (r 0)), (1, .int (iv (1))), (2, .int (iv (1))), (3, .int (iv ((i : Int))))]) hx hb rd_M_word_59 hl (by decide) rfl (fun ls hl => ?_)
            refine lv_iconst (v := iv (2)) hx hb rd_M_word_61 (by decide) ?_
            refine lv_iload_n hx hb rd_M_word_62 rfl (lv_at hl 5 rfl) ?_
            refine iw_imul hx hb rd_M_word_63 ?_
            refine lv_iconst (v := iv (1)) hx hb rd_M_word_64 (by decide) ?_
            refine iw_iadd hx hb rd_M_word_65 ?_
            refine iw_topi (y := iv (((2 * i + 1 : Nat) : Int))) (congrArg iv (by omega : ((((2) * ((i : Int))) + (1)) : Int) = (((2 * i + 1 : Nat) : Int)))) ?_
            refine lv_aload hx hb rd_M_word_66 (lv_at hl 1 rfl) ?_
            refine va_getN (D := (dC, dI)) (ci := 3) (v := .int (iv ((dn (U2) : Int)))) (C := rR3) (T := rT3) (N := 2) hx hb hts (fun w h => List.mem_cons_of_mem _ (rin3 w h)) hown hK hP 25 rfl rfl 1 (by decide) (hNX.use rm_270 rfl) (fun _ h9 => h9) rfl rd_M_word_68 ?_
            refine iw_icmp_ge (tgt := 88) hx hb rd_M_word_71 (by decide) ⟨by omega, by omega⟩ ⟨by omega, by omega⟩ (fun d1 => ?_) (fun d1 => ?_)
            ·
              have hz1 : dg U2 (2 * i + 1) = 0 := dg_above (by omega)
              refine lv_iconst (v := iv (0)) hx hb rd_M_word_88 (by decide) ?_
              refine iw_topi (y := iv (((dg U2 (2 * i + 1) : Nat) : Int))) (congrArg iv (by rw [hz1]; rfl : ((0) : Int) = (((dg U2 (2 * i + 1) : Nat) : Int)))) ?_
              refine lv_istore (lv' := [(6, .int (iv (((dg U2 (2 * i + 1) : Nat) : Int)))), (5, .int (iv (((dg U2 (2 * i) : Nat) : Int)))), (4, .ref (r 25)), (0, .ref (r 0)), (1, .int (iv (1))), (2, .int (iv (1))), (3, .int (iv ((i : Int))))]) hx hb rd_M_word_89 hl (by decide) rfl (fun ls hl => ?_)
              refine lv_iload hx hb rd_M_word_91 (lv_at hl 0 rfl) ?_
              refine lv_bipush (v := iv (16)) hx hb rd_M_word_93 (by decide) ?_
              refine iw_topi (y := iv (((16 : Nat) : Int))) (congrArg iv (by rfl : ((16) : Int) = (((16 : Nat) : Int)))) ?_
              refine iw_ishlk (a := dg U2 (2 * i + 1)) (k := 16) hx hb (by decide) (by omega) rd_M_word_95 ?_
              refine iw_topi (y := iv (((dg U2 (2 * i + 1) * 65536 : Nat) : Int))) (congrArg iv (by rfl : ((((dg U2 (2 * i + 1) * 2 ^ 16 : Nat) : Int)) : Int) = (((dg U2 (2 * i + 1) * 65536 : Nat) : Int)))) ?_
              refine lv_iload hx hb rd_M_word_96 (lv_at hl 1 rfl) ?_
              refine iw_ior hx hb hl1 hl0 rd_M_word_98 ?_
              exact ef_iret hx hb hr hlocks hP hD hS rd_M_word_99 (by rw [wz_in (by omega), wd_dg, Nat.add_comm]; exact ⟨fun i => [((V 0)), ((V 1)), ((V 2)), ((V 3)), ((V 4)), ((V 5)), ((V 6))].getD i 0, fun i => [((J 0)), ((J 1)), ((J 2)), ((J 3)), ((J 4)), ((J 5)), ((J 6)), ((J 7)), ((J 8)), ((J 9)), ((J 10))].getD i (fun _ => 0), _, _, _, _, rfl, rfl, rJ_of (hJ 0 (by decide)) (hJ 1 (by decide)) (hJ 2 (by decide)) (hJ 3 (by decide)) (hJ 4 (by decide)) (hJ 5 (by decide)) (hJ 6 (by decide)), kA1, kU1, kA2, kU2⟩)
            ·
              have hz1 := kU2.1 (2 * i + 1) (by omega)
              refine lv_aload hx hb rd_M_word_74 (lv_at hl 1 rfl) ?_
              refine va_getN (D := (dC, dI)) (ci := 3) (v := .ref (r 26)) (C := rR3) (T := rT3) (N := 2) hx hb hts (fun w h => List.mem_cons_of_mem _ (rin3 w h)) hown hK hP 25 rfl rfl 0 (by decide) (hNX.use rm_267 rfl) (fun _ h9 => h9) rfl rd_M_word_76 ?_
              refine lv_iconst (v := iv (2)) hx hb rd_M_word_79 (by decide) ?_
              refine lv_iload_n hx hb rd_M_word_80 rfl (lv_at hl 5 rfl) ?_
              refine iw_imul hx hb rd_M_word_81 ?_
              refine lv_iconst (v := iv (1)) hx hb rd_M_word_82 (by decide) ?_
              refine iw_iadd hx hb rd_M_word_83 ?_
              refine iw_topi (y := iv (((2 * i + 1 : Nat) : Int))) (congrArg iv (by omega : ((((2) * ((i : Int))) + (1)) : Int) = (((2 * i + 1 : Nat) : Int)))) ?_
              refine iw_iald (i := 2 * i + 1) hx hb hK hP 26 0 rfl ht (by omega) (by decide) rd_M_word_84 ?_
              refine iw_topi (y := iv (((dg U2 (2 * i + 1) : Nat) : Int))) (congrArg iv (by rw [hz1] : ((((J 10)) (2 * i + 1)) : Int) = (((dg U2 (2 * i + 1) : Nat) : Int)))) ?_
              refine lv_goto (tgt := 89) hx hb rd_M_word_85 (by decide) ?_
              refine lv_istore (lv' := [(6, .int (iv (((dg U2 (2 * i + 1) : Nat) : Int)))), (5, .int (iv (((dg U2 (2 * i) : Nat) : Int)))), (4, .ref (r 25)), (0, .ref (r 0)), (1, .int (iv (1))), (2, .int (iv (1))), (3, .int (iv ((i : Int))))]) hx hb rd_M_word_89 hl (by decide) rfl (fun ls hl => ?_)
              refine lv_iload hx hb rd_M_word_91 (lv_at hl 0 rfl) ?_
              refine lv_bipush (v := iv (16)) hx hb rd_M_word_93 (by decide) ?_
              refine iw_topi (y := iv (((16 : Nat) : Int))) (congrArg iv (by rfl : ((16) : Int) = (((16 : Nat) : Int)))) ?_
              refine iw_ishlk (a := dg U2 (2 * i + 1)) (k := 16) hx hb (by decide) (by omega) rd_M_word_95 ?_
              refine iw_topi (y := iv (((dg U2 (2 * i + 1) * 65536 : Nat) : Int))) (congrArg iv (by rfl : ((((dg U2 (2 * i + 1) * 2 ^ 16 : Nat) : Int)) : Int) = (((dg U2 (2 * i + 1) * 65536 : Nat) : Int)))) ?_
              refine lv_iload hx hb rd_M_word_96 (lv_at hl 1 rfl) ?_
              refine iw_ior hx hb hl1 hl0 rd_M_word_98 ?_
              exact ef_iret hx hb hr hlocks hP hD hS rd_M_word_99 (by rw [wz_in (by omega), wd_dg, Nat.add_comm]; exact ⟨fun i => [((V 0)), ((V 1)), ((V 2)), ((V 3)), ((V 4)), ((V 5)), ((V 6))].getD i 0, fun i => [((J 0)), ((J 1)), ((J 2)), ((J 3)), ((J 4)), ((J 5)), ((J 6)), ((J 7)), ((J 8)), ((J 9)), ((J 10))].getD i (fun _ => 0), _, _, _, _, rfl, rfl, rJ_of (hJ 0 (by decide)) (hJ 1 (by decide)) (hJ 2 (by decide)) (hJ 3 (by decide)) (hJ 4 (by decide)) (hJ 5 (by decide)) (hJ 6 (by decide)), kA1, kU1, kA2, kU2⟩)
          ·
            have hz0 := kU2.1 (2 * i) (by omega)
            refine lv_aload hx hb rd_M_word_46 (lv_at hl 0 rfl) ?_
            refine va_getN (D := (dC, dI)) (ci := 3) (v := .ref (r 26)) (C := rR3) (T := rT3) (N := 2) hx hb hts (fun w h => List.mem_cons_of_mem _ (rin3 w h)) hown hK hP 25 rfl rfl 0 (by decide) (hNX.use rm_267 rfl) (fun _ h9 => h9) rfl rd_M_word_48 ?_
            refine lv_iconst (v := iv (2)) hx hb rd_M_word_51 (by decide) ?_
            refine lv_iload_n hx hb rd_M_word_52 rfl (lv_at hl 4 rfl) ?_
            refine iw_imul hx hb rd_M_word_53 ?_
            refine iw_topi (y := iv (((2 * i : Nat) : Int))) (congrArg iv (by omega : (((2) * ((i : Int))) : Int) = (((2 * i : Nat) : Int)))) ?_
            refine iw_iald (i := 2 * i) hx hb hK hP 26 0 rfl ht (by omega) (by decide) rd_M_word_54 ?_
            refine iw_topi (y := iv (((dg U2 (2 * i) : Nat) : Int))) (congrArg iv (by rw [hz0] : ((((J 10)) (2 * i)) : Int) = (((dg U2 (2 * i) : Nat) : Int)))) ?_
            refine lv_goto (tgt := 59) hx hb rd_M_word_55 (by decide) ?_
            refine lv_istore (lv' := [(5, .int (iv (((dg U2 (2 * i) : Nat) : Int)))), (4, .ref (r 25)), (0, .ref (r 0)), (1, .int (iv (1))), (2, .int (iv (1))), (3, .int (iv ((i : Int))))]) hx hb rd_M_word_59 hl (by decide) rfl (fun ls hl => ?_)
            refine lv_iconst (v := iv (2)) hx hb rd_M_word_61 (by decide) ?_
            refine lv_iload_n hx hb rd_M_word_62 rfl (lv_at hl 5 rfl) ?_
            refine iw_imul hx hb rd_M_word_63 ?_
            refine lv_iconst (v := iv (1)) hx hb rd_M_word_64 (by decide) ?_
            refine iw_iadd hx hb rd_M_word_65 ?_
            refine iw_topi (y := iv (((2 * i + 1 : Nat) : Int))) (congrArg iv (by omega : ((((2) * ((i : Int))) + (1)) : Int) = (((2 * i + 1 : Nat) : Int)))) ?_
            refine lv_aload hx hb rd_M_word_66 (lv_at hl 1 rfl) ?_
            refine va_getN (D := (dC, dI)) (ci := 3) (v := .int (iv ((dn (U2) : Int)))) (C := rR3) (T := rT3) (N := 2) hx hb hts (fun w h => List.mem_cons_of_mem _ (rin3 w h)) hown hK hP 25 rfl rfl 1 (by decide) (hNX.use rm_270 rfl) (fun _ h9 => h9) rfl rd_M_word_68 ?_
            refine iw_icmp_ge (tgt := 88) hx hb rd_M_word_71 (by decide) ⟨by omega, by omega⟩ ⟨by omega, by omega⟩ (fun d1 => ?_) (fun d1 => ?_)
            ·
              have hz1 : dg U2 (2 * i + 1) = 0 := dg_above (by omega)
              refine lv_iconst (v := iv (0)) hx hb rd_M_word_88 (by decide) ?_
              refine iw_topi (y := iv (((dg U2 (2 * i + 1) : Nat) : Int))) (congrArg iv (by rw [hz1]; rfl : ((0) : Int) = (((dg U2 (2 * i + 1) : Nat) : Int)))) ?_
              refine lv_istore (lv' := [(6, .int (iv (((dg U2 (2 * i + 1) : Nat) : Int)))), (5, .int (iv (((dg U2 (2 * i) : Nat) : Int)))), (4, .ref (r 25)), (0, .ref (r 0)), (1, .int (iv (1))), (2, .int (iv (1))), (3, .int (iv ((i : Int))))]) hx hb rd_M_word_89 hl (by decide) rfl (fun ls hl => ?_)
              refine lv_iload hx hb rd_M_word_91 (lv_at hl 0 rfl) ?_
              refine lv_bipush (v := iv (16)) hx hb rd_M_word_93 (by decide) ?_
              refine iw_topi (y := iv (((16 : Nat) : Int))) (congrArg iv (by rfl : ((16) : Int) = (((16 : Nat) : Int)))) ?_
              refine iw_ishlk (a := dg U2 (2 * i + 1)) (k := 16) hx hb (by decide) (by omega) rd_M_word_95 ?_
              refine iw_topi (y := iv (((dg U2 (2 * i + 1) * 65536 : Nat) : Int))) (congrArg iv (by rfl : ((((dg U2 (2 * i + 1) * 2 ^ 16 : Nat) : Int)) : Int) = (((dg U2 (2 * i + 1) * 65536 : Nat) : Int)))) ?_
              refine lv_iload hx hb rd_M_word_96 (lv_at hl 1 rfl) ?_
              refine iw_ior hx hb hl1 hl0 rd_M_word_98 ?_
              exact ef_iret hx hb hr hlocks hP hD hS rd_M_word_99 (by rw [wz_in (by omega), wd_dg, Nat.add_comm]; exact ⟨fun i => [((V 0)), ((V 1)), ((V 2)), ((V 3)), ((V 4)), ((V 5)), ((V 6))].getD i 0, fun i => [((J 0)), ((J 1)), ((J 2)), ((J 3)), ((J 4)), ((J 5)), ((J 6)), ((J 7)), ((J 8)), ((J 9)), ((J 10))].getD i (fun _ => 0), _, _, _, _, rfl, rfl, rJ_of (hJ 0 (by decide)) (hJ 1 (by decide)) (hJ 2 (by decide)) (hJ 3 (by decide)) (hJ 4 (by decide)) (hJ 5 (by decide)) (hJ 6 (by decide)), kA1, kU1, kA2, kU2⟩)
            ·
              have hz1 := kU2.1 (2 * i + 1) (by omega)
              refine lv_aload hx hb rd_M_word_74 (lv_at hl 1 rfl) ?_
              refine va_getN (D := (dC, dI)) (ci := 3) (v := .ref (r 26)) (C := rR3) (T := rT3) (N := 2) hx hb hts (fun w h => List.mem_cons_of_mem _ (rin3 w h)) hown hK hP 25 rfl rfl 0 (by decide) (hNX.use rm_267 rfl) (fun _ h9 => h9) rfl rd_M_word_76 ?_
              refine lv_iconst (v := iv (2)) hx hb rd_M_word_79 (by decide) ?_
              refine lv_iload_n hx hb rd_M_word_80 rfl (lv_at hl 5 rfl) ?_
              refine iw_imul hx hb rd_M_word_81 ?_
              refine lv_iconst (v := iv (1)) hx hb rd_M_word_82 (by decide) ?_
              refine iw_iadd hx hb rd_M_word_83 ?_
              refine iw_topi (y := iv (((2 * i + 1 : Nat) : Int))) (congrArg iv (by omega : ((((2) * ((i : Int))) + (1)) : Int) = (((2 * i + 1 : Nat) : Int)))) ?_
              refine iw_iald (i := 2 * i + 1) hx hb hK hP 26 0 rfl ht (by omega) (by decide) rd_M_word_84 ?_
              refine iw_topi (y := iv (((dg U2 (2 * i + 1) : Nat) : Int))) (congrArg iv (by rw [hz1] : ((((J 10)) (2 * i + 1)) : Int) = (((dg U2 (2 * i + 1) : Nat) : Int)))) ?_
              refine lv_goto (tgt := 89) hx hb rd_M_word_85 (by decide) ?_
              refine lv_istore (lv' := [(6, .int (iv (((dg U2 (2 * i + 1) : Nat) : Int)))), (5, .int (iv (((dg U2 (2 * i) : Nat) : Int)))), (4, .ref (r 25)), (0, .ref (r 0)), (1, .int (iv (1))), (2, .int (iv (1))), (3, .int (iv ((i : Int))))]) hx hb rd_M_word_89 hl (by decide) rfl (fun ls hl => ?_)
              refine lv_iload hx hb rd_M_word_91 (lv_at hl 0 rfl) ?_
              refine lv_bipush (v := iv (16)) hx hb rd_M_word_93 (by decide) ?_
              refine iw_topi (y := iv (((16 : Nat) : Int))) (congrArg iv (by rfl : ((16) : Int) = (((16 : Nat) : Int)))) ?_
              refine iw_ishlk (a := dg U2 (2 * i + 1)) (k := 16) hx hb (by decide) (by omega) rd_M_word_95 ?_
              refine iw_topi (y := iv (((dg U2 (2 * i + 1) * 65536 : Nat) : Int))) (congrArg iv (by rfl : ((((dg U2 (2 * i + 1) * 2 ^ 16 : Nat) : Int)) : Int) = (((dg U2 (2 * i + 1) * 65536 : Nat) : Int)))) ?_
              refine lv_iload hx hb rd_M_word_96 (lv_at hl 1 rfl) ?_
              refine iw_ior hx hb hl1 hl0 rd_M_word_98 ?_
              exact ef_iret hx hb hr hlocks hP hD hS rd_M_word_99 (by rw [wz_in (by omega), wd_dg, Nat.add_comm]; exact ⟨fun i => [((V 0)), ((V 1)), ((V 2)), ((V 3)), ((V 4)), ((V 5)), ((V 6))].getD i 0, fun i => [((J 0)), ((J 1)), ((J 2)), ((J 3)), ((J 4)), ((J 5)), ((J 6)), ((J 7)), ((J 8)), ((J 9)), ((J 10))].getD i (fun _ => 0), _, _, _, _, rfl, rfl, rJ_of (hJ 0 (by decide)) (hJ 1 (by decide)) (hJ 2 (by decide)) (hJ 3 (by decide)) (hJ 4 (by decide)) (hJ 5 (by decide)) (hJ 6 (by decide)), kA1, kU1, kA2, kU2⟩)
        ·
          refine lv_iconst (v := iv (0)) hx hb rd_M_word_25 (by decide) ?_
          exact ef_iret hx hb hr hlocks hP hD hS rd_M_word_26 (by rw [wz_far mU2 (by omega)]; exact ⟨fun i => [((V 0)), ((V 1)), ((V 2)), ((V 3)), ((V 4)), ((V 5)), ((V 6))].getD i 0, fun i => [((J 0)), ((J 1)), ((J 2)), ((J 3)), ((J 4)), ((J 5)), ((J 6)), ((J 7)), ((J 8)), ((J 9)), ((J 10))].getD i (fun _ => 0), _, _, _, _, rfl, rfl, rJ_of (hJ 0 (by decide)) (hJ 1 (by decide)) (hJ 2 (by decide)) (hJ 3 (by decide)) (hJ 4 (by decide)) (hJ 5 (by decide)) (hJ 6 (by decide)), kA1, kU1, kA2, kU2⟩)

set_option maxRecDepth 100000 in
set_option maxHeartbeats 4000000 in
/-- word of no part -/
theorem r_word0x (l : Launch) (dC : Nat → ClassId) (dI : Nat → Nat → Nat) {cI : ClassId} {tys : List (ClassId × FieldType)} (ht : tys[0]? = some (cI, .int)) (r : Nat → Nat) {V : Nat → Nat} {J : Nat → Nat → Nat} {A1 U1 A2 U2 : Nat} {pb pe ob oe b1 e1 b2 e2 : Int} (hJ : rJ V J) (kA1 : bk A1 (J 7)) (kU1 : bk U1 (J 8)) (kA2 : bk A2 (J 9)) (kU2 : bk U2 (J 10)) (mA1 : dn A1 ≤ 300) (mU1 : dn U1 ≤ 300) (mA2 : dn A2 ≤ 300) (mU2 : dn U2 ≤ 300) (z : Int) (hz : ir z) (hz0 : z ≠ 0) (hz1 : z ≠ 1) (i : Int) : ef_C l ry_M_word rw_M_word ({ frames := 1, cells := 0, slots := 0, locals := 23 } : Room) [.ref (r 0), .int (iv (0)), .int (iv (z)), .int (iv (i))] (dC, dI) vwCl tys (rC cI r ((V 0)) ((V 1)) ((V 2)) ((V 3)) ((V 4)) ((V 5)) ((V 6)) (A1) (U1) (A2) (U2) ((J 0)) ((J 1)) ((J 2)) ((J 3)) ((J 4)) ((J 5)) ((J 6)) ((J 7)) ((J 8)) ((J 9)) ((J 10)) (pb) (pe) (ob) (oe) (b1) (e1) (b2) (e2)) (fun o w1 => ∃ (V2 : Nat → Nat) (J2 : Nat → Nat → Nat) (pb2 pe2 ob2 oe2 : Int), o = some (.int (iv (0))) ∧ w1 = rC cI r (V2 0) (V2 1) (V2 2) (V2 3) (V2 4) (V2 5) (V2 6) (A1) (U1) (A2) (U2) (J2 0) (J2 1) (J2 2) (J2 3) (J2 4) (J2 5) (J2 6) (J2 7) (J2 8) (J2 9) (J2 10) (pb2) (pe2) (ob2) (oe2) (b1) (e1) (b2) (e2) ∧ rJ V2 J2 ∧ bk (A1) (J2 7) ∧ bk (U1) (J2 8) ∧ bk (A2) (J2 9) ∧ bk (U2) (J2 10)) := by
  refine ef_C.of (cc := rc_M_word) (maxL := 7) (ret := (some .int)) (by decide) rfl (Nat.le_of_ble_eq_true rfl) ?_
  intro p e s m below meth c ls hx hb hml hr hts hown hlocks hK hNX hP hD hS hl
  have hl : lv_has ls 7 [(0, .ref (r 0)), (1, .int (iv (0))), (2, .int (iv (z))), (3, .int (iv (i)))] := hl
  have hown : s.vm.findClass rR5 = some m.cls := hown
  generalize hH : s.heap = H at hP ⊢
  have hS : va_S (ef_A (rC cI r ((V 0)) ((V 1)) ((V 2)) ((V 3)) ((V 4)) ((V 5)) ((V 6)) (A1) (U1) (A2) (U2) ((J 0)) ((J 1)) ((J 2)) ((J 3)) ((J 4)) ((J 5)) ((J 6)) ((J 7)) ((J 8)) ((J 9)) ((J 10)) (pb) (pe) (ob) (oe) (b1) (e1) (b2) (e2))) s.heap H [] := by rw [← hH]; exact hS
  generalize ([] : List Loc) = locs at hS ⊢
  refine lv_iload_n hx hb rd_M_word_0 rfl (lv_at hl 1 rfl) ?_
  refine ef_callS (As := [.int (iv (0))]) (rest := []) ⟨hx, hb, hml, hown, hts⟩ (r_isNumber0 l dC dI ht r) (cwS 1 hts (ef_goodS rm_336 rm_337 rm_24 rm_338) rfl rfl rfl (by decide +kernel) ⟨Nat.le_of_ble_eq_true rfl, Nat.le_of_ble_eq_true rfl⟩) hK hNX hP hD hS rfl hl.1 rfl (Nat.le_of_ble_eq_true rfl) rd_M_word_1 ⟨Nat.zero_le _, Nat.zero_le _⟩ (fun o w1 H locs hq hP hD hS => ?_)
  obtain ⟨rfl, e9⟩ := hq
  rw [e9] at hP hD
  refine W.eq (g2 := F0 m 4 ls [.int (iv (1))]) rfl ?_
  refine iw_if_eq (tgt := 25) hx hb rd_M_word_4 (by decide) ⟨by omega, by omega⟩ (fun k1 => ?_) (fun k1 => ?_)
  ·
    exact absurd k1 (by decide)
  ·
    refine lv_iload_n hx hb rd_M_word_7 rfl (lv_at hl 2 rfl) ?_
    refine ef_callS (As := [.int (iv (z))]) (rest := []) ⟨hx, hb, hml, hown, hts⟩ (r_isNumberx l dC dI ht r z hz hz0 hz1) (cwS 1 hts (ef_goodS rm_336 rm_337 rm_24 rm_338) rfl rfl rfl (by decide +kernel) ⟨Nat.le_of_ble_eq_true rfl, Nat.le_of_ble_eq_true rfl⟩) hK hNX hP hD hS rfl hl.1 rfl (Nat.le_of_ble_eq_true rfl) rd_M_word_8 ⟨Nat.zero_le _, Nat.zero_le _⟩ (fun o w1 H locs hq hP hD hS => ?_)
    obtain ⟨rfl, e9⟩ := hq
    rw [e9] at hP hD
    refine W.eq (g2 := F0 m 11 ls [.int (iv (0))]) rfl ?_
    refine iw_if_eq (tgt := 25) hx hb rd_M_word_11 (by decide) ⟨by omega, by omega⟩ (fun k2 => ?_) (fun k2 => ?_)
    ·
      refine lv_iconst (v := iv (0)) hx hb rd_M_word_25 (by decide) ?_
      exact ef_iret hx hb hr hlocks hP hD hS rd_M_word_26 (⟨fun i => [((V 0)), ((V 1)), ((V 2)), ((V 3)), ((V 4)), ((V 5)), ((V 6))].getD i 0, fun i => [((J 0)), ((J 1)), ((J 2)), ((J 3)), ((J 4)), ((J 5)), ((J 6)), ((J 7)), ((J 8)), ((J 9)), ((J 10))].getD i (fun _ => 0), _, _, _, _, rfl, rfl, rJ_of (hJ 0 (by decide)) (hJ 1 (by decide)) (hJ 2 (by decide)) (hJ 3 (by decide)) (hJ 4 (by decide)) (hJ 5 (by decide)) (hJ 6 (by decide)), kA1, kU1, kA2, kU2⟩)
    ·
      exact absurd rfl k2

set_option maxRecDepth 100000 in
set_option maxHeartbeats 4000000 in
/-- word of no part -/
theorem r_word1x (l : Launch) (dC : Nat → ClassId) (dI : Nat → Nat → Nat) {cI : ClassId} {tys : List (ClassId × FieldType)} (ht : tys[0]? = some (cI, .int)) (r : Nat → Nat) {V : Nat → Nat} {J : Nat → Nat → Nat} {A1 U1 A2 U2 : Nat} {pb pe ob oe b1 e1 b2 e2 : Int} (hJ : rJ V J) (kA1 : bk A1 (J 7)) (kU1 : bk U1 (J 8)) (kA2 : bk A2 (J 9)) (kU2 : bk U2 (J 10)) (mA1 : dn A1 ≤ 300) (mU1 : dn U1 ≤ 300) (mA2 : dn A2 ≤ 300) (mU2 : dn U2 ≤ 300) (z : Int) (hz : ir z) (hz0 : z ≠ 0) (hz1 : z ≠ 1) (i : Int) : ef_C l ry_M_word rw_M_word ({ frames := 1, cells := 0, slots := 0, locals := 23 } : Room) [.ref (r 0), .int (iv (1)), .int (iv (z)), .int (iv (i))] (dC, dI) vwCl tys (rC cI r ((V 0)) ((V 1)) ((V 2)) ((V 3)) ((V 4)) ((V 5)) ((V 6)) (A1) (U1) (A2) (U2) ((J 0)) ((J 1)) ((J 2)) ((J 3)) ((J 4)) ((J 5)) ((J 6)) ((J 7)) ((J 8)) ((J 9)) ((J 10)) (pb) (pe) (ob) (oe) (b1) (e1) (b2) (e2)) (fun o w1 => ∃ (V2 : Nat → Nat) (J2 : Nat → Nat → Nat) (pb2 pe2 ob2 oe2 : Int), o = some (.int (iv (0))) ∧ w1 = rC cI r (V2 0) (V2 1) (V2 2) (V2 3) (V2 4) (V2 5) (V2 6) (A1) (U1) (A2) (U2) (J2 0) (J2 1) (J2 2) (J2 3) (J2 4) (J2 5) (J2 6) (J2 7) (J2 8) (J2 9) (J2 10) (pb2) (pe2) (ob2) (oe2) (b1) (e1) (b2) (e2) ∧ rJ V2 J2 ∧ bk (A1) (J2 7) ∧ bk (U1) (J2 8) ∧ bk (A2) (J2 9) ∧ bk (U2) (J2 10)) := by
  refine ef_C.of (cc := rc_M_word) (maxL := 7) (ret := (some .int)) (by decide) rfl (Nat.le_of_ble_eq_true rfl) ?_
  intro p e s m below meth c ls hx hb hml hr hts hown hlocks hK hNX hP hD hS hl
  have hl : lv_has ls 7 [(0, .ref (r 0)), (1, .int (iv (1))), (2, .int (iv (z))), (3, .int (iv (i)))] := hl
  have hown : s.vm.findClass rR5 = some m.cls := hown
  generalize hH : s.heap = H at hP ⊢
  have hS : va_S (ef_A (rC cI r ((V 0)) ((V 1)) ((V 2)) ((V 3)) ((V 4)) ((V 5)) ((V 6)) (A1) (U1) (A2) (U2) ((J 0)) ((J 1)) ((J 2)) ((J 3)) ((J 4)) ((J 5)) ((J 6)) ((J 7)) ((J 8)) ((J 9)) ((J 10)) (pb) (pe) (ob) (oe) (b1) (e1) (b2) (e2))) s.heap H [] := by rw [← hH]; exact hS
  generalize ([] : List Loc) = locs at hS ⊢
  refine lv_iload_n hx hb rd_M_word_0 rfl (lv_at hl 1 rfl) ?_
  refine ef_callS (As := [.int (iv (1))]) (rest := []) ⟨hx, hb, hml, hown, hts⟩ (r_isNumber1 l dC dI ht r) (cwS 1 hts (ef_goodS rm_336 rm_337 rm_24 rm_338) rfl rfl rfl (by decide +kernel) ⟨Nat.le_of_ble_eq_true rfl, Nat.le_of_ble_eq_true rfl⟩) hK hNX hP hD hS rfl hl.1 rfl (Nat.le_of_ble_eq_true rfl) rd_M_word_1 ⟨Nat.zero_le _, Nat.zero_le _⟩ (fun o w1 H locs hq hP hD hS => ?_)
  obtain ⟨rfl, e9⟩ := hq
  rw [e9] at hP hD
  refine W.eq (g2 := F0 m 4 ls [.int (iv (1))]) rfl ?_
  refine iw_if_eq (tgt := 25) hx hb rd_M_word_4 (by decide) ⟨by omega, by omega⟩ (fun k1 => ?_) (fun k1 => ?_)
  ·
    exact absurd k1 (by decide)
  ·
    refine lv_iload_n hx hb rd_M_word_7 rfl (lv_at hl 2 rfl) ?_
    refine ef_callS (As := [.int (iv (z))]) (rest := []) ⟨hx, hb, hml, hown, hts⟩ (r_isNumberx l dC dI ht r z hz hz0 hz1) (cwS 1 hts (ef_goodS rm_336 rm_337 rm_24 rm_338) rfl rfl rfl (by decide +kernel) ⟨Nat.le_of_ble_eq_true rfl, Nat.le_of_ble_eq_true rfl⟩) hK hNX hP hD hS rfl hl.1 rfl (Nat.le_of_ble_eq_true rfl) rd_M_word_8 ⟨Nat.zero_le _, Nat.zero_le _⟩ (fun o w1 H locs hq hP hD hS => ?_)
    obtain ⟨rfl, e9⟩ := hq
    rw [e9] at hP hD
    refine W.eq (g2 := F0 m 11 ls [.int (iv (0))]) rfl ?_
    refine iw_if_eq (tgt := 25) hx hb rd_M_word_11 (by decide) ⟨by omega, by omega⟩ (fun k2 => ?_) (fun k2 => ?_)
    ·
      refine lv_iconst (v := iv (0)) hx hb rd_M_word_25 (by decide) ?_
      exact ef_iret hx hb hr hlocks hP hD hS rd_M_word_26 (⟨fun i => [((V 0)), ((V 1)), ((V 2)), ((V 3)), ((V 4)), ((V 5)), ((V 6))].getD i 0, fun i => [((J 0)), ((J 1)), ((J 2)), ((J 3)), ((J 4)), ((J 5)), ((J 6)), ((J 7)), ((J 8)), ((J 9)), ((J 10))].getD i (fun _ => 0), _, _, _, _, rfl, rfl, rJ_of (hJ 0 (by decide)) (hJ 1 (by decide)) (hJ 2 (by decide)) (hJ 3 (by decide)) (hJ 4 (by decide)) (hJ 5 (by decide)) (hJ 6 (by decide)), kA1, kU1, kA2, kU2⟩)
    ·
      exact absurd rfl k2

set_option maxRecDepth 100000 in
set_option maxHeartbeats 4000000 in
/-- word of no part -/
theorem r_wordxx (l : Launch) (dC : Nat → ClassId) (dI : Nat → Nat → Nat) {cI : ClassId} {tys : List (ClassId × FieldType)} (ht : tys[0]? = some (cI, .int)) (r : Nat → Nat) {V : Nat → Nat} {J : Nat → Nat → Nat} {A1 U1 A2 U2 : Nat} {pb pe ob oe b1 e1 b2 e2 : Int} (hJ : rJ V J) (kA1 : bk A1 (J 7)) (kU1 : bk U1 (J 8)) (kA2 : bk A2 (J 9)) (kU2 : bk U2 (J 10)) (mA1 : dn A1 ≤ 300) (mU1 : dn U1 ≤ 300) (mA2 : dn A2 ≤ 300) (mU2 : dn U2 ≤ 300) (z y : Int) (hz : ir z) (hz0 : z ≠ 0) (hz1 : z ≠ 1) (i : Int) : ef_C l ry_M_word rw_M_word ({ frames := 1, cells := 0, slots := 0, locals := 23 } : Room) [.ref (r 0), .int (iv (z)), .int (iv (y)), .int (iv (i))] (dC, dI) vwCl tys (rC cI r ((V 0)) ((V 1)) ((V 2)) ((V 3)) ((V 4)) ((V 5)) ((V 6)) (A1) (U1) (A2) (U2) ((J 0)) ((J 1)) ((J 2)) ((J 3)) ((J 4)) ((J 5)) ((J 6)) ((J 7)) ((J 8)) ((J 9)) ((J 10)) (pb) (pe) (ob) (oe) (b1) (e1) (b2) (e2)) (fun o w1 => ∃ (V2 : Nat → Nat) (J2 : Nat → Nat → Nat) (pb2 pe2 ob2 oe2 : Int), o = some (.int (iv (0))) ∧ w1 = rC cI r (V2 0) (V2 1) (V2 2) (V2 3) (V2 4) (V2 5) (V2 6) (A1) (U1) (A2) (U2) (J2 0) (J2 1) (J2 2) (J2 3) (J2 4) (J2 5) (J2 6) (J2 7) (J2 8) (J2 9) (J2 10) (pb2) (pe2) (ob2) (oe2) (b1) (e1) (b2) (e2) ∧ rJ V2 J2 ∧ bk (A1) (J2 7) ∧ bk (U1) (J2 8) ∧ bk (A2) (J2 9) ∧ bk (U2) (J2 10)) := by
  refine ef_C.of (cc := rc_M_word) (maxL := 7) (ret := (some .int)) (by decide) rfl (Nat.le_of_ble_eq_true rfl) ?_
  intro p e s m below meth c ls hx hb hml hr hts hown hlocks hK hNX hP hD hS hl
  have hl : lv_has ls 7 [(0, .ref (r 0)), (1, .int (iv (z))), (2, .int (iv (y))), (3, .int (iv (i)))] := hl
  have hown : s.vm.findClass rR5 = some m.cls := hown
  generalize hH : s.heap = H at hP ⊢
  have hS : va_S (ef_A (rC cI r ((V 0)) ((V 1)) ((V 2)) ((V 3)) ((V 4)) ((V 5)) ((V 6)) (A1) (U1) (A2) (U2) ((J 0)) ((J 1)) ((J 2)) ((J 3)) ((J 4)) ((J 5)) ((J 6)) ((J 7)) ((J 8)) ((J 9)) ((J 10)) (pb) (pe) (ob) (oe) (b1) (e1) (b2) (e2))) s.heap H [] := by rw [← hH]; exact hS
  generalize ([] : List Loc) = locs at hS ⊢
  refine lv_iload_n hx hb rd_M_word_0 rfl (lv_at hl 1 rfl) ?_
  refine ef_callS (As := [.int (iv (z))]) (rest := []) ⟨hx, hb, hml, hown, hts⟩ (r_isNumberx l dC dI ht r z hz hz0 hz1) (cwS 1 hts (ef_goodS rm_336 rm_337 rm_24 rm_338) rfl rfl rfl (by decide +kernel) ⟨Nat.le_of_ble_eq_true rfl, Nat.le_of_ble_eq_true rfl⟩) hK hNX hP hD hS rfl hl.1 rfl (Nat.le_of_ble_eq_true rfl) rd_M_word_1 ⟨Nat.zero_le _, Nat.zero_le _⟩ (fun o w1 H locs hq hP hD hS => ?_)
  obtain ⟨rfl, e9⟩ := hq
  rw [e9] at hP hD
  refine W.eq (g2 := F0 m 4 ls [.int (iv (0))]) rfl ?_
  refine iw_if_eq (tgt := 25) hx hb rd_M_word_4 (by decide) ⟨by omega, by omega⟩ (fun k1 => ?_) (fun k1 => ?_)
  ·
    refine lv_iconst (v := iv (0)) hx hb rd_M_word_25 (by decide) ?_
    exact ef_iret hx hb hr hlocks hP hD hS rd_M_word_26 (⟨fun i => [((V 0)), ((V 1)), ((V 2)), ((V 3)), ((V 4)), ((V 5)), ((V 6))].getD i 0, fun i => [((J 0)), ((J 1)), ((J 2)), ((J 3)), ((J 4)), ((J 5)), ((J 6)), ((J 7)), ((J 8)), ((J 9)), ((J 10))].getD i (fun _ => 0), _, _, _, _, rfl, rfl, rJ_of (hJ 0 (by decide)) (hJ 1 (by decide)) (hJ 2 (by decide)) (hJ 3 (by decide)) (hJ 4 (by decide)) (hJ 5 (by decide)) (hJ 6 (by decide)), kA1, kU1, kA2, kU2⟩)
  ·
    exact absurd rfl k1

set_option maxRecDepth 100000 in
set_option maxHeartbeats 4000000 in
/-- compareSizes -/
theorem r_sizes01 (l : Launch) (dC : Nat → ClassId) (dI : Nat → Nat → Nat) {cI : ClassId} {tys : List (ClassId × FieldType)} (ht : tys[0]? = some (cI, .int)) (r : Nat → Nat) {V : Nat → Nat} {J : Nat → Nat → Nat} {A1 U1 A2 U2 : Nat} {pb pe ob oe b1 e1 b2 e2 : Int} (hJ : rJ V J) (kA1 : bk A1 (J 7)) (kU1 : bk U1 (J 8)) (kA2 : bk A2 (J 9)) (kU2 : bk U2 (J 10)) (mA1 : dn A1 ≤ 300) (mU1 : dn U1 ≤ 300) (mA2 : dn A2 ≤ 300) (mU2 : dn U2 ≤ 300) (nPa : A1 ≠ 0) (nPb : A2 ≠ 0) (nQa : U1 ≠ 0) (nQb : U2 ≠ 0) (bPa : bl A1 ≤ 4800) (bQa : bl U1 ≤ 4800) (bPb : bl A2 ≤ 4800) (bQb : bl U2 ≤ 4800) (lea : -12000 ≤ e1) (gea : e1 ≤ 12000) (leb : -12000 ≤ e2) (geb : e2 ≤ 12000) : ef_C l ry_M_compareSizes rw_M_compareSizes ({ frames := 2, cells := 0, slots := 0, locals := 51 } : Room) [.ref (r 0), .ref (r 3), .ref (r 4)] (dC, dI) vwCl tys (rC cI r ((V 0)) ((V 1)) ((V 2)) ((V 3)) ((V 4)) ((V 5)) ((V 6)) (A1) (U1) (A2) (U2) ((J 0)) ((J 1)) ((J 2)) ((J 3)) ((J 4)) ((J 5)) ((J 6)) ((J 7)) ((J 8)) ((J 9)) ((J 10)) (pb) (pe) (ob) (oe) (b1) (e1) (b2) (e2)) (fun o w1 => ∃ (V2 : Nat → Nat) (J2 : Nat → Nat → Nat) (pb2 pe2 ob2 oe2 : Int), V2 5 = V 5 ∧ V2 6 = V 6 ∧ ob2 = ob ∧ oe2 = oe ∧ o = some (.int (iv (scmp A1 U1 e1 A2 U2 e2))) ∧ w1 = rC cI r (V2 0) (V2 1) (V2 2) (V2 3) (V2 4) (V2 5) (V2 6) (A1) (U1) (A2) (U2) (J2 0) (J2 1) (J2 2) (J2 3) (J2 4) (J2 5) (J2 6) (J2 7) (J2 8) (J2 9) (J2 10) (pb2) (pe2) (ob2) (oe2) (b1) (e1) (b2) (e2) ∧ rJ V2 J2 ∧ bk (A1) (J2 7) ∧ bk (U1) (J2 8) ∧ bk (A2) (J2 9) ∧ bk (U2) (J2 10)) := by
  refine ef_C.of (cc := rc_M_compareSizes) (maxL := 5) (ret := (some .int)) (by decide) rfl (Nat.le_of_ble_eq_true rfl) ?_
  intro p e s m below meth c ls hx hb hml hr hts hown hlocks hK hNX hP hD hS hl
  have hl : lv_has ls 5 [(0, .ref (r 0)), (1, .ref (r 3)), (2, .ref (r 4))] := hl
  have hown : s.vm.findClass rR5 = some m.cls := hown
  generalize hH : s.heap = H at hP ⊢
  have hS : va_S (ef_A (rC cI r ((V 0)) ((V 1)) ((V 2)) ((V 3)) ((V 4)) ((V 5)) ((V 6)) (A1) (U1) (A2) (U2) ((J 0)) ((J 1)) ((J 2)) ((J 3)) ((J 4)) ((J 5)) ((J 6)) ((J 7)) ((J 8)) ((J 9)) ((J 10)) (pb) (pe) (ob) (oe) (b1) (e1) (b2) (e2))) s.heap H [] := by rw [← hH]; exact hS
  generalize ([] : List Loc) = locs at hS ⊢
  have m1 := bl_mul_le A1 U2
  have m2 := bl_mul_le A2 U1
  have j78 : ∀ (x1 : Nat) (f1 : Nat → Nat) (x2 : Nat) (f2 : Nat → Nat), (bk x1 f1) → (x1 = A1 * U2) → (bk x2 f2) → (x2 = A2 * U1) → ∀ (H : Heap) (locs : List Loc) (ls : Array Slot), va_P (dC, dI) vwCl (rC cI r (x1) (x2) ((V 2)) ((V 3)) ((V 4)) ((V 5)) ((V 6)) (A1) (U1) (A2) (U2) (f1) (f2) ((J 2)) ((J 3)) ((J 4)) ((J 5)) ((J 6)) ((J 7)) ((J 8)) ((J 9)) ((J 10)) (pb) (pe) (ob) (oe) (b1) (e1) (b2) (e2)) H → va_D (ef_A (rC cI r ((V 0)) ((V 1)) ((V 2)) ((V 3)) ((V 4)) ((V 5)) ((V 6)) (A1) (U1) (A2) (U2) ((J 0)) ((J 1)) ((J 2)) ((J 3)) ((J 4)) ((J 5)) ((J 6)) ((J 7)) ((J 8)) ((J 9)) ((J 10)) (pb) (pe) (ob) (oe) (b1) (e1) (b2) (e2))) (rC cI r (x1) (x2) ((V 2)) ((V 3)) ((V 4)) ((V 5)) ((V 6)) (A1) (U1) (A2) (U2) (f1) (f2) ((J 2)) ((J 3)) ((J 4)) ((J 5)) ((J 6)) ((J 7)) ((J 8)) ((J 9)) ((J 10)) (pb) (pe) (ob) (oe) (b1) (e1) (b2) (e2)) → va_S (ef_A (rC cI r ((V 0)) ((V 1)) ((V 2)) ((V 3)) ((V 4)) ((V 5)) ((V 6)) (A1) (U1) (A2) (U2) ((J 0)) ((J 1)) ((J 2)) ((J 3)) ((J 4)) ((J 5)) ((J 6)) ((J 7)) ((J 8)) ((J 9)) ((J 10)) (pb) (pe) (ob) (oe) (b1) (e1) (b2) (e2))) s.heap H locs → lv_has ls 5 [(0, .ref (r 0)), (1, .ref (r 3)), (2, .ref (r 4))] → W p l e ({ frames := 2, cells := 0, slots := 0, locals := 51 } : Room) s m ([.ref (r 0), .ref (r 3), .ref (r 4)] : List Value).toArray below meth c H locs 0 0 (ef_R below (dC, dI) vwCl (rC cI r ((V 0)) ((V 1)) ((V 2)) ((V 3)) ((V 4)) ((V 5)) ((V 6)) (A1) (U1) (A2) (U2) ((J 0)) ((J 1)) ((J 2)) ((J 3)) ((J 4)) ((J 5)) ((J 6)) ((J 7)) ((J 8)) ((J 9)) ((J 10)) (pb) (pe) (ob) (oe) (b1) (e1) (b2) (e2)) (fun o w1 => ∃ (V2 : Nat → Nat) (J2 : Nat → Nat → Nat) (pb2 pe2 ob2 oe2 : Int), V2 5 = V 5 ∧ V2 6 = V 6 ∧ ob2 = ob ∧ oe2 = oe ∧ o = some (.int (iv (scmp A1 U1 e1 A2 U2 e2))) ∧ w1 = rC cI r (V2 0) (V2 1) (V2 2) (V2 3) (V2 4) (V2 5) (V2 6) (A1) (U1) (A2) (U2) (J2 0) (J2 1) (J2 2) (J2 3) (J2 4) (J2 5) (J2 6) (J2 7) (J2 8) (J2 9) (J2 10) (pb2) (pe2) (ob2) (oe2) (b1) (e1) (b2) (e2) ∧ rJ V2 J2 ∧ bk (A1) (J2 7) ∧ bk (U1) (J2 8) ∧ bk (A2) (J2 9) ∧ bk (U2) (J2 10)) [.ref (r 0), .ref (r 3), .ref (r 4)] s) (F0 m 78 ls []) := by
    intro x1 f1 x2 f2 hb1 hx1 hb2 hx2 H locs ls hP hD hS hl
    have hs : scmp A1 U1 e1 A2 U2 e2 = zc ((x1 * pw e1 : Nat) : Int) ((x2 * pw e2 : Nat) : Int) := by rw [hx1, hx2]; rfl
    rw [hs]
    have n1 : x1 ≠ 0 := by rw [hx1]; exact Nat.mul_ne_zero nPa nQb
    have n2 : x2 ≠ 0 := by rw [hx2]; exact Nat.mul_ne_zero nPb nQa
    rw [← hx1] at m1
    rw [← hx2] at m2
    have w1 := dn_of_bl x1
    have w2 := dn_of_bl x2
    refine lv_aload_n hx hb rd_M_compareSizes_78 rfl (lv_at hl 0 rfl) ?_
    refine va_get (D := (dC, dI)) (ci := 5) (v := .ref (r 5)) (C := rR5) (T := rT5) (N := 7) hx hb hts (fun w h => List.mem_cons_of_mem _ (rin5 w h)) hown hK hP 0 rfl rfl 0 (by decide) (hts _ (List.mem_cons_of_mem _ rm_310)) (fun _ h9 => h9) rfl rd_M_compareSizes_79 ?_
    refine ef_callV (As := []) (rest := []) ⟨hx, hb, hml, hown, hts⟩ (b_bits l dC dI ht (isB_c (X := x1) (F := f1) (ws := rC cI r (x1) (x2) ((V 2)) ((V 3)) ((V 4)) ((V 5)) ((V 6)) (A1) (U1) (A2) (U2) (f1) (f2) ((J 2)) ((J 3)) ((J 4)) ((J 5)) ((J 6)) ((J 7)) ((J 8)) ((J 9)) ((J 10)) (pb) (pe) (ob) (oe) (b1) (e1) (b2) (e2)) (k0 := 5) (k1 := 6) (by decide) rfl rfl) hb1.1 hb1.2) (cwV 0 hts (ef_goodV rm_360 rm_361 rm_362 rm_25 rm_363) rfl rfl rfl (by decide +kernel) ⟨Nat.le_of_ble_eq_true rfl, Nat.le_of_ble_eq_true rfl⟩) hK hNX hP hD hS 5 rfl rfl rfl rfl hl.1 rfl (Nat.le_of_ble_eq_true rfl) rd_M_compareSizes_82 ⟨Nat.zero_le _, Nat.zero_le _⟩ (fun o w1 H locs hq hP hD hS => ?_)
    obtain ⟨rfl, e9⟩ := hq
    rw [e9] at hP hD
    refine W.eq (g2 := F0 m 85 ls [.int (iv ((bl (x1) : Int)))]) rfl ?_
    refine lv_aload_n hx hb rd_M_compareSizes_85 rfl (lv_at hl 1 rfl) ?_
    refine va_getN (D := (dC, dI)) (ci := 4) (v := .int (iv (e1))) (C := rR4) (T := rT4) (N := 4) hx hb hts (fun w h => List.mem_cons_of_mem _ (rin4 w h)) hown hK hP 3 rfl rfl 3 (by decide) (hNX.use rm_290 rfl) (fun _ h9 => h9) rfl rd_M_compareSizes_86 ?_
    refine iw_iadd hx hb rd_M_compareSizes_89 ?_
    refine lv_istore_n (lv' := [(3, .int (iv (((bl (x1) : Int)) + (e1)))), (0, .ref (r 0)), (1, .ref (r 3)), (2, .ref (r 4))]) hx hb rd_M_compareSizes_90 rfl hl (by decide) rfl (fun ls hl => ?_)
    refine lv_aload_n hx hb rd_M_compareSizes_91 rfl (lv_at hl 1 rfl) ?_
    refine va_get (D := (dC, dI)) (ci := 5) (v := .ref (r 7)) (C := rR5) (T := rT5) (N := 7) hx hb hts (fun w h => List.mem_cons_of_mem _ (rin5 w h)) hown hK hP 0 rfl rfl 1 (by decide) (hts _ (List.mem_cons_of_mem _ rm_311)) (fun _ h9 => h9) rfl rd_M_compareSizes_92 ?_
    refine ef_callV (As := []) (rest := []) ⟨hx, hb, hml, hown, hts⟩ (b_bits l dC dI ht (isB_c (X := x2) (F := f2) (ws := rC cI r (x1) (x2) ((V 2)) ((V 3)) ((V 4)) ((V 5)) ((V 6)) (A1) (U1) (A2) (U2) (f1) (f2) ((J 2)) ((J 3)) ((J 4)) ((J 5)) ((J 6)) ((J 7)) ((J 8)) ((J 9)) ((J 10)) (pb) (pe) (ob) (oe) (b1) (e1) (b2) (e2)) (k0 := 7) (k1 := 8) (by decide) rfl rfl) hb2.1 hb2.2) (cwV 0 hts (ef_goodV rm_360 rm_361 rm_362 rm_25 rm_363) rfl rfl rfl (by decide +kernel) ⟨Nat.le_of_ble_eq_true rfl, Nat.le_of_ble_eq_true rfl⟩) hK hNX hP hD hS 7 rfl rfl rfl rfl hl.1 rfl (Nat.le_of_ble_eq_true rfl) rd_M_compareSizes_95 ⟨Nat.zero_le _, Nat.zero_le _⟩ (fun o w1 H locs hq hP hD hS => ?_)
    obtain ⟨rfl, e9⟩ := hq
    rw [e9] at hP hD
    refine W.eq (g2 := F0 m 98 ls [.int (iv ((bl (x2) : Int)))]) rfl ?_
    refine lv_aload_n hx hb rd_M_compareSizes_98 rfl (lv_at hl 3 rfl) ?_
    refine va_getN (D := (dC, dI)) (ci := 4) (v := .int (iv (e2))) (C := rR4) (T := rT4) (N := 4) hx hb hts (fun w h => List.mem_cons_of_mem _ (rin4 w h)) hown hK hP 4 rfl rfl 3 (by decide) (hNX.use rm_290 rfl) (fun _ h9 => h9) rfl rd_M_compareSizes_99 ?_
    refine iw_iadd hx hb rd_M_compareSizes_102 ?_
    refine lv_istore (lv' := [(4, .int (iv (((bl (x2) : Int)) + (e2)))), (3, .int (iv (((bl (x1) : Int)) + (e1)))), (0, .ref (r 0)), (1, .ref (r 3)), (2, .ref (r 4))]) hx hb rd_M_compareSizes_103 hl (by decide) rfl (fun ls hl => ?_)
    refine lv_iload_n hx hb rd_M_compareSizes_105 rfl (lv_at hl 1 rfl) ?_
    refine lv_iload hx hb rd_M_compareSizes_106 (lv_at hl 0 rfl) ?_
    refine iw_icmp_eq (tgt := 123) hx hb rd_M_compareSizes_108 (by decide) ⟨by omega, by omega⟩ ⟨by omega, by omega⟩ (fun c1 => ?_) (fun c1 => ?_)
    ·
      refine lv_aload_n hx hb rd_M_compareSizes_123 rfl (lv_at hl 3 rfl) ?_
      refine va_getN (D := (dC, dI)) (ci := 4) (v := .int (iv (e1))) (C := rR4) (T := rT4) (N := 4) hx hb hts (fun w h => List.mem_cons_of_mem _ (rin4 w h)) hown hK hP 3 rfl rfl 3 (by decide) (hNX.use rm_290 rfl) (fun _ h9 => h9) rfl rd_M_compareSizes_124 ?_
      refine lv_aload_n hx hb rd_M_compareSizes_127 rfl (lv_at hl 4 rfl) ?_
      refine va_getN (D := (dC, dI)) (ci := 4) (v := .int (iv (e2))) (C := rR4) (T := rT4) (N := 4) hx hb hts (fun w h => List.mem_cons_of_mem _ (rin4 w h)) hown hK hP 4 rfl rfl 3 (by decide) (hNX.use rm_290 rfl) (fun _ h9 => h9) rfl rd_M_compareSizes_128 ?_
      refine iw_icmp_le (tgt := 153) hx hb rd_M_compareSizes_131 (by decide) ⟨by omega, by omega⟩ ⟨by omega, by omega⟩ (fun c2 => ?_) (fun c2 => ?_)
      ·
        obtain ⟨k, hk⟩ : ∃ k : Nat, e2 = e1 + (k : Int) := ⟨(e2 - e1).toNat, by omega⟩
        have hz9 : zc ((x1 * pw e1 : Nat) : Int) ((x2 * pw e2 : Nat) : Int) = zc (x1 : Int) ((x2 * 2 ^ k : Nat) : Int) := by rw [hk, pw_add (by omega), Nat.mul_comm (pw e1), ← Nat.mul_assoc, zc_mul (pw_pos e1)]
        have hbs := bl_shift n2 k
        have hdn := dn_of_bl (x2 * 2 ^ k)
        refine lv_aload_n hx hb rd_M_compareSizes_153 rfl (lv_at hl 2 rfl) ?_
        refine va_get (D := (dC, dI)) (ci := 5) (v := .ref (r 7)) (C := rR5) (T := rT5) (N := 7) hx hb hts (fun w h => List.mem_cons_of_mem _ (rin5 w h)) hown hK hP 0 rfl rfl 1 (by decide) (hts _ (List.mem_cons_of_mem _ rm_311)) (fun _ h9 => h9) rfl rd_M_compareSizes_154 ?_
        refine lv_aload_n hx hb rd_M_compareSizes_157 rfl (lv_at hl 4 rfl) ?_
        refine va_getN (D := (dC, dI)) (ci := 4) (v := .int (iv (e2))) (C := rR4) (T := rT4) (N := 4) hx hb hts (fun w h => List.mem_cons_of_mem _ (rin4 w h)) hown hK hP 4 rfl rfl 3 (by decide) (hNX.use rm_290 rfl) (fun _ h9 => h9) rfl rd_M_compareSizes_158 ?_
        refine lv_aload_n hx hb rd_M_compareSizes_161 rfl (lv_at hl 3 rfl) ?_
        refine va_getN (D := (dC, dI)) (ci := 4) (v := .int (iv (e1))) (C := rR4) (T := rT4) (N := 4) hx hb hts (fun w h => List.mem_cons_of_mem _ (rin4 w h)) hown hK hP 3 rfl rfl 3 (by decide) (hNX.use rm_290 rfl) (fun _ h9 => h9) rfl rd_M_compareSizes_162 ?_
        refine iw_isub hx hb rd_M_compareSizes_165 ?_
        refine iw_topi (y := iv ((k : Int))) (congrArg iv (by omega : (((e2) - (e1)) : Int) = ((k : Int)))) ?_
        refine ef_callV (As := [.int (iv ((k : Int)))]) (rest := []) ⟨hx, hb, hml, hown, hts⟩ (b_shift l dC dI ht (isB_c (X := x2) (F := f2) (ws := rC cI r (x1) (x2) ((V 2)) ((V 3)) ((V 4)) ((V 5)) ((V 6)) (A1) (U1) (A2) (U2) (f1) (f2) ((J 2)) ((J 3)) ((J 4)) ((J 5)) ((J 6)) ((J 7)) ((J 8)) ((J 9)) ((J 10)) (pb) (pe) (ob) (oe) (b1) (e1) (b2) (e2)) (k0 := 7) (k1 := 8) (by decide) rfl rfl) hb2.1 n2 k (by omega)) (cwV 1 hts (ef_goodV rm_430 rm_431 rm_432 rm_25 rm_433) rfl rfl rfl (by decide +kernel) ⟨Nat.le_of_ble_eq_true rfl, Nat.le_of_ble_eq_true rfl⟩) hK hNX hP hD hS 7 rfl rfl rfl rfl hl.1 rfl (Nat.le_of_ble_eq_true rfl) rd_M_compareSizes_166 ⟨Nat.zero_le _, Nat.zero_le _⟩ (fun o w1 H locs hq hP hD hS => ?_)
        obtain ⟨rfl, g_1, rfl, hg_2⟩ := hq
        have hP : va_P (dC, dI) vwCl (rC cI r (x1) (x2 * 2 ^ k) ((V 2)) ((V 3)) ((V 4)) ((V 5)) ((V 6)) (A1) (U1) (A2) (U2) (f1) (g_1) ((J 2)) ((J 3)) ((J 4)) ((J 5)) ((J 6)) ((J 7)) ((J 8)) ((J 9)) ((J 10)) (pb) (pe) (ob) (oe) (b1) (e1) (b2) (e2)) H := hP
        have hD : va_D (ef_A (rC cI r ((V 0)) ((V 1)) ((V 2)) ((V 3)) ((V 4)) ((V 5)) ((V 6)) (A1) (U1) (A2) (U2) ((J 0)) ((J 1)) ((J 2)) ((J 3)) ((J 4)) ((J 5)) ((J 6)) ((J 7)) ((J 8)) ((J 9)) ((J 10)) (pb) (pe) (ob) (oe) (b1) (e1) (b2) (e2))) (rC cI r (x1) (x2 * 2 ^ k) ((V 2)) ((V 3)) ((V 4)) ((V 5)) ((V 6)) (A1) (U1) (A2) (U2) (f1) (g_1) ((J 2)) ((J 3)) ((J 4)) ((J 5)) ((J 6)) ((J 7)) ((J 8)) ((J 9)) ((J 10)) (pb) (pe) (ob) (oe) (b1) (e1) (b2) (e2)) := hD
        have hg_2 : bk (x2 * 2 ^ k) g_1 := ⟨hg_2, by omega⟩
        refine W.eq (g2 := F0 m 169 ls []) rfl ?_
        refine lv_aload_n hx hb rd_M_compareSizes_169 rfl (lv_at hl 2 rfl) ?_
        refine va_get (D := (dC, dI)) (ci := 5) (v := .ref (r 5)) (C := rR5) (T := rT5) (N := 7) hx hb hts (fun w h => List.mem_cons_of_mem _ (rin5 w h)) hown hK hP 0 rfl rfl 0 (by decide) (hts _ (List.mem_cons_of_mem _ rm_310)) (fun _ h9 => h9) rfl rd_M_compareSizes_170 ?_
        refine lv_aload_n hx hb rd_M_compareSizes_173 rfl (lv_at hl 2 rfl) ?_
        refine va_get (D := (dC, dI)) (ci := 5) (v := .ref (r 7)) (C := rR5) (T := rT5) (N := 7) hx hb hts (fun w h => List.mem_cons_of_mem _ (rin5 w h)) hown hK hP 0 rfl rfl 1 (by decide) (hts _ (List.mem_cons_of_mem _ rm_311)) (fun _ h9 => h9) rfl rd_M_compareSizes_174 ?_
        refine ef_callV (As := [.ref (r 7)]) (rest := []) ⟨hx, hb, hml, hown, hts⟩ (b_compare l dC dI ht (isB_c (X := x1) (F := f1) (ws := rC cI r (x1) (x2 * 2 ^ k) ((V 2)) ((V 3)) ((V 4)) ((V 5)) ((V 6)) (A1) (U1) (A2) (U2) (f1) (g_1) ((J 2)) ((J 3)) ((J 4)) ((J 5)) ((J 6)) ((J 7)) ((J 8)) ((J 9)) ((J 10)) (pb) (pe) (ob) (oe) (b1) (e1) (b2) (e2)) (k0 := 5) (k1 := 6) (by decide) rfl rfl) hb1.1 hb1.2 (isB_c (X := x2 * 2 ^ k) (F := g_1) (ws := rC cI r (x1) (x2 * 2 ^ k) ((V 2)) ((V 3)) ((V 4)) ((V 5)) ((V 6)) (A1) (U1) (A2) (U2) (f1) (g_1) ((J 2)) ((J 3)) ((J 4)) ((J 5)) ((J 6)) ((J 7)) ((J 8)) ((J 9)) ((J 10)) (pb) (pe) (ob) (oe) (b1) (e1) (b2) (e2)) (k0 := 7) (k1 := 8) (by decide) rfl rfl) hg_2.1 hg_2.2) (cwV 1 hts (ef_goodV rm_386 rm_387 rm_388 rm_25 rm_389) rfl rfl rfl (by decide +kernel) ⟨Nat.le_of_ble_eq_true rfl, Nat.le_of_ble_eq_true rfl⟩) hK hNX hP hD hS 5 rfl rfl rfl rfl hl.1 rfl (Nat.le_of_ble_eq_true rfl) rd_M_compareSizes_177 ⟨Nat.zero_le _, Nat.zero_le _⟩ (fun o w1 H locs hq hP hD hS => ?_)
        obtain ⟨rfl, e9⟩ := hq
        rw [e9] at hP hD
        refine W.eq (g2 := F0 m 180 ls [.int (iv (zc (x1 : Int) ((x2 * 2 ^ k : Nat) : Int)))]) rfl ?_
        exact ef_iret hx hb hr hlocks hP hD hS rd_M_compareSizes_180 (by rw [hz9]; exact ⟨fun i => [(x1), (x2 * 2 ^ k), ((V 2)), ((V 3)), ((V 4)), ((V 5)), ((V 6))].getD i 0, fun i => [(f1), (g_1), ((J 2)), ((J 3)), ((J 4)), ((J 5)), ((J 6)), ((J 7)), ((J 8)), ((J 9)), ((J 10))].getD i (fun _ => 0), _, _, _, _, rfl, rfl, rfl, rfl, rfl, rfl, rJ_of hb1 hg_2 (hJ 2 (by decide)) (hJ 3 (by decide)) (hJ 4 (by decide)) (hJ 5 (by decide)) (hJ 6 (by decide)), kA1, kU1, kA2, kU2⟩)
      ·
        obtain ⟨k, hk⟩ : ∃ k : Nat, e1 = e2 + (k : Int) := ⟨(e1 - e2).toNat, by omega⟩
        have hz9 : zc ((x1 * pw e1 : Nat) : Int) ((x2 * pw e2 : Nat) : Int) = zc ((x1 * 2 ^ k : Nat) : Int) (x2 : Int) := by rw [hk, pw_add (by omega), Nat.mul_comm (pw e2), ← Nat.mul_assoc, zc_mul (pw_pos e2)]
        have hbs := bl_shift n1 k
        have hdn := dn_of_bl (x1 * 2 ^ k)
        refine lv_aload_n hx hb rd_M_compareSizes_134 rfl (lv_at hl 2 rfl) ?_
        refine va_get (D := (dC, dI)) (ci := 5) (v := .ref (r 5)) (C := rR5) (T := rT5) (N := 7) hx hb hts (fun w h => List.mem_cons_of_mem _ (rin5 w h)) hown hK hP 0 rfl rfl 0 (by decide) (hts _ (List.mem_cons_of_mem _ rm_310)) (fun _ h9 => h9) rfl rd_M_compareSizes_135 ?_
        refine lv_aload_n hx hb rd_M_compareSizes_138 rfl (lv_at hl 3 rfl) ?_
        refine va_getN (D := (dC, dI)) (ci := 4) (v := .int (iv (e1))) (C := rR4) (T := rT4) (N := 4) hx hb hts (fun w h => List.mem_cons_of_mem _ (rin4 w h)) hown hK hP 3 rfl rfl 3 (by decide) (hNX.use rm_290 rfl) (fun _ h9 => h9) rfl rd_M_compareSizes_139 ?_
        refine lv_aload_n hx hb rd_M_compareSizes_142 rfl (lv_at hl 4 rfl) ?_
        refine va_getN (D := (dC, dI)) (ci := 4) (v := .int (iv (e2))) (C := rR4) (T := rT4) (N := 4) hx hb hts (fun w h => List.mem_cons_of_mem _ (rin4 w h)) hown hK hP 4 rfl rfl 3 (by decide) (hNX.use rm_290 rfl) (fun _ h9 => h9) rfl rd_M_compareSizes_143 ?_
        refine iw_isub hx hb rd_M_compareSizes_146 ?_
        refine iw_topi (y := iv ((k : Int))) (congrArg iv (by omega : (((e1) - (e2)) : Int) = ((k : Int)))) ?_
        refine ef_callV (As := [.int (iv ((k : Int)))]) (rest := []) ⟨hx, hb, hml, hown, hts⟩ (b_shift l dC dI ht (isB_c (X := x1) (F := f1) (ws := rC cI r (x1) (x2) ((V 2)) ((V 3)) ((V 4)) ((V 5)) ((V 6)) (A1) (U1) (A2) (U2) (f1) (f2) ((J 2)) ((J 3)) ((J 4)) ((J 5)) ((J 6)) ((J 7)) ((J 8)) ((J 9)) ((J 10)) (pb) (pe) (ob) (oe) (b1) (e1) (b2) (e2)) (k0 := 5) (k1 := 6) (by decide) rfl rfl) hb1.1 n1 k (by omega)) (cwV 1 hts (ef_goodV rm_430 rm_431 rm_432 rm_25 rm_433) rfl rfl rfl (by decide +kernel) ⟨Nat.le_of_ble_eq_true rfl, Nat.le_of_ble_eq_true rfl⟩) hK hNX hP hD hS 5 rfl rfl rfl rfl hl.1 rfl (Nat.le_of_ble_eq_true rfl) rd_M_compareSizes_147 ⟨Nat.zero_le _, Nat.zero_le _⟩ (fun o w1 H locs hq hP hD hS => ?_)
        obtain ⟨rfl, g_3, rfl, hg_4⟩ := hq
        have hP : va_P (dC, dI) vwCl (rC cI r (x1 * 2 ^ k) (x2) ((V 2)) ((V 3)) ((V 4)) ((V 5)) ((V 6)) (A1) (U1) (A2) (U2) (g_3) (f2) ((J 2)) ((J 3)) ((J 4)) ((J 5)) ((J 6)) ((J 7)) ((J 8)) ((J 9)) ((J 10)) (pb) (pe) (ob) (oe) (b1) (e1) (b2) (e2)) H := hP
        have hD : va_D (ef_A (rC cI r ((V 0)) ((V 1)) ((V 2)) ((V 3)) ((V 4)) ((V 5)) ((V 6)) (A1) (U1) (A2) (U2) ((J 0)) ((J 1)) ((J 2)) ((J 3)) ((J 4)) ((J 5)) ((J 6)) ((J 7)) ((J 8)) ((J 9)) ((J 10)) (pb) (pe) (ob) (oe) (b1) (e1) (b2) (e2))) (rC cI r (x1 * 2 ^ k) (x2) ((V 2)) ((V 3)) ((V 4)) ((V 5)) ((V 6)) (A1) (U1) (A2) (U2) (g_3) (f2) ((J 2)) ((J 3)) ((J 4)) ((J 5)) ((J 6)) ((J 7)) ((J 8)) ((J 9)) ((J 10)) (pb) (pe) (ob) (oe) (b1) (e1) (b2) (e2)) := hD
        have hg_4 : bk (x1 * 2 ^ k) g_3 := ⟨hg_4, by omega⟩
        refine W.eq (g2 := F0 m 150 ls []) rfl ?_
        refine lv_goto (tgt := 169) hx hb rd_M_compareSizes_150 (by decide) ?_
        refine lv_aload_n hx hb rd_M_compareSizes_169 rfl (lv_at hl 2 rfl) ?_
        refine va_get (D := (dC, dI)) (ci := 5) (v := .ref (r 5)) (C := rR5) (T := rT5) (N := 7) hx hb hts (fun w h => List.mem_cons_of_mem _ (rin5 w h)) hown hK hP 0 rfl rfl 0 (by decide) (hts _ (List.mem_cons_of_mem _ rm_310)) (fun _ h9 => h9) rfl rd_M_compareSizes_170 ?_
        refine lv_aload_n hx hb rd_M_compareSizes_173 rfl (lv_at hl 2 rfl) ?_
        refine va_get (D := (dC, dI)) (ci := 5) (v := .ref (r 7)) (C := rR5) (T := rT5) (N := 7) hx hb hts (fun w h => List.mem_cons_of_mem _ (rin5 w h)) hown hK hP 0 rfl rfl 1 (by decide) (hts _ (List.mem_cons_of_mem _ rm_311)) (fun _ h9 => h9) rfl rd_M_compareSizes_174 ?_
        refine ef_callV (As := [.ref (r 7)]) (rest := []) ⟨hx, hb, hml, hown, hts⟩ (b_compare l dC dI ht (isB_c (X := x1 * 2 ^ k) (F := g_3) (ws := rC cI r (x1 * 2 ^ k) (x2) ((V 2)) ((V 3)) ((V 4)) ((V 5)) ((V 6)) (A1) (U1) (A2) (U2) (g_3) (f2) ((J 2)) ((J 3)) ((J 4)) ((J 5)) ((J 6)) ((J 7)) ((J 8)) ((J 9)) ((J 10)) (pb) (pe) (ob) (oe) (b1) (e1) (b2) (e2)) (k0 := 5) (k1 := 6) (by decide) rfl rfl) hg_4.1 hg_4.2 (isB_c (X := x2) (F := f2) (ws := rC cI r (x1 * 2 ^ k) (x2) ((V 2)) ((V 3)) ((V 4)) ((V 5)) ((V 6)) (A1) (U1) (A2) (U2) (g_3) (f2) ((J 2)) ((J 3)) ((J 4)) ((J 5)) ((J 6)) ((J 7)) ((J 8)) ((J 9)) ((J 10)) (pb) (pe) (ob) (oe) (b1) (e1) (b2) (e2)) (k0 := 7) (k1 := 8) (by decide) rfl rfl) hb2.1 hb2.2) (cwV 1 hts (ef_goodV rm_386 rm_387 rm_388 rm_25 rm_389) rfl rfl rfl (by decide +kernel) ⟨Nat.le_of_ble_eq_true rfl, Nat.le_of_ble_eq_true rfl⟩) hK hNX hP hD hS 5 rfl rfl rfl rfl hl.1 rfl (Nat.le_of_ble_eq_true rfl) rd_M_compareSizes_177 ⟨Nat.zero_le _, Nat.zero_le _⟩ (fun o w1 H locs hq hP hD hS => ?_)
        obtain ⟨rfl, e9⟩ := hq
        rw [e9] at hP hD
        refine W.eq (g2 := F0 m 180 ls [.int (iv (zc ((x1 * 2 ^ k : Nat) : Int) (x2 : Int)))]) rfl ?_
        exact ef_iret hx hb hr hlocks hP hD hS rd_M_compareSizes_180 (by rw [hz9]; exact ⟨fun i => [(x1 * 2 ^ k), (x2), ((V 2)), ((V 3)), ((V 4)), ((V 5)), ((V 6))].getD i 0, fun i => [(g_3), (f2), ((J 2)), ((J 3)), ((J 4)), ((J 5)), ((J 6)), ((J 7)), ((J 8)), ((J 9)), ((J 10))].getD i (fun _ => 0), _, _, _, _, rfl, rfl, rfl, rfl, rfl, rfl, rJ_of hg_4 hb2 (hJ 2 (by decide)) (hJ 3 (by decide)) (hJ 4 (by decide)) (hJ 5 (by decide)) (hJ 6 (by decide)), kA1, kU1, kA2, kU2⟩)
    ·
      refine lv_iload_n hx hb rd_M_compareSizes_111 rfl (lv_at hl 1 rfl) ?_
      refine lv_iload hx hb rd_M_compareSizes_112 (lv_at hl 0 rfl) ?_
      refine iw_icmp_ge (tgt := 121) hx hb rd_M_compareSizes_114 (by decide) ⟨by omega, by omega⟩ ⟨by omega, by omega⟩ (fun c3 => ?_) (fun c3 => ?_)
      ·
        have q3 := cmp_bl (X := x2) (Y := x1) n1 (by omega : -20000 ≤ e2) (by omega : -20000 ≤ e1) (by omega)
        refine lv_iconst (v := iv (1)) hx hb rd_M_compareSizes_121 (by decide) ?_
        exact ef_iret hx hb hr hlocks hP hD hS rd_M_compareSizes_122 (by rw [zc_gt (by omega)]; exact ⟨fun i => [(x1), (x2), ((V 2)), ((V 3)), ((V 4)), ((V 5)), ((V 6))].getD i 0, fun i => [(f1), (f2), ((J 2)), ((J 3)), ((J 4)), ((J 5)), ((J 6)), ((J 7)), ((J 8)), ((J 9)), ((J 10))].getD i (fun _ => 0), _, _, _, _, rfl, rfl, rfl, rfl, rfl, rfl, rJ_of hb1 hb2 (hJ 2 (by decide)) (hJ 3 (by decide)) (hJ 4 (by decide)) (hJ 5 (by decide)) (hJ 6 (by decide)), kA1, kU1, kA2, kU2⟩)
      ·
        have q3 := cmp_bl (X := x1) (Y := x2) n2 (by omega : -20000 ≤ e1) (by omega : -20000 ≤ e2) (by omega)
        refine lv_iconst (v := iv (-1)) hx hb rd_M_compareSizes_117 (by decide) ?_
        refine lv_goto (tgt := 122) hx hb rd_M_compareSizes_118 (by decide) ?_
        exact ef_iret hx hb hr hlocks hP hD hS rd_M_compareSizes_122 (by rw [zc_lt (by omega)]; exact ⟨fun i => [(x1), (x2), ((V 2)), ((V 3)), ((V 4)), ((V 5)), ((V 6))].getD i 0, fun i => [(f1), (f2), ((J 2)), ((J 3)), ((J 4)), ((J 5)), ((J 6)), ((J 7)), ((J 8)), ((J 9)), ((J 10))].getD i (fun _ => 0), _, _, _, _, rfl, rfl, rfl, rfl, rfl, rfl, rJ_of hb1 hb2 (hJ 2 (by decide)) (hJ 3 (by decide)) (hJ 4 (by decide)) (hJ 5 (by decide)) (hJ 6 (by decide)), kA1, kU1, kA2, kU2⟩)
  have j39 : ∀ (x1 : Nat) (f1 : Nat → Nat), (bk x1 f1) → (x1 = A1 * U2) → ∀ (H : Heap) (locs : List Loc) (ls : Array Slot), va_P (dC, dI) vwCl (rC cI r (x1) ((V 1)) ((V 2)) ((V 3)) ((V 4)) ((V 5)) ((V 6)) (A1) (U1) (A2) (U2) (f1) ((J 1)) ((J 2)) ((J 3)) ((J 4)) ((J 5)) ((J 6)) ((J 7)) ((J 8)) ((J 9)) ((J 10)) (pb) (pe) (ob) (oe) (b1) (e1) (b2) (e2)) H → va_D (ef_A (rC cI r ((V 0)) ((V 1)) ((V 2)) ((V 3)) ((V 4)) ((V 5)) ((V 6)) (A1) (U1) (A2) (U2) ((J 0)) ((J 1)) ((J 2)) ((J 3)) ((J 4)) ((J 5)) ((J 6)) ((J 7)) ((J 8)) ((J 9)) ((J 10)) (pb) (pe) (ob) (oe) (b1) (e1) (b2) (e2))) (rC cI r (x1) ((V 1)) ((V 2)) ((V 3)) ((V 4)) ((V 5)) ((V 6)) (A1) (U1) (A2) (U2) (f1) ((J 1)) ((J 2)) ((J 3)) ((J 4)) ((J 5)) ((J 6)) ((J 7)) ((J 8)) ((J 9)) ((J 10)) (pb) (pe) (ob) (oe) (b1) (e1) (b2) (e2)) → va_S (ef_A (rC cI r ((V 0)) ((V 1)) ((V 2)) ((V 3)) ((V 4)) ((V 5)) ((V 6)) (A1) (U1) (A2) (U2) ((J 0)) ((J 1)) ((J 2)) ((J 3)) ((J 4)) ((J 5)) ((J 6)) ((J 7)) ((J 8)) ((J 9)) ((J 10)) (pb) (pe) (ob) (oe) (b1) (e1) (b2) (e2))) s.heap H locs → lv_has ls 5 [(0, .ref (r 0)), (1, .ref (r 3)), (2, .ref (r 4))] → W p l e ({ frames := 2, cells := 0, slots := 0, locals := 51 } : Room) s m ([.ref (r 0), .ref (r 3), .ref (r 4)] : List Value).toArray below meth c H locs 0 0 (ef_R below (dC, dI) vwCl (rC cI r ((V 0)) ((V 1)) ((V 2)) ((V 3)) ((V 4)) ((V 5)) ((V 6)) (A1) (U1) (A2) (U2) ((J 0)) ((J 1)) ((J 2)) ((J 3)) ((J 4)) ((J 5)) ((J 6)) ((J 7)) ((J 8)) ((J 9)) ((J 10)) (pb) (pe) (ob) (oe) (b1) (e1) (b2) (e2)) (fun o w1 => ∃ (V2 : Nat → Nat) (J2 : Nat → Nat → Nat) (pb2 pe2 ob2 oe2 : Int), V2 5 = V 5 ∧ V2 6 = V 6 ∧ ob2 = ob ∧ oe2 = oe ∧ o = some (.int (iv (scmp A1 U1 e1 A2 U2 e2))) ∧ w1 = rC cI r (V2 0) (V2 1) (V2 2) (V2 3) (V2 4) (V2 5) (V2 6) (A1) (U1) (A2) (U2) (J2 0) (J2 1) (J2 2) (J2 3) (J2 4) (J2 5) (J2 6) (J2 7) (J2 8) (J2 9) (J2 10) (pb2) (pe2) (ob2) (oe2) (b1) (e1) (b2) (e2) ∧ rJ V2 J2 ∧ bk (A1) (J2 7) ∧ bk (U1) (J2 8) ∧ bk (A2) (J2 9) ∧ bk (U2) (J2 10)) [.ref (r 0), .ref (r 3), .ref (r 4)] s) (F0 m 39 ls []) := by
    intro x1 f1 hb1 hx1 H locs ls hP hD hS hl
    refine lv_aload_n hx hb rd_M_compareSizes_39 rfl (lv_at hl 1 rfl) ?_
    refine va_getN (D := (dC, dI)) (ci := 4) (v := .ref (r 21)) (C := rR4) (T := rT4) (N := 4) hx hb hts (fun w h => List.mem_cons_of_mem _ (rin4 w h)) hown hK hP 3 rfl rfl 2 (by decide) (hNX.use rm_288 rfl) (fun _ h9 => h9) rfl rd_M_compareSizes_40 ?_
    refine ef_callV (As := []) (rest := []) ⟨hx, hb, hml, hown, hts⟩ (b_isOne l dC dI ht (isB_c (X := U1) (F := (J 8)) (ws := rC cI r (x1) ((V 1)) ((V 2)) ((V 3)) ((V 4)) ((V 5)) ((V 6)) (A1) (U1) (A2) (U2) (f1) ((J 1)) ((J 2)) ((J 3)) ((J 4)) ((J 5)) ((J 6)) ((J 7)) ((J 8)) ((J 9)) ((J 10)) (pb) (pe) (ob) (oe) (b1) (e1) (b2) (e2)) (k0 := 21) (k1 := 22) (by decide) rfl rfl) kU1.1 kU1.2) (cwV 0 hts (ef_goodV rm_422 rm_423 rm_424 rm_25 rm_425) rfl rfl rfl (by decide +kernel) ⟨Nat.le_of_ble_eq_true rfl, Nat.le_of_ble_eq_true rfl⟩) hK hNX hP hD hS 21 rfl rfl rfl rfl hl.1 rfl (Nat.le_of_ble_eq_true rfl) rd_M_compareSizes_43 ⟨Nat.zero_le _, Nat.zero_le _⟩ (fun o w1 H locs hq hP hD hS => ?_)
    obtain ⟨rfl, e9⟩ := hq
    rw [e9] at hP hD
    refine W.eq (g2 := F0 m 46 ls [.int (iv (if U1 = 1 then 1 else 0))]) rfl ?_
    have hc0 : ir (if U1 = 1 then 1 else 0) := by split <;> exact ⟨by omega, by omega⟩
    refine iw_if_eq (tgt := 63) hx hb rd_M_compareSizes_46 (by decide) (hc0) (fun d1 => ?_) (fun d1 => ?_)
    ·
      have hq1 : U1 ≠ 1 := fun q => by rw [if_pos q] at d1; exact absurd d1 (by decide)
      have nPx : A2 ≠ 0 := by assumption
      have nQx : U1 ≠ 0 := by assumption
      have wp1 := dn_of_bl A2
      have wp2 := dn_of_bl U1
      have wp3 := dn_of_bl (A2 * U1)
      have wp4 := bl_mul_le A2 U1
      refine lv_aload_n hx hb rd_M_compareSizes_63 rfl (lv_at hl 0 rfl) ?_
      refine va_get (D := (dC, dI)) (ci := 5) (v := .ref (r 7)) (C := rR5) (T := rT5) (N := 7) hx hb hts (fun w h => List.mem_cons_of_mem _ (rin5 w h)) hown hK hP 0 rfl rfl 1 (by decide) (hts _ (List.mem_cons_of_mem _ rm_311)) (fun _ h9 => h9) rfl rd_M_compareSizes_64 ?_
      refine lv_aload_n hx hb rd_M_compareSizes_67 rfl (lv_at hl 2 rfl) ?_
      refine va_getN (D := (dC, dI)) (ci := 4) (v := .ref (r 23)) (C := rR4) (T := rT4) (N := 4) hx hb hts (fun w h => List.mem_cons_of_mem _ (rin4 w h)) hown hK hP 4 rfl rfl 1 (by decide) (hNX.use rm_287 rfl) (fun _ h9 => h9) rfl rd_M_compareSizes_68 ?_
      refine lv_aload_n hx hb rd_M_compareSizes_71 rfl (lv_at hl 1 rfl) ?_
      refine va_getN (D := (dC, dI)) (ci := 4) (v := .ref (r 21)) (C := rR4) (T := rT4) (N := 4) hx hb hts (fun w h => List.mem_cons_of_mem _ (rin4 w h)) hown hK hP 3 rfl rfl 2 (by decide) (hNX.use rm_288 rfl) (fun _ h9 => h9) rfl rd_M_compareSizes_72 ?_
      refine ef_callV (As := [.ref (r 23), .ref (r 21)]) (rest := []) ⟨hx, hb, hml, hown, hts⟩ (b_product l dC dI ht (isB_c (X := (V 1)) (F := (J 1)) (ws := rC cI r (x1) ((V 1)) ((V 2)) ((V 3)) ((V 4)) ((V 5)) ((V 6)) (A1) (U1) (A2) (U2) (f1) ((J 1)) ((J 2)) ((J 3)) ((J 4)) ((J 5)) ((J 6)) ((J 7)) ((J 8)) ((J 9)) ((J 10)) (pb) (pe) (ob) (oe) (b1) (e1) (b2) (e2)) (k0 := 7) (k1 := 8) (by decide) rfl rfl) (isB_c (X := A2) (F := (J 9)) (ws := rC cI r (x1) ((V 1)) ((V 2)) ((V 3)) ((V 4)) ((V 5)) ((V 6)) (A1) (U1) (A2) (U2) (f1) ((J 1)) ((J 2)) ((J 3)) ((J 4)) ((J 5)) ((J 6)) ((J 7)) ((J 8)) ((J 9)) ((J 10)) (pb) (pe) (ob) (oe) (b1) (e1) (b2) (e2)) (k0 := 23) (k1 := 24) (by decide) rfl rfl) kA2.1 (apt_c (k0 := 7) (k1 := 8) (j0 := 23) (j1 := 24) rfl) (isB_c (X := U1) (F := (J 8)) (ws := rC cI r (x1) ((V 1)) ((V 2)) ((V 3)) ((V 4)) ((V 5)) ((V 6)) (A1) (U1) (A2) (U2) (f1) ((J 1)) ((J 2)) ((J 3)) ((J 4)) ((J 5)) ((J 6)) ((J 7)) ((J 8)) ((J 9)) ((J 10)) (pb) (pe) (ob) (oe) (b1) (e1) (b2) (e2)) (k0 := 21) (k1 := 22) (by decide) rfl rfl) kU1.1 (apt_c (k0 := 7) (k1 := 8) (j0 := 21) (j1 := 22) rfl) nPx nQx (by omega)) (cwV 2 hts (ef_goodV rm_426 rm_427 rm_428 rm_25 rm_429) rfl rfl rfl (by decide +kernel) ⟨Nat.le_of_ble_eq_true rfl, Nat.le_of_ble_eq_true rfl⟩) hK hNX hP hD hS 7 rfl rfl rfl rfl hl.1 rfl (Nat.le_of_ble_eq_true rfl) rd_M_compareSizes_75 ⟨Nat.zero_le _, Nat.zero_le _⟩ (fun o w1 H locs hq hP hD hS => ?_)
      obtain ⟨rfl, g_5, rfl, hg_6⟩ := hq
      have hP : va_P (dC, dI) vwCl (rC cI r (x1) (A2 * U1) ((V 2)) ((V 3)) ((V 4)) ((V 5)) ((V 6)) (A1) (U1) (A2) (U2) (f1) (g_5) ((J 2)) ((J 3)) ((J 4)) ((J 5)) ((J 6)) ((J 7)) ((J 8)) ((J 9)) ((J 10)) (pb) (pe) (ob) (oe) (b1) (e1) (b2) (e2)) H := hP
      have hD : va_D (ef_A (rC cI r ((V 0)) ((V 1)) ((V 2)) ((V 3)) ((V 4)) ((V 5)) ((V 6)) (A1) (U1) (A2) (U2) ((J 0)) ((J 1)) ((J 2)) ((J 3)) ((J 4)) ((J 5)) ((J 6)) ((J 7)) ((J 8)) ((J 9)) ((J 10)) (pb) (pe) (ob) (oe) (b1) (e1) (b2) (e2))) (rC cI r (x1) (A2 * U1) ((V 2)) ((V 3)) ((V 4)) ((V 5)) ((V 6)) (A1) (U1) (A2) (U2) (f1) (g_5) ((J 2)) ((J 3)) ((J 4)) ((J 5)) ((J 6)) ((J 7)) ((J 8)) ((J 9)) ((J 10)) (pb) (pe) (ob) (oe) (b1) (e1) (b2) (e2)) := hD
      have hg_6 : bk (A2 * U1) g_5 := ⟨hg_6, by omega⟩
      refine W.eq (g2 := F0 m 78 ls []) rfl ?_
      exact j78 (x1) (f1) (A2 * U1) (g_5) (hb1) (hx1) (hg_6) (rfl) H locs ls hP hD hS (lv_sub hl [0, 1, 2] rfl)
    ·
      have hq1 : U1 = 1 := by
        by_cases q : U1 = 1
        · exact q
        · rw [if_neg q] at d1; exact absurd rfl d1
      refine lv_aload_n hx hb rd_M_compareSizes_49 rfl (lv_at hl 0 rfl) ?_
      refine va_get (D := (dC, dI)) (ci := 5) (v := .ref (r 7)) (C := rR5) (T := rT5) (N := 7) hx hb hts (fun w h => List.mem_cons_of_mem _ (rin5 w h)) hown hK hP 0 rfl rfl 1 (by decide) (hts _ (List.mem_cons_of_mem _ rm_311)) (fun _ h9 => h9) rfl rd_M_compareSizes_50 ?_
      refine lv_aload_n hx hb rd_M_compareSizes_53 rfl (lv_at hl 2 rfl) ?_
      refine va_getN (D := (dC, dI)) (ci := 4) (v := .ref (r 23)) (C := rR4) (T := rT4) (N := 4) hx hb hts (fun w h => List.mem_cons_of_mem _ (rin4 w h)) hown hK hP 4 rfl rfl 1 (by decide) (hNX.use rm_287 rfl) (fun _ h9 => h9) rfl rd_M_compareSizes_54 ?_
      refine ef_callV (As := [.ref (r 23)]) (rest := []) ⟨hx, hb, hml, hown, hts⟩ (b_copy l dC dI ht (isB_c (X := (V 1)) (F := (J 1)) (ws := rC cI r (x1) ((V 1)) ((V 2)) ((V 3)) ((V 4)) ((V 5)) ((V 6)) (A1) (U1) (A2) (U2) (f1) ((J 1)) ((J 2)) ((J 3)) ((J 4)) ((J 5)) ((J 6)) ((J 7)) ((J 8)) ((J 9)) ((J 10)) (pb) (pe) (ob) (oe) (b1) (e1) (b2) (e2)) (k0 := 7) (k1 := 8) (by decide) rfl rfl) (isB_c (X := A2) (F := (J 9)) (ws := rC cI r (x1) ((V 1)) ((V 2)) ((V 3)) ((V 4)) ((V 5)) ((V 6)) (A1) (U1) (A2) (U2) (f1) ((J 1)) ((J 2)) ((J 3)) ((J 4)) ((J 5)) ((J 6)) ((J 7)) ((J 8)) ((J 9)) ((J 10)) (pb) (pe) (ob) (oe) (b1) (e1) (b2) (e2)) (k0 := 23) (k1 := 24) (by decide) rfl rfl) kA2.1 kA2.2 (apt_c (k0 := 7) (k1 := 8) (j0 := 23) (j1 := 24) rfl)) (cwV 1 hts (ef_goodV rm_352 rm_353 rm_354 rm_25 rm_355) rfl rfl rfl (by decide +kernel) ⟨Nat.le_of_ble_eq_true rfl, Nat.le_of_ble_eq_true rfl⟩) hK hNX hP hD hS 7 rfl rfl rfl rfl hl.1 rfl (Nat.le_of_ble_eq_true rfl) rd_M_compareSizes_57 ⟨Nat.zero_le _, Nat.zero_le _⟩ (fun o w1 H locs hq hP hD hS => ?_)
      obtain ⟨rfl, g_7, rfl, hg_8⟩ := hq
      have hP : va_P (dC, dI) vwCl (rC cI r (x1) (A2) ((V 2)) ((V 3)) ((V 4)) ((V 5)) ((V 6)) (A1) (U1) (A2) (U2) (f1) (g_7) ((J 2)) ((J 3)) ((J 4)) ((J 5)) ((J 6)) ((J 7)) ((J 8)) ((J 9)) ((J 10)) (pb) (pe) (ob) (oe) (b1) (e1) (b2) (e2)) H := hP
      have hD : va_D (ef_A (rC cI r ((V 0)) ((V 1)) ((V 2)) ((V 3)) ((V 4)) ((V 5)) ((V 6)) (A1) (U1) (A2) (U2) ((J 0)) ((J 1)) ((J 2)) ((J 3)) ((J 4)) ((J 5)) ((J 6)) ((J 7)) ((J 8)) ((J 9)) ((J 10)) (pb) (pe) (ob) (oe) (b1) (e1) (b2) (e2))) (rC cI r (x1) (A2) ((V 2)) ((V 3)) ((V 4)) ((V 5)) ((V 6)) (A1) (U1) (A2) (U2) (f1) (g_7) ((J 2)) ((J 3)) ((J 4)) ((J 5)) ((J 6)) ((J 7)) ((J 8)) ((J 9)) ((J 10)) (pb) (pe) (ob) (oe) (b1) (e1) (b2) (e2)) := hD
      have hg_8 : bk (A2) g_7 := ⟨hg_8, kA2.2⟩
      refine W.eq (g2 := F0 m 60 ls []) rfl ?_
      refine lv_goto (tgt := 78) hx hb rd_M_compareSizes_60 (by decide) ?_
      exact j78 (x1) (f1) (A2) (g_7) (hb1) (hx1) (hg_8) (by rw [hq1, Nat.mul_one]) H locs ls hP hD hS (lv_sub hl [0, 1, 2] rfl)
  refine lv_aload_n hx hb rd_M_compareSizes_0 rfl (lv_at hl 2 rfl) ?_
  refine va_getN (D := (dC, dI)) (ci := 4) (v := .ref (r 25)) (C := rR4) (T := rT4) (N := 4) hx hb hts (fun w h => List.mem_cons_of_mem _ (rin4 w h)) hown hK hP 4 rfl rfl 2 (by decide) (hNX.use rm_288 rfl) (fun _ h9 => h9) rfl rd_M_compareSizes_1 ?_
  refine ef_callV (As := []) (rest := []) ⟨hx, hb, hml, hown, hts⟩ (b_isOne l dC dI ht (isB_c (X := U2) (F := (J 10)) (ws := rC cI r ((V 0)) ((V 1)) ((V 2)) ((V 3)) ((V 4)) ((V 5)) ((V 6)) (A1) (U1) (A2) (U2) ((J 0)) ((J 1)) ((J 2)) ((J 3)) ((J 4)) ((J 5)) ((J 6)) ((J 7)) ((J 8)) ((J 9)) ((J 10)) (pb) (pe) (ob) (oe) (b1) (e1) (b2) (e2)) (k0 := 25) (k1 := 26) (by decide) rfl rfl) kU2.1 kU2.2) (cwV 0 hts (ef_goodV rm_422 rm_423 rm_424 rm_25 rm_425) rfl rfl rfl (by decide +kernel) ⟨Nat.le_of_ble_eq_true rfl, Nat.le_of_ble_eq_true rfl⟩) hK hNX hP hD hS 25 rfl rfl rfl rfl hl.1 rfl (Nat.le_of_ble_eq_true rfl) rd_M_compareSizes_4 ⟨Nat.zero_le _, Nat.zero_le _⟩ (fun o w1 H locs hq hP hD hS => ?_)
  obtain ⟨rfl, e9⟩ := hq
  rw [e9] at hP hD
  refine W.eq (g2 := F0 m 7 ls [.int (iv (if U2 = 1 then 1 else 0))]) rfl ?_
  have hc0 : ir (if U2 = 1 then 1 else 0) := by split <;> exact ⟨by omega, by omega⟩
  refine iw_if_eq (tgt := 24) hx hb rd_M_compareSizes_7 (by decide) (hc0) (fun d1 => ?_) (fun d1 => ?_)
  ·
    have hq1 : U2 ≠ 1 := fun q => by rw [if_pos q] at d1; exact absurd d1 (by decide)
    have nPx : A1 ≠ 0 := by assumption
    have nQx : U2 ≠ 0 := by assumption
    have wp1 := dn_of_bl A1
    have wp2 := dn_of_bl U2
    have wp3 := dn_of_bl (A1 * U2)
    have wp4 := bl_mul_le A1 U2
    refine lv_aload_n hx hb rd_M_compareSizes_24 rfl (lv_at hl 0 rfl) ?_
    refine va_get (D := (dC, dI)) (ci := 5) (v := .ref (r 5)) (C := rR5) (T := rT5) (N := 7) hx hb hts (fun w h => List.mem_cons_of_mem _ (rin5 w h)) hown hK hP 0 rfl rfl 0 (by decide) (hts _ (List.mem_cons_of_mem _ rm_310)) (fun _ h9 => h9) rfl rd_M_compareSizes_25 ?_
    refine lv_aload_n hx hb rd_M_compareSizes_28 rfl (lv_at hl 1 rfl) ?_
    refine va_getN (D := (dC, dI)) (ci := 4) (v := .ref (r 19)) (C := rR4) (T := rT4) (N := 4) hx hb hts (fun w h => List.mem_cons_of_mem _ (rin4 w h)) hown hK hP 3 rfl rfl 1 (by decide) (hNX.use rm_287 rfl) (fun _ h9 => h9) rfl rd_M_compareSizes_29 ?_
    refine lv_aload_n hx hb rd_M_compareSizes_32 rfl (lv_at hl 2 rfl) ?_
    refine va_getN (D := (dC, dI)) (ci := 4) (v := .ref (r 25)) (C := rR4) (T := rT4) (N := 4) hx hb hts (fun w h => List.mem_cons_of_mem _ (rin4 w h)) hown hK hP 4 rfl rfl 2 (by decide) (hNX.use rm_288 rfl) (fun _ h9 => h9) rfl rd_M_compareSizes_33 ?_
    refine ef_callV (As := [.ref (r 19), .ref (r 25)]) (rest := []) ⟨hx, hb, hml, hown, hts⟩ (b_product l dC dI ht (isB_c (X := (V 0)) (F := (J 0)) (ws := rC cI r ((V 0)) ((V 1)) ((V 2)) ((V 3)) ((V 4)) ((V 5)) ((V 6)) (A1) (U1) (A2) (U2) ((J 0)) ((J 1)) ((J 2)) ((J 3)) ((J 4)) ((J 5)) ((J 6)) ((J 7)) ((J 8)) ((J 9)) ((J 10)) (pb) (pe) (ob) (oe) (b1) (e1) (b2) (e2)) (k0 := 5) (k1 := 6) (by decide) rfl rfl) (isB_c (X := A1) (F := (J 7)) (ws := rC cI r ((V 0)) ((V 1)) ((V 2)) ((V 3)) ((V 4)) ((V 5)) ((V 6)) (A1) (U1) (A2) (U2) ((J 0)) ((J 1)) ((J 2)) ((J 3)) ((J 4)) ((J 5)) ((J 6)) ((J 7)) ((J 8)) ((J 9)) ((J 10)) (pb) (pe) (ob) (oe) (b1) (e1) (b2) (e2)) (k0 := 19) (k1 := 20) (by decide) rfl rfl) kA1.1 (apt_c (k0 := 5) (k1 := 6) (j0 := 19) (j1 := 20) rfl) (isB_c (X := U2) (F := (J 10)) (ws := rC cI r ((V 0)) ((V 1)) ((V 2)) ((V 3)) ((V 4)) ((V 5)) ((V 6)) (A1) (U1) (A2) (U2) ((J 0)) ((J 1)) ((J 2)) ((J 3)) ((J 4)) ((J 5)) ((J 6)) ((J 7)) ((J 8)) ((J 9)) ((J 10)) (pb) (pe) (ob) (oe) (b1) (e1) (b2) (e2)) (k0 := 25) (k1 := 26) (by decide) rfl rfl) kU2.1 (apt_c (k0 := 5) (k1 := 6) (j0 := 25) (j1 := 26) rfl) nPx nQx (by omega)) (cwV 2 hts (ef_goodV rm_426 rm_427 rm_428 rm_25 rm_429) rfl rfl rfl (by decide +kernel) ⟨Nat.le_of_ble_eq_true rfl, Nat.le_of_ble_eq_true rfl⟩) hK hNX hP hD hS 5 rfl rfl rfl rfl hl.1 rfl (Nat.le_of_ble_eq_true rfl) rd_M_compareSizes_36 ⟨Nat.zero_le _, Nat.zero_le _⟩ (fun o w1 H locs hq hP hD hS => ?_)
    obtain ⟨rfl, g_9, rfl, hg_10⟩ := hq
    have hP : va_P (dC, dI) vwCl (rC cI r (A1 * U2) ((V 1)) ((V 2)) ((V 3)) ((V 4)) ((V 5)) ((V 6)) (A1) (U1) (A2) (U2) (g_9) ((J 1)) ((J 2)) ((J 3)) ((J 4)) ((J 5)) ((J 6)) ((J 7)) ((J 8)) ((J 9)) ((J 10)) (pb) (pe) (ob) (oe) (b1) (e1) (b2) (e2)) H := hP
    have hD : va_D (ef_A (rC cI r ((V 0)) ((V 1)) ((V 2)) ((V 3)) ((V 4)) ((V 5)) ((V 6)) (A1) (U1) (A2) (U2) ((J 0)) ((J 1)) ((J 2)) ((J 3)) ((J 4)) ((J 5)) ((J 6)) ((J 7)) ((J 8)) ((J 9)) ((J 10)) (pb) (pe) (ob) (oe) (b1) (e1) (b2) (e2))) (rC cI r (A1 * U2) ((V 1)) ((V 2)) ((V 3)) ((V 4)) ((V 5)) ((V 6)) (A1) (U1) (A2) (U2) (g_9) ((J 1)) ((J 2)) ((J 3)) ((J 4)) ((J 5)) ((J 6)) ((J 7)) ((J 8)) ((J 9)) ((J 10)) (pb) (pe) (ob) (oe) (b1) (e1) (b2) (e2)) := hD
    have hg_10 : bk (A1 * U2) g_9 := ⟨hg_10, by omega⟩
    refine W.eq (g2 := F0 m 39 ls []) rfl ?_
    exact j39 (A1 * U2) (g_9) (hg_10) (rfl) H locs ls hP hD hS (lv_sub hl [0, 1, 2] rfl)
  ·
    have hq1 : U2 = 1 := by
      by_cases q : U2 = 1
      · exact q
      · rw [if_neg q] at d1; exact absurd rfl d1
    refine lv_aload_n hx hb rd_M_compareSizes_10 rfl (lv_at hl 0 rfl) ?_
    refine va_get (D := (dC, dI)) (ci := 5) (v := .ref (r 5)) (C := rR5) (T := rT5) (N := 7) hx hb hts (fun w h => List.mem_cons_of_mem _ (rin5 w h)) hown hK hP 0 rfl rfl 0 (by decide) (hts _ (List.mem_cons_of_mem _ rm_310)) (fun _ h9 => h9) rfl rd_M_compareSizes_11 ?_
    refine lv_aload_n hx hb rd_M_compareSizes_14 rfl (lv_at hl 1 rfl) ?_
    refine va_getN (D := (dC, dI)) (ci := 4) (v := .ref (r 19)) (C := rR4) (T := rT4) (N := 4) hx hb hts (fun w h => List.mem_cons_of_mem _ (rin4 w h)) hown hK hP 3 rfl rfl 1 (by decide) (hNX.use rm_287 rfl) (fun _ h9 => h9) rfl rd_M_compareSizes_15 ?_
    refine ef_callV (As := [.ref (r 19)]) (rest := []) ⟨hx, hb, hml, hown, hts⟩ (b_copy l dC dI ht (isB_c (X := (V 0)) (F := (J 0)) (ws := rC cI r ((V 0)) ((V 1)) ((V 2)) ((V 3)) ((V 4)) ((V 5)) ((V 6)) (A1) (U1) (A2) (U2) ((J 0)) ((J 1)) ((J 2)) ((J 3)) ((J 4)) ((J 5)) ((J 6)) ((J 7)) ((J 8)) ((J 9)) ((J 10)) (pb) (pe) (ob) (oe) (b1) (e1) (b2) (e2)) (k0 := 5) (k1 := 6) (by decide) rfl rfl) (isB_c (X := A1) (F := (J 7)) (ws := rC cI r ((V 0)) ((V 1)) ((V 2)) ((V 3)) ((V 4)) ((V 5)) ((V 6)) (A1) (U1) (A2) (U2) ((J 0)) ((J 1)) ((J 2)) ((J 3)) ((J 4)) ((J 5)) ((J 6)) ((J 7)) ((J 8)) ((J 9)) ((J 10)) (pb) (pe) (ob) (oe) (b1) (e1) (b2) (e2)) (k0 := 19) (k1 := 20) (by decide) rfl rfl) kA1.1 kA1.2 (apt_c (k0 := 5) (k1 := 6) (j0 := 19) (j1 := 20) rfl)) (cwV 1 hts (ef_goodV rm_352 rm_353 rm_354 rm_25 rm_355) rfl rfl rfl (by decide +kernel) ⟨Nat.le_of_ble_eq_true rfl, Nat.le_of_ble_eq_true rfl⟩) hK hNX hP hD hS 5 rfl rfl rfl rfl hl.1 rfl (Nat.le_of_ble_eq_true rfl) rd_M_compareSizes_18 ⟨Nat.zero_le _, Nat.zero_le _⟩ (fun o w1 H locs hq hP hD hS => ?_)
    obtain ⟨rfl, g_11, rfl, hg_12⟩ := hq
    have hP : va_P (dC, dI) vwCl (rC cI r (A1) ((V 1)) ((V 2)) ((V 3)) ((V 4)) ((V 5)) ((V 6)) (A1) (U1) (A2) (U2) (g_11) ((J 1)) ((J 2)) ((J 3)) ((J 4)) ((J 5)) ((J 6)) ((J 7)) ((J 8)) ((J 9)) ((J 10)) (pb) (pe) (ob) (oe) (b1) (e1) (b2) (e2)) H := hP
    have hD : va_D (ef_A (rC cI r ((V 0)) ((V 1)) ((V 2)) ((V 3)) ((V 4)) ((V 5)) ((V 6)) (A1) (U1) (A2) (U2) ((J 0)) ((J 1)) ((J 2)) ((J 3)) ((J 4)) ((J 5)) ((J 6)) ((J 7)) ((J 8)) ((J 9)) ((J 10)) (pb) (pe) (ob) (oe) (b1) (e1) (b2) (e2))) (rC cI r (A1) ((V 1)) ((V 2)) ((V 3)) ((V 4)) ((V 5)) ((V 6)) (A1) (U1) (A2) (U2) (g_11) ((J 1)) ((J 2)) ((J 3)) ((J 4)) ((J 5)) ((J 6)) ((J 7)) ((J 8)) ((J 9)) ((J 10)) (pb) (pe) (ob) (oe) (b1) (e1) (b2) (e2)) := hD
    have hg_12 : bk (A1) g_11 := ⟨hg_12, kA1.2⟩
    refine W.eq (g2 := F0 m 21 ls []) rfl ?_
    refine lv_goto (tgt := 39) hx hb rd_M_compareSizes_21 (by decide) ?_
    exact j39 (A1) (g_11) (hg_12) (by rw [hq1, Nat.mul_one]) H locs ls hP hD hS (lv_sub hl [0, 1, 2] rfl)

set_option maxRecDepth 100000 in
set_option maxHeartbeats 4000000 in
/-- compareSizes -/
theorem r_sizesP0 (l : Launch) (dC : Nat → ClassId) (dI : Nat → Nat → Nat) {cI : ClassId} {tys : List (ClassId × FieldType)} (ht : tys[0]? = some (cI, .int)) (r : Nat → Nat) {V : Nat → Nat} {J : Nat → Nat → Nat} {A1 U1 A2 U2 : Nat} {pb pe ob oe b1 e1 b2 e2 : Int} (hJ : rJ V J) (kA1 : bk A1 (J 7)) (kU1 : bk U1 (J 8)) (kA2 : bk A2 (J 9)) (kU2 : bk U2 (J 10)) (mA1 : dn A1 ≤ 300) (mU1 : dn U1 ≤ 300) (mA2 : dn A2 ≤ 300) (mU2 : dn U2 ≤ 300) (nPa : (V 3) ≠ 0) (nPb : A1 ≠ 0) (nQa : (V 4) ≠ 0) (nQb : U1 ≠ 0) (bPa : bl (V 3) ≤ 4800) (bQa : bl (V 4) ≤ 4800) (bPb : bl A1 ≤ 4800) (bQb : bl U1 ≤ 4800) (lea : -12000 ≤ pe) (gea : pe ≤ 12000) (leb : -12000 ≤ e1) (geb : e1 ≤ 12000) : ef_C l ry_M_compareSizes rw_M_compareSizes ({ frames := 2, cells := 0, slots := 0, locals := 51 } : Room) [.ref (r 0), .ref (r 1), .ref (r 3)] (dC, dI) vwCl tys (rC cI r ((V 0)) ((V 1)) ((V 2)) ((V 3)) ((V 4)) ((V 5)) ((V 6)) (A1) (U1) (A2) (U2) ((J 0)) ((J 1)) ((J 2)) ((J 3)) ((J 4)) ((J 5)) ((J 6)) ((J 7)) ((J 8)) ((J 9)) ((J 10)) (pb) (pe) (ob) (oe) (b1) (e1) (b2) (e2)) (fun o w1 => ∃ (V2 : Nat → Nat) (J2 : Nat → Nat → Nat) (pb2 pe2 ob2 oe2 : Int), V2 5 = V 5 ∧ V2 6 = V 6 ∧ ob2 = ob ∧ oe2 = oe ∧ o = some (.int (iv (scmp (V 3) (V 4) pe A1 U1 e1))) ∧ w1 = rC cI r (V2 0) (V2 1) (V2 2) (V2 3) (V2 4) (V2 5) (V2 6) (A1) (U1) (A2) (U2) (J2 0) (J2 1) (J2 2) (J2 3) (J2 4) (J2 5) (J2 6) (J2 7) (J2 8) (J2 9) (J2 10) (pb2) (pe2) (ob2) (oe2) (b1) (e1) (b2) (e2) ∧ rJ V2 J2 ∧ bk (A1) (J2 7) ∧ bk (U1) (J2 8) ∧ bk (A2) (J2 9) ∧ bk (U2) (J2 10)) := by
  refine ef_C.of (cc := rc_M_compareSizes) (maxL := 5) (ret := (some .int)) (by decide) rfl (Nat.le_of_ble_eq_true rfl) ?_
  intro p e s m below meth c ls hx hb hml hr hts hown hlocks hK hNX hP hD hS hl
  have hl : lv_has ls 5 [(0, .ref (r 0)), (1, .ref (r 1)), (2, .ref (r 3))] := hl
  have hown : s.vm.findClass rR5 = some m.cls := hown
  generalize hH : s.heap = H at hP ⊢
  have hS : va_S (ef_A (rC cI r ((V 0)) ((V 1)) ((V 2)) ((V 3)) ((V 4)) ((V 5)) ((V 6)) (A1) (U1) (A2) (U2) ((J 0)) ((J 1)) ((J 2)) ((J 3)) ((J 4)) ((J 5)) ((J 6)) ((J 7)) ((J 8)) ((J 9)) ((J 10)) (pb) (pe) (ob) (oe) (b1) (e1) (b2) (e2))) s.heap H [] := by rw [← hH]; exact hS
  generalize ([] : List Loc) = locs at hS ⊢
  have m1 := bl_mul_le (V 3) U1
  have m2 := bl_mul_le A1 (V 4)
  have j78 : ∀ (x1 : Nat) (f1 : Nat → Nat) (x2 : Nat) (f2 : Nat → Nat), (bk x1 f1) → (x1 = (V 3) * U1) → (bk x2 f2) → (x2 = A1 * (V 4)) → ∀ (H : Heap) (locs : List Loc) (ls : Array Slot), va_P (dC, dI) vwCl (rC cI r (x1) (x2) ((V 2)) ((V 3)) ((V 4)) ((V 5)) ((V 6)) (A1) (U1) (A2) (U2) (f1) (f2) ((J 2)) ((J 3)) ((J 4)) ((J 5)) ((J 6)) ((J 7)) ((J 8)) ((J 9)) ((J 10)) (pb) (pe) (ob) (oe) (b1) (e1) (b2) (e2)) H → va_D (ef_A (rC cI r ((V 0)) ((V 1)) ((V 2)) ((V 3)) ((V 4)) ((V 5)) ((V 6)) (A1) (U1) (A2) (U2) ((J 0)) ((J 1)) ((J 2)) ((J 3)) ((J 4)) ((J 5)) ((J 6)) ((J 7)) ((J 8)) ((J 9)) ((J 10)) (pb) (pe) (ob) (oe) (b1) (e1) (b2) (e2))) (rC cI r (x1) (x2) ((V 2)) ((V 3)) ((V 4)) ((V 5)) ((V 6)) (A1) (U1) (A2) (U2) (f1) (f2) ((J 2)) ((J 3)) ((J 4)) ((J 5)) ((J 6)) ((J 7)) ((J 8)) ((J 9)) ((J 10)) (pb) (pe) (ob) (oe) (b1) (e1) (b2) (e2)) → va_S (ef_A (rC cI r ((V 0)) ((V 1)) ((V 2)) ((V 3)) ((V 4)) ((V 5)) ((V 6)) (A1) (U1) (A2) (U2) ((J 0)) ((J 1)) ((J 2)) ((J 3)) ((J 4)) ((J 5)) ((J 6)) ((J 7)) ((J 8)) ((J 9)) ((J 10)) (pb) (pe) (ob) (oe) (b1) (e1) (b2) (e2))) s.heap H locs → lv_has ls 5 [(0, .ref (r 0)), (1, .ref (r 1)), (2, .ref (r 3))] → W p l e ({ frames := 2, cells := 0, slots := 0, locals := 51 } : Room) s m ([.ref (r 0), .ref (r 1), .ref (r 3)] : List Value).toArray below meth c H locs 0 0 (ef_R below (dC, dI) vwCl (rC cI r ((V 0)) ((V 1)) ((V 2)) ((V 3)) ((V 4)) ((V 5)) ((V 6)) (A1) (U1) (A2) (U2) ((J 0)) ((J 1)) ((J 2)) ((J 3)) ((J 4)) ((J 5)) ((J 6)) ((J 7)) ((J 8)) ((J 9)) ((J 10)) (pb) (pe) (ob) (oe) (b1) (e1) (b2) (e2)) (fun o w1 => ∃ (V2 : Nat → Nat) (J2 : Nat → Nat → Nat) (pb2 pe2 ob2 oe2 : Int), V2 5 = V 5 ∧ V2 6 = V 6 ∧ ob2 = ob ∧ oe2 = oe ∧ o = some (.int (iv (scmp (V 3) (V 4) pe A1 U1 e1))) ∧ w1 = rC cI r (V2 0) (V2 1) (V2 2) (V2 3) (V2 4) (V2 5) (V2 6) (A1) (U1) (A2) (U2) (J2 0) (J2 1) (J2 2) (J2 3) (J2 4) (J2 5) (J2 6) (J2 7) (J2 8) (J2 9) (J2 10) (pb2) (pe2) (ob2) (oe2) (b1) (e1) (b2) (e2) ∧ rJ V2 J2 ∧ bk (A1) (J2 7) ∧ bk (U1) (J2 8) ∧ bk (A2) (J2 9) ∧ bk (U2) (J2 10)) [.ref (r 0), .ref (r 1), .ref (r 3)] s) (F0 m 78 ls []) := by
    intro x1 f1 x2 f2 hb1 hx1 hb2 hx2 H locs ls hP hD hS hl
    have hs : scmp (V 3) (V 4) pe A1 U1 e1 = zc ((x1 * pw pe : Nat) : Int) ((x2 * pw e1 : Nat) : Int) := by rw [hx1, hx2]; rfl
    rw [hs]
    have n1 : x1 ≠ 0 := by rw [hx1]; exact Nat.mul_ne_zero nPa nQb
    have n2 : x2 ≠ 0 := by rw [hx2]; exact Nat.mul_ne_zero nPb nQa
    rw [← hx1] at m1
    rw [← hx2] at m2
    have w1 := dn_of_bl x1
    have w2 := dn_of_bl x2
    refine lv_aload_n hx hb rd_M_compareSizes_78 rfl (lv_at hl 0 rfl) ?_
    refine va_get (D := (dC, dI)) (ci := 5) (v := .ref (r 5)) (C := rR5) (T := rT5) (N := 7) hx hb hts (fun w h => List.mem_cons_of_mem _ (rin5 w h)) hown hK hP 0 rfl rfl 0 (by decide) (hts _ (List.mem_cons_of_mem _ rm_310)) (fun _ h9 => h9) rfl rd_M_compareSizes_79 ?_
    refine ef_callV (As := []) (rest := []) ⟨hx, hb, hml, hown, hts⟩ (b_bits l dC dI ht (isB_c (X := x1) (F := f1) (ws := rC cI r (x1) (x2) ((V 2)) ((V 3)) ((V 4)) ((V 5)) ((V 6)) (A1) (U1) (A2) (U2) (f1) (f2) ((J 2)) ((J 3)) ((J 4)) ((J 5)) ((J 6)) ((J 7)) ((J 8)) ((J 9)) ((J 10)) (pb) (pe) (ob) (oe) (b1) (e1) (b2) (e2)) (k0 := 5) (k1 := 6) (by decide) rfl rfl) hb1.1 hb1.2) (cwV 0 hts (ef_goodV rm_360 rm_361 rm_362 rm_25 rm_363) rfl rfl rfl (by decide +kernel) ⟨Nat.le_of_ble_eq_true rfl, Nat.le_of_ble_eq_true rfl⟩) hK hNX hP hD hS 5 rfl rfl rfl rfl hl.1 rfl (Nat.le_of_ble_eq_true rfl) rd_M_compareSizes_82 ⟨Nat.zero_le _, Nat.zero_le _⟩ (fun o w1 H locs hq hP hD hS => ?_)
    obtain ⟨rfl, e9⟩ := hq
    rw [e9] at hP hD
    refine W.eq (g2 := F0 m 85 ls [.int (iv ((bl (x1) : Int)))]) rfl ?_
    refine lv_aload_n hx hb rd_M_compareSizes_85 rfl (lv_at hl 1 rfl) ?_
    refine va_getN (D := (dC, dI)) (ci := 4) (v := .int (iv (pe))) (C := rR4) (T := rT4) (N := 4) hx hb hts (fun w h => List.mem_cons_of_mem _ (rin4 w h)) hown hK hP 1 rfl rfl 3 (by decide) (hNX.use rm_290 rfl) (fun _ h9 => h9) rfl rd_M_compareSizes_86 ?_
    refine iw_iadd hx hb rd_M_compareSizes_89 ?_
    refine lv_istore_n (lv' := [(3, .int (iv (((bl (x1) : Int)) + (pe)))), (0, .ref (r 0)), (1, .ref (r 1)), (2, .ref (r 3))]) hx hb rd_M_compareSizes_90 rfl hl (by decide) rfl (fun ls hl => ?_)
    refine lv_aload_n hx hb rd_M_compareSizes_91 rfl (lv_at hl 1 rfl) ?_
    refine va_get (D := (dC, dI)) (ci := 5) (v := .ref (r 7)) (C := rR5) (T := rT5) (N := 7) hx hb hts (fun w h => List.mem_cons_of_mem _ (rin5 w h)) hown hK hP 0 rfl rfl 1 (by decide) (hts _ (List.mem_cons_of_mem _ rm_311)) (fun _ h9 => h9) rfl rd_M_compareSizes_92 ?_
    refine ef_callV (As := []) (rest := []) ⟨hx, hb, hml, hown, hts⟩ (b_bits l dC dI ht (isB_c (X := x2) (F := f2) (ws := rC cI r (x1) (x2) ((V 2)) ((V 3)) ((V 4)) ((V 5)) ((V 6)) (A1) (U1) (A2) (U2) (f1) (f2) ((J 2)) ((J 3)) ((J 4)) ((J 5)) ((J 6)) ((J 7)) ((J 8)) ((J 9)) ((J 10)) (pb) (pe) (ob) (oe) (b1) (e1) (b2) (e2)) (k0 := 7) (k1 := 8) (by decide) rfl rfl) hb2.1 hb2.2) (cwV 0 hts (ef_goodV rm_360 rm_361 rm_362 rm_25 rm_363) rfl rfl rfl (by decide +kernel) ⟨Nat.le_of_ble_eq_true rfl, Nat.le_of_ble_eq_true rfl⟩) hK hNX hP hD hS 7 rfl rfl rfl rfl hl.1 rfl (Nat.le_of_ble_eq_true rfl) rd_M_compareSizes_95 ⟨Nat.zero_le _, Nat.zero_le _⟩ (fun o w1 H locs hq hP hD hS => ?_)
    obtain ⟨rfl, e9⟩ := hq
    rw [e9] at hP hD
    refine W.eq (g2 := F0 m 98 ls [.int (iv ((bl (x2) : Int)))]) rfl ?_
    refine lv_aload_n hx hb rd_M_compareSizes_98 rfl (lv_at hl 3 rfl) ?_
    refine va_getN (D := (dC, dI)) (ci := 4) (v := .int (iv (e1))) (C := rR4) (T := rT4) (N := 4) hx hb hts (fun w h => List.mem_cons_of_mem _ (rin4 w h)) hown hK hP 3 rfl rfl 3 (by decide) (hNX.use rm_290 rfl) (fun _ h9 => h9) rfl rd_M_compareSizes_99 ?_
    refine iw_iadd hx hb rd_M_compareSizes_102 ?_
    refine lv_istore (lv' := [(4, .int (iv (((bl (x2) : Int)) + (e1)))), (3, .int (iv (((bl (x1) : Int)) + (pe)))), (0, .ref (r 0)), (1, .ref (r 1)), (2, .ref (r 3))]) hx hb rd_M_compareSizes_103 hl (by decide) rfl (fun ls hl => ?_)
    refine lv_iload_n hx hb rd_M_compareSizes_105 rfl (lv_at hl 1 rfl) ?_
    refine lv_iload hx hb rd_M_compareSizes_106 (lv_at hl 0 rfl) ?_
    refine iw_icmp_eq (tgt := 123) hx hb rd_M_compareSizes_108 (by decide) ⟨by omega, by omega⟩ ⟨by omega, by omega⟩ (fun c1 => ?_) (fun c1 => ?_)
    ·
      refine lv_aload_n hx hb rd_M_compareSizes_123 rfl (lv_at hl 3 rfl) ?_
      refine va_getN (D := (dC, dI)) (ci := 4) (v := .int (iv (pe))) (C := rR4) (T := rT4) (N := 4) hx hb hts (fun w h => List.mem_cons_of_mem _ (rin4 w h)) hown hK hP 1 rfl rfl 3 (by decide) (hNX.use rm_290 rfl) (fun _ h9 => h9) rfl rd_M_compareSizes_124 ?_
      refine lv_aload_n hx hb rd_M_compareSizes_127 rfl (lv_at hl 4 rfl) ?_
      refine va_getN (D := (dC, dI)) (ci := 4) (v := .int (iv (e1))) (C := rR4) (T := rT4) (N := 4) hx hb hts (fun w h => List.mem_cons_of_mem _ (rin4 w h)) hown hK hP 3 rfl rfl 3 (by decide) (hNX.use rm_290 rfl) (fun _ h9 => h9) rfl rd_M_compareSizes_128 ?_
      refine iw_icmp_le (tgt := 153) hx hb rd_M_compareSizes_131 (by decide) ⟨by omega, by omega⟩ ⟨by omega, by omega⟩ (fun c2 => ?_) (fun c2 => ?_)
      ·
        obtain ⟨k, hk⟩ : ∃ k : Nat, e1 = pe + (k : Int) := ⟨(e1 - pe).toNat, by omega⟩
        have hz9 : zc ((x1 * pw pe : Nat) : Int) ((x2 * pw e1 : Nat) : Int) = zc (x1 : Int) ((x2 * 2 ^ k : Nat) : Int) := by rw [hk, pw_add (by omega), Nat.mul_comm (pw pe), ← Nat.mul_assoc, zc_mul (pw_pos pe)]
        have hbs := bl_shift n2 k
        have hdn := dn_of_bl (x2 * 2 ^ k)
        refine lv_aload_n hx hb rd_M_compareSizes_153 rfl (lv_at hl 2 rfl) ?_
        refine va_get (D := (dC, dI)) (ci := 5) (v := .ref (r 7)) (C := rR5) (T := rT5) (N := 7) hx hb hts (fun w h => List.mem_cons_of_mem _ (rin5 w h)) hown hK hP 0 rfl rfl 1 (by decide) (hts _ (List.mem_cons_of_mem _ rm_311)) (fun _ h9 => h9) rfl rd_M_compareSizes_154 ?_
        refine lv_aload_n hx hb rd_M_compareSizes_157 rfl (lv_at hl 4 rfl) ?_
        refine va_getN (D := (dC, dI)) (ci := 4) (v := .int (iv (e1))) (C := rR4) (T := rT4) (N := 4) hx hb hts (fun w h => List.mem_cons_of_mem _ (rin4 w h)) hown hK hP 3 rfl rfl 3 (by decide) (hNX.use rm_290 rfl) (fun _ h9 => h9) rfl rd_M_compareSizes_158 ?_
        refine lv_aload_n hx hb rd_M_compareSizes_161 rfl (lv_at hl 3 rfl) ?_
        refine va_getN (D := (dC, dI)) (ci := 4) (v := .int (iv (pe))) (C := rR4) (T := rT4) (N := 4) hx hb hts (fun w h => List.mem_cons_of_mem _ (rin4 w h)) hown hK hP 1 rfl rfl 3 (by decide) (hNX.use rm_290 rfl) (fun _ h9 => h9) rfl rd_M_compareSizes_162 ?_
        refine iw_isub hx hb rd_M_compareSizes_165 ?_
        refine iw_topi (y := iv ((k : Int))) (congrArg iv (by omega : (((e1) - (pe)) : Int) = ((k : Int)))) ?_
        refine ef_callV (As := [.int (iv ((k : Int)))]) (rest := []) ⟨hx, hb, hml, hown, hts⟩ (b_shift l dC dI ht (isB_c (X := x2) (F := f2) (ws := rC cI r (x1) (x2) ((V 2)) ((V 3)) ((V 4)) ((V 5)) ((V 6)) (A1) (U1) (A2) (U2) (f1) (f2) ((J 2)) ((J 3)) ((J 4)) ((J 5)) ((J 6)) ((J 7)) ((J 8)) ((J 9)) ((J 10)) (pb) (pe) (ob) (oe) (b1) (e1) (b2) (e2)) (k0 := 7) (k1 := 8) (by decide) rfl rfl) hb2.1 n2 k (by omega)) (cwV 1 hts (ef_goodV rm_430 rm_431 rm_432 rm_25 rm_433) rfl rfl rfl (by decide +kernel) ⟨Nat.le_of_ble_eq_true rfl, Nat.le_of_ble_eq_true rfl⟩) hK hNX hP hD hS 7 rfl rfl rfl rfl hl.1 rfl (Nat.le_of_ble_eq_true rfl) rd_M_compareSizes_166 ⟨Nat.zero_le _, Nat.zero_le _⟩ (fun o w1 H locs hq hP hD hS => ?_)
        obtain ⟨rfl, g_1, rfl, hg_2⟩ := hq
        have hP : va_P (dC, dI) vwCl (rC cI r (x1) (x2 * 2 ^ k) ((V 2)) ((V 3)) ((V 4)) ((V 5)) ((V 6)) (A1) (U1) (A2) (U2) (f1) (g_1) ((J 2)) ((J 3)) ((J 4)) ((J 5)) ((J 6)) ((J 7)) ((J 8)) ((J 9)) ((J 10)) (pb) (pe) (ob) (oe) (b1) (e1) (b2) (e2)) H := hP
        have hD : va_D (ef_A (rC cI r ((V 0)) ((V 1)) ((V 2)) ((V 3)) ((V 4)) ((V 5)) ((V 6)) (A1) (U1) (A2) (U2) ((J 0)) ((J 1)) ((J 2)) ((J 3)) ((J 4)) ((J 5)) ((J 6)) ((J 7)) ((J 8)) ((J 9)) ((J 10)) (pb) (pe) (ob) (oe) (b1) (e1) (b2) (e2))) (rC cI r (x1) (x2 * 2 ^ k) ((V 2)) ((V 3)) ((V 4)) ((V 5)) ((V 6)) (A1) (U1) (A2) (U2) (f1) (g_1) ((J 2)) ((J 3)) ((J 4)) ((J 5)) ((J 6)) ((J 7)) ((J 8)) ((J 9)) ((J 10)) (pb) (pe) (ob) (oe) (b1) (e1) (b2) (e2)) := hD
        have hg_2 : bk (x2 * 2 ^ k) g_1 := ⟨hg_2, by omega⟩
        refine W.eq (g2 := F0 m 169 ls []) rfl ?_
        refine lv_aload_n hx hb rd_M_compareSizes_169 rfl (lv_at hl 2 rfl) ?_
        refine va_get (D := (dC, dI)) (ci := 5) (v := .ref (r 5)) (C := rR5) (T := rT5) (N := 7) hx hb hts (fun w h => List.mem_cons_of_mem _ (rin5 w h)) hown hK hP 0 rfl rfl 0 (by decide) (hts _ (List.mem_cons_of_mem _ rm_310)) (fun _ h9 => h9) rfl rd_M_compareSizes_170 ?_
        refine lv_aload_n hx hb rd_M_compareSizes_173 rfl (lv_at hl 2 rfl) ?_
        refine va_get (D := (dC, dI)) (ci := 5) (v := .ref (r 7)) (C := rR5) (T := rT5) (N := 7) hx hb hts (fun w h => List.mem_cons_of_mem _ (rin5 w h)) hown hK hP 0 rfl rfl 1 (by decide) (hts _ (List.mem_cons_of_mem _ rm_311)) (fun _ h9 => h9) rfl rd_M_compareSizes_174 ?_
        refine ef_callV (As := [.ref (r 7)]) (rest := []) ⟨hx, hb, hml, hown, hts⟩ (b_compare l dC dI ht (isB_c (X := x1) (F := f1) (ws := rC cI r (x1) (x2 * 2 ^ k) ((V 2)) ((V 3)) ((V 4)) ((V 5)) ((V 6)) (A1) (U1) (A2) (U2) (f1) (g_1) ((J 2)) ((J 3)) ((J 4)) ((J 5)) ((J 6)) ((J 7)) ((J 8)) ((J 9)) ((J 10)) (pb) (pe) (ob) (oe) (b1) (e1) (b2) (e2)) (k0 := 5) (k1 := 6) (by decide) rfl rfl) hb1.1 hb1.2 (isB_c (X := x2 * 2 ^ k) (F := g_1) (ws := rC cI r (x1) (x2 * 2 ^ k) ((V 2)) ((V 3)) ((V 4)) ((V 5)) ((V 6)) (A1) (U1) (A2) (U2) (f1) (g_1) ((J 2)) ((J 3)) ((J 4)) ((J 5)) ((J 6)) ((J 7)) ((J 8)) ((J 9)) ((J 10)) (pb) (pe) (ob) (oe) (b1) (e1) (b2) (e2)) (k0 := 7) (k1 := 8) (by decide) rfl rfl) hg_2.1 hg_2.2) (cwV 1 hts (ef_goodV rm_386 rm_387 rm_388 rm_25 rm_389) rfl rfl rfl (by decide +kernel) ⟨Nat.le_of_ble_eq_true rfl, Nat.le_of_ble_eq_true rfl⟩) hK hNX hP hD hS 5 rfl rfl rfl rfl hl.1 rfl (Nat.le_of_ble_eq_true rfl) rd_M_compareSizes_177 ⟨Nat.zero_le _, Nat.zero_le _⟩ (fun o w1 H locs hq hP hD hS => ?_)
        obtain ⟨rfl, e9⟩ := hq
        rw [e9] at hP hD
        refine W.eq (g2 := F0 m 180 ls [.int (iv (zc (x1 : Int) ((x2 * 2 ^ k : Nat) : Int)))]) rfl ?_
        exact ef_iret hx hb hr hlocks hP hD hS rd_M_compareSizes_180 (by rw [hz9]; exact ⟨fun i => [(x1), (x2 * 2 ^ k), ((V 2)), ((V 3)), ((V 4)), ((V 5)), ((V 6))].getD i 0, fun i => [(f1), (g_1), ((J 2)), ((J 3)), ((J 4)), ((J 5)), ((J 6)), ((J 7)), ((J 8)), ((J 9)), ((J 10))].getD i (fun _ => 0), _, _, _, _, rfl, rfl, rfl, rfl, rfl, rfl, rJ_of hb1 hg_2 (hJ 2 (by decide)) (hJ 3 (by decide)) (hJ 4 (by decide)) (hJ 5 (by decide)) (hJ 6 (by decide)), kA1, kU1, kA2, kU2⟩)
      ·
        obtain ⟨k, hk⟩ : ∃ k : Nat, pe = e1 + (k : Int) := ⟨(pe - e1).toNat, by omega⟩
        have hz9 : zc ((x1 * pw pe : Nat) : Int) ((x2 * pw e1 : Nat) : Int) = zc ((x1 * 2 ^ k : Nat) : Int) (x2 : Int) := by rw [hk, pw_add (by omega), Nat.mul_comm (pw e1), ← Nat.mul_assoc, zc_mul (pw_pos e1)]
        have hbs := bl_shift n1 k
        have hdn := dn_of_bl (x1 * 2 ^ k)
        refine lv_aload_n hx hb rd_M_compareSizes_134 rfl (lv_at hl 2 rfl) ?_
        refine va_get (D := (dC, dI)) (ci := 5) (v := .ref (r 5)) (C := rR5) (T := rT5) (N := 7) hx hb hts (fun w h => List.mem_cons_of_mem _ (rin5 w h)) hown hK hP 0 rfl rfl 0 (by decide) (hts _ (List.mem_cons_of_mem _ rm_310)) (fun _ h9 => h9) rfl rd_M_compareSizes_135 ?_
        refine lv_aload_n hx hb rd_M_compareSizes_138 rfl (lv_at hl 3 rfl) ?_
        refine va_getN (D := (dC, dI)) (ci := 4) (v := .int (iv (pe))) (C := rR4) (T := rT4) (N := 4) hx hb hts (fun w h => List.mem_cons_of_mem _ (rin4 w h)) hown hK hP 1 rfl rfl 3 (by decide) (hNX.use rm_290 rfl) (fun _ h9 => h9) rfl rd_M_compareSizes_139 ?_
        refine lv_aload_n hx hb rd_M_compareSizes_142 rfl (lv_at hl 4 rfl) ?_
        refine va_getN (D := (dC, dI)) (ci := 4) (v := .int (iv (e1))) (C := rR4) (T := rT4) (N := 4) hx hb hts (fun w h => List.mem_cons_of_mem _ (rin4 w h)) hown hK hP 3 rfl rfl 3 (by decide) (hNX.use rm_290 rfl) (fun _ h9 => h9) rfl rd_M_compareSizes_143 ?_
        refine iw_isub hx hb rd_M_compareSizes_146 ?_
        refine iw_topi (y := iv ((k : Int))) (congrArg iv (by omega : (((pe) - (e1)) : Int) = ((k : Int)))) ?_
        refine ef_callV (As := [.int (iv ((k : Int)))]) (rest := []) ⟨hx, hb, hml, hown, hts⟩ (b_shift l dC dI ht (isB_c (X := x1) (F := f1) (ws := rC cI r (x1) (x2) ((V 2)) ((V 3)) ((V 4)) ((V 5)) ((V 6)) (A1) (U1) (A2) (U2) (f1) (f2) ((J 2)) ((J 3)) ((J 4)) ((J 5)) ((J 6)) ((J 7)) ((J 8)) ((J 9)) ((J 10)) (pb) (pe) (ob) (oe) (b1) (e1) (b2) (e2)) (k0 := 5) (k1 := 6) (by decide) rfl rfl) hb1.1 n1 k (by omega)) (cwV 1 hts (ef_goodV rm_430 rm_431 rm_432 rm_25 rm_433) rfl rfl rfl (by decide +kernel) ⟨Nat.le_of_ble_eq_true rfl, Nat.le_of_ble_eq_true rfl⟩) hK hNX hP hD hS 5 rfl rfl rfl rfl hl.1 rfl (Nat.le_of_ble_eq_true rfl) rd_M_compareSizes_147 ⟨Nat.zero_le _, Nat.zero_le _⟩ (fun o w1 H locs hq hP hD hS => ?_)
        obtain ⟨rfl, g_3, rfl, hg_4⟩ := hq
        have hP : va_P (dC, dI) vwCl (rC cI r (x1 * 2 ^ k) (x2) ((V 2)) ((V 3)) ((V 4)) ((V 5)) ((V 6)) (A1) (U1) (A2) (U2) (g_3) (f2) ((J 2)) ((J 3)) ((J 4)) ((J 5)) ((J 6)) ((J 7)) ((J 8)) ((J 9)) ((J 10)) (pb) (pe) (ob) (oe) (b1) (e1) (b2) (e2)) H := hP
        have hD : va_D (ef_A (rC cI r ((V 0)) ((V 1)) ((V 2)) ((V 3)) ((V 4)) ((V 5)) ((V 6)) (A1) (U1) (A2) (U2) ((J 0)) ((J 1)) ((J 2)) ((J 3)) ((J 4)) ((J 5)) ((J 6)) ((J 7)) ((J 8)) ((J 9)) ((J 10)) (pb) (pe) (ob) (oe) (b1) (e1) (b2) (e2))) (rC cI r (x1 * 2 ^ k) (x2) ((V 2)) ((V 3)) ((V 4)) ((V 5)) ((V 6)) (A1) (U1) (A2) (U2) (g_3) (f2) ((J 2)) ((J 3)) ((J 4)) ((J 5)) ((J 6)) ((J 7)) ((J 8)) ((J 9)) ((J 10)) (pb) (pe) (ob) (oe) (b1) (e1) (b2) (e2)) := hD
        have hg_4 : bk (x1 * 2 ^ k) g_3 := ⟨hg_4, by omega⟩
        refine W.eq (g2 := F0 m 150 ls []) rfl ?_
        refine lv_goto (tgt := 169) hx hb rd_M_compareSizes_150 (by decide) ?_
        refine lv_aload_n hx hb rd_M_compareSizes_169 rfl (lv_at hl 2 rfl) ?_
        refine va_get (D := (dC, dI)) (ci := 5) (v := .ref (r 5)) (C := rR5) (T := rT5) (N := 7) hx hb hts (fun w h => List.mem_cons_of_mem _ (rin5 w h)) hown hK hP 0 rfl rfl 0 (by decide) (hts _ (List.mem_cons_of_mem _ rm_310)) (fun _ h9 => h9) rfl rd_M_compareSizes_170 ?_
        refine lv_aload_n hx hb rd_M_compareSizes_173 rfl (lv_at hl 2 rfl) ?_
        refine va_get (D := (dC, dI)) (ci := 5) (v := .ref (r 7)) (C := rR5) (T := rT5) (N := 7) hx hb hts (fun w h => List.mem_cons_of_mem _ (rin5 w h)) hown hK hP 0 rfl rfl 1 (by decide) (hts _ (List.mem_cons_of_mem _ rm_311)) (fun _ h9 => h9) rfl rd_M_compareSizes_174 ?_
        refine ef_callV (As := [.ref (r 7)]) (rest := []) ⟨hx, hb, hml, hown, hts⟩ (b_compare l dC dI ht (isB_c (X := x1 * 2 ^ k) (F := g_3) (ws := rC cI r (x1 * 2 ^ k) (x2) ((V 2)) ((V 3)) ((V 4)) ((V 5)) ((V 6)) (A1) (U1) (A2) (U2) (g_3) (f2) ((J 2)) ((J 3)) ((J 4)) ((J 5)) ((J 6)) ((J 7)) ((J 8)) ((J 9)) ((J 10)) (pb) (pe) (ob) (oe) (b1) (e1) (b2) (e2)) (k0 := 5) (k1 := 6) (by decide) rfl rfl) hg_4.1 hg_4.2 (isB_c (X := x2) (F := f2) (ws := rC cI r (x1 * 2 ^ k) (x2) ((V 2)) ((V 3)) ((V 4)) ((V 5)) ((V 6)) (A1) (U1) (A2) (U2) (g_3) (f2) ((J 2)) ((J 3)) ((J 4)) ((J 5)) ((J 6)) ((J 7)) ((J 8)) ((J 9)) ((J 10)) (pb) (pe) (ob) (oe) (b1) (e1) (b2) (e2)) (k0 := 7) (k1 := 8) (by decide) rfl rfl) hb2.1 hb2.2) (cwV 1 hts (ef_goodV rm_386 rm_387 rm_388 rm_25 rm_389) rfl rfl rfl (by decide +kernel) ⟨Nat.le_of_ble_eq_true rfl, Nat.le_of_ble_eq_true rfl⟩) hK hNX hP hD hS 5 rfl rfl rfl rfl hl.1 rfl (Nat.le_of_ble_eq_true rfl) rd_M_compareSizes_177 ⟨Nat.zero_le _, Nat.zero_le _⟩ (fun o w1 H locs hq hP hD hS => ?_)
        obtain ⟨rfl, e9⟩ := hq
        rw [e9] at hP hD
        refine W.eq (g2 := F0 m 180 ls [.int (iv (zc ((x1 * 2 ^ k : Nat) : Int) (x2 : Int)))]) rfl ?_
        exact ef_iret hx hb hr hlocks hP hD hS rd_M_compareSizes_180 (by rw [hz9]; exact ⟨fun i => [(x1 * 2 ^ k), (x2), ((V 2)), ((V 3)), ((V 4)), ((V 5)), ((V 6))].getD i 0, fun i => [(g_3), (f2), ((J 2)), ((J 3)), ((J 4)), ((J 5)), ((J 6)), ((J 7)), ((J 8)), ((J 9)), ((J 10))].getD i (fun _ => 0), _, _, _, _, rfl, rfl, rfl, rfl, rfl, rfl, rJ_of hg_4 hb2 (hJ 2 (by decide)) (hJ 3 (by decide)) (hJ 4 (by decide)) (hJ 5 (by decide)) (hJ 6 (by decide)), kA1, kU1, kA2, kU2⟩)
    ·
      refine lv_iload_n hx hb rd_M_compareSizes_111 rfl (lv_at hl 1 rfl) ?_
      refine lv_iload hx hb rd_M_compareSizes_112 (lv_at hl 0 rfl) ?_
      refine iw_icmp_ge (tgt := 121) hx hb rd_M_compareSizes_114 (by decide) ⟨by omega, by omega⟩ ⟨by omega, by omega⟩ (fun c3 => ?_) (fun c3 => ?_)
      ·
        have q3 := cmp_bl (X := x2) (Y := x1) n1 (by omega : -20000 ≤ e1) (by omega : -20000 ≤ pe) (by omega)
        refine lv_iconst (v := iv (1)) hx hb rd_M_compareSizes_121 (by decide) ?_
        exact ef_iret hx hb hr hlocks hP hD hS rd_M_compareSizes_122 (by rw [zc_gt (by omega)]; exact ⟨fun i => [(x1), (x2), ((V 2)), ((V 3)), ((V 4)), ((V 5)), ((V 6))].getD i 0, fun i => [(f1), (f2), ((J 2)), ((J 3)), ((J 4)), ((J 5)), ((J 6)), ((J 7)), ((J 8)), ((J 9)), ((J 10))].getD i (fun _ => 0), _, _, _, _, rfl, rfl, rfl, rfl, rfl, rfl, rJ_of hb1 hb2 (hJ 2 (by decide)) (hJ 3 (by decide)) (hJ 4 (by decide)) (hJ 5 (by decide)) (hJ 6 (by decide)), kA1, kU1, kA2, kU2⟩)
      ·
        have q3 := cmp_bl (X := x1) (Y := x2) n2 (by omega : -20000 ≤ pe) (by omega : -20000 ≤ e1) (by omega)
        refine lv_iconst (v := iv (-1)) hx hb rd_M_compareSizes_117 (by decide) ?_
        refine lv_goto (tgt := 122) hx hb rd_M_compareSizes_118 (by decide) ?_
        exact ef_iret hx hb hr hlocks hP hD hS rd_M_compareSizes_122 (by rw [zc_lt (by omega)]; exact ⟨fun i => [(x1), (x2), ((V 2)), ((V 3)), ((V 4)), ((V 5)), ((V 6))].getD i 0, fun i => [(f1), (f2), ((J 2)), ((J 3)), ((J 4)), ((J 5)), ((J 6)), ((J 7)), ((J 8)), ((J 9)), ((J 10))].getD i (fun _ => 0), _, _, _, _, rfl, rfl, rfl, rfl, rfl, rfl, rJ_of hb1 hb2 (hJ 2 (by decide)) (hJ 3 (by decide)) (hJ 4 (by decide)) (hJ 5 (by decide)) (hJ 6 (by decide)), kA1, kU1, kA2, kU2⟩)
  have j39 : ∀ (x1 : Nat) (f1 : Nat → Nat), (bk x1 f1) → (x1 = (V 3) * U1) → ∀ (H : Heap) (locs : List Loc) (ls : Array Slot), va_P (dC, dI) vwCl (rC cI r (x1) ((V 1)) ((V 2)) ((V 3)) ((V 4)) ((V 5)) ((V 6)) (A1) (U1) (A2) (U2) (f1) ((J 1)) ((J 2)) ((J 3)) ((J 4)) ((J 5)) ((J 6)) ((J 7)) ((J 8)) ((J 9)) ((J 10)) (pb) (pe) (ob) (oe) (b1) (e1) (b2) (e2)) H → va_D (ef_A (rC cI r ((V 0)) ((V 1)) ((V 2)) ((V 3)) ((V 4)) ((V 5)) ((V 6)) (A1) (U1) (A2) (U2) ((J 0)) ((J 1)) ((J 2)) ((J 3)) ((J 4)) ((J 5)) ((J 6)) ((J 7)) ((J 8)) ((J 9)) ((J 10)) (pb) (pe) (ob) (oe) (b1) (e1) (b2) (e2))) (rC cI r (x1) ((V 1)) ((V 2)) ((V 3)) ((V 4)) ((V 5)) ((V 6)) (A1) (U1) (A2) (U2) (f1) ((J 1)) ((J 2)) ((J 3)) ((J 4)) ((J 5)) ((J 6)) ((J 7)) ((J 8)) ((J 9)) ((J 10)) (pb) (pe) (ob) (oe) (b1) (e1) (b2) (e2)) → va_S (ef_A (rC cI r ((V 0)) ((V 1)) ((V 2)) ((V 3)) ((V 4)) ((V 5)) ((V 6)) (A1) (U1) (A2) (U2) ((J 0)) ((J 1)) ((J 2)) ((J 3)) ((J 4)) ((J 5)) ((J 6)) ((J 7)) ((J 8)) ((J 9)) ((J 10)) (pb) (pe) (ob) (oe) (b1) (e1) (b2) (e2))) s.heap H locs → lv_has ls 5 [(0, .ref (r 0)), (1, .ref (r 1)), (2, .ref (r 3))] → W p l e ({ frames := 2, cells := 0, slots := 0, locals := 51 } : Room) s m ([.ref (r 0), .ref (r 1), .ref (r 3)] : List Value).toArray below meth c H locs 0 0 (ef_R below (dC, dI) vwCl (rC cI r ((V 0)) ((V 1)) ((V 2)) ((V 3)) ((V 4)) ((V 5)) ((V 6)) (A1) (U1) (A2) (U2) ((J 0)) ((J 1)) ((J 2)) ((J 3)) ((J 4)) ((J 5)) ((J 6)) ((J 7)) ((J 8)) ((J 9)) ((J 10)) (pb) (pe) (ob) (oe) (b1) (e1) (b2) (e2)) (fun o w1 => ∃ (V2 : Nat → Nat) (J2 : Nat → Nat → Nat) (pb2 pe2 ob2 oe2 : Int), V2 5 = V 5 ∧ V2 6 = V 6 ∧ ob2 = ob ∧ oe2 = oe ∧ o = some (.int (iv (scmp (V 3) (V 4) pe A1 U1 e1))) ∧ w1 = rC cI r (V2 0) (V2 1) (V2 2) (V2 3) (V2 4) (V2 5) (V2 6) (A1) (U1) (A2) (U2) (J2 0) (J2 1) (J2 2) (J2 3) (J2 4) (J2 5) (J2 6) (J2 7) (J2 8) (J2 9) (J2 10) (pb2) (pe2) (ob2) (oe2) (b1) (e1) (b2) (e2) ∧ rJ V2 J2 ∧ bk (A1) (J2 7) ∧ bk (U1) (J2 8) ∧ bk (A2) (J2 9) ∧ bk (U2) (J2 10)) [.ref (r 0), .ref (r 1), .ref (r 3)] s) (F0 m 39 ls []) := by
    intro x1 f1 hb1 hx1 H locs ls hP hD hS hl
    refine lv_aload_n hx hb rd_M_compareSizes_39 rfl (lv_at hl 1 rfl) ?_
    refine va_getN (D := (dC, dI)) (ci := 4) (v := .ref (r 13)) (C := rR4) (T := rT4) (N := 4) hx hb hts (fun w h => List.mem_cons_of_mem _ (rin4 w h)) hown hK hP 1 rfl rfl 2 (by decide) (hNX.use rm_288 rfl) (fun _ h9 => h9) rfl rd_M_compareSizes_40 ?_
    refine ef_callV (As := []) (rest := []) ⟨hx, hb, hml, hown, hts⟩ (b_isOne l dC dI ht (isB_c (X := (V 4)) (F := (J 4)) (ws := rC cI r (x1) ((V 1)) ((V 2)) ((V 3)) ((V 4)) ((V 5)) ((V 6)) (A1) (U1) (A2) (U2) (f1) ((J 1)) ((J 2)) ((J 3)) ((J 4)) ((J 5)) ((J 6)) ((J 7)) ((J 8)) ((J 9)) ((J 10)) (pb) (pe) (ob) (oe) (b1) (e1) (b2) (e2)) (k0 := 13) (k1 := 14) (by decide) rfl rfl) (hJ 4 (by decide)).1 (hJ 4 (by decide)).2) (cwV 0 hts (ef_goodV rm_422 rm_423 rm_424 rm_25 rm_425) rfl rfl rfl (by decide +kernel) ⟨Nat.le_of_ble_eq_true rfl, Nat.le_of_ble_eq_true rfl⟩) hK hNX hP hD hS 13 rfl rfl rfl rfl hl.1 rfl (Nat.le_of_ble_eq_true rfl) rd_M_compareSizes_43 ⟨Nat.zero_le _, Nat.zero_le _⟩ (fun o w1 H locs hq hP hD hS => ?_)
    obtain ⟨rfl, e9⟩ := hq
    rw [e9] at hP hD
    refine W.eq (g2 := F0 m 46 ls [.int (iv (if (V 4) = 1 then 1 else 0))]) rfl ?_
    have hc0 : ir (if (V 4) = 1 then 1 else 0) := by split <;> exact ⟨by omega, by omega⟩
    refine iw_if_eq (tgt := 63) hx hb rd_M_compareSizes_46 (by decide) (hc0) (fun d1 => ?_) (fun d1 => ?_)
    ·
      have hq1 : (V 4) ≠ 1 := fun q => by rw [if_pos q] at d1; exact absurd d1 (by decide)
      have nPx : A1 ≠ 0 := by assumption
      have nQx : (V 4) ≠ 0 := by assumption
      have wp1 := dn_of_bl A1
      have wp2 := dn_of_bl (V 4)
      have wp3 := dn_of_bl (A1 * (V 4))
      have wp4 := bl_mul_le A1 (V 4)
      refine lv_aload_n hx hb rd_M_compareSizes_63 rfl (lv_at hl 0 rfl) ?_
      refine va_get (D := (dC, dI)) (ci := 5) (v := .ref (r 7)) (C := rR5) (T := rT5) (N := 7) hx hb hts (fun w h => List.mem_cons_of_mem _ (rin5 w h)) hown hK hP 0 rfl rfl 1 (by decide) (hts _ (List.mem_cons_of_mem _ rm_311)) (fun _ h9 => h9) rfl rd_M_compareSizes_64 ?_
      refine lv_aload_n hx hb rd_M_compareSizes_67 rfl (lv_at hl 2 rfl) ?_
      refine va_getN (D := (dC, dI)) (ci := 4) (v := .ref (r 19)) (C := rR4) (T := rT4) (N := 4) hx hb hts (fun w h => List.mem_cons_of_mem _ (rin4 w h)) hown hK hP 3 rfl rfl 1 (by decide) (hNX.use rm_287 rfl) (fun _ h9 => h9) rfl rd_M_compareSizes_68 ?_
      refine lv_aload_n hx hb rd_M_compareSizes_71 rfl (lv_at hl 1 rfl) ?_
      refine va_getN (D := (dC, dI)) (ci := 4) (v := .ref (r 13)) (C := rR4) (T := rT4) (N := 4) hx hb hts (fun w h => List.mem_cons_of_mem _ (rin4 w h)) hown hK hP 1 rfl rfl 2 (by decide) (hNX.use rm_288 rfl) (fun _ h9 => h9) rfl rd_M_compareSizes_72 ?_
      refine ef_callV (As := [.ref (r 19), .ref (r 13)]) (rest := []) ⟨hx, hb, hml, hown, hts⟩ (b_product l dC dI ht (isB_c (X := (V 1)) (F := (J 1)) (ws := rC cI r (x1) ((V 1)) ((V 2)) ((V 3)) ((V 4)) ((V 5)) ((V 6)) (A1) (U1) (A2) (U2) (f1) ((J 1)) ((J 2)) ((J 3)) ((J 4)) ((J 5)) ((J 6)) ((J 7)) ((J 8)) ((J 9)) ((J 10)) (pb) (pe) (ob) (oe) (b1) (e1) (b2) (e2)) (k0 := 7) (k1 := 8) (by decide) rfl rfl) (isB_c (X := A1) (F := (J 7)) (ws := rC cI r (x1) ((V 1)) ((V 2)) ((V 3)) ((V 4)) ((V 5)) ((V 6)) (A1) (U1) (A2) (U2) (f1) ((J 1)) ((J 2)) ((J 3)) ((J 4)) ((J 5)) ((J 6)) ((J 7)) ((J 8)) ((J 9)) ((J 10)) (pb) (pe) (ob) (oe) (b1) (e1) (b2) (e2)) (k0 := 19) (k1 := 20) (by decide) rfl rfl) kA1.1 (apt_c (k0 := 7) (k1 := 8) (j0 := 19) (j1 := 20) rfl) (isB_c (X := (V 4)) (F := (J 4)) (ws := rC cI r (x1) ((V 1)) ((V 2)) ((V 3)) ((V 4)) ((V 5)) ((V 6)) (A1) (U1) (A2) (U2) (f1) ((J 1)) ((J 2)) ((J 3)) ((J 4)) ((J 5)) ((J 6)) ((J 7)) ((J 8)) ((J 9)) ((J 10)) (pb) (pe) (ob) (oe) (b1) (e1) (b2) (e2)) (k0 := 13) (k1 := 14) (by decide) rfl rfl) (hJ 4 (by decide)).1 (apt_c (k0 := 7) (k1 := 8) (j0 := 13) (j1 := 14) rfl) nPx nQx (by omega)) (cwV 2 hts (ef_goodV rm_426 rm_427 rm_428 rm_25 rm_429) rfl rfl rfl (by decide +kernel) ⟨Nat.le_of_ble_eq_true rfl, Nat.le_of_ble_eq_true rfl⟩) hK hNX hP hD hS 7 rfl rfl rfl rfl hl.1 rfl (Nat.le_of_ble_eq_true rfl) rd_M_compareSizes_75 ⟨Nat.zero_le _, Nat.zero_le _⟩ (fun o w1 H locs hq hP hD hS => ?_)
      obtain ⟨rfl, g_5, rfl, hg_6⟩ := hq
      have hP : va_P (dC, dI) vwCl (rC cI r (x1) (A1 * (V 4)) ((V 2)) ((V 3)) ((V 4)) ((V 5)) ((V 6)) (A1) (U1) (A2) (U2) (f1) (g_5) ((J 2)) ((J 3)) ((J 4)) ((J 5)) ((J 6)) ((J 7)) ((J 8)) ((J 9)) ((J 10)) (pb) (pe) (ob) (oe) (b1) (e1) (b2) (e2)) H := hP
      have hD : va_D (ef_A (rC cI r ((V 0)) ((V 1)) ((V 2)) ((V 3)) ((V 4)) ((V 5)) ((V 6)) (A1) (U1) (A2) (U2) ((J 0)) ((J 1)) ((J 2)) ((J 3)) ((J 4)) ((J 5)) ((J 6)) ((J 7)) ((J 8)) ((J 9)) ((J 10)) (pb) (pe) (ob) (oe) (b1) (e1) (b2) (e2))) (rC cI r (x1) (A1 * (V 4)) ((V 2)) ((V 3)) ((V 4)) ((V 5)) ((V 6)) (A1) (U1) (A2) (U2) (f1) (g_5) ((J 2)) ((J 3)) ((J 4)) ((J 5)) ((J 6)) ((J 7)) ((J 8)) ((J 9)) ((J 10)) (pb) (pe) (ob) (oe) (b1) (e1) (b2) (e2)) := hD
      have hg_6 : bk (A1 * (V 4)) g_5 := ⟨hg_6, by omega⟩
      refine W.eq (g2 := F0 m 78 ls []) rfl ?_
      exact j78 (x1) (f1) (A1 * (V 4)) (g_5) (hb1) (hx1) (hg_6) (rfl) H locs ls hP hD hS (lv_sub hl [0, 1, 2] rfl)
    ·
      have hq1 : (V 4) = 1 := by
        by_cases q : (V 4) = 1
        · exact q
        · rw [if_neg q] at d1; exact absurd rfl d1
      refine lv_aload_n hx hb rd_M_compareSizes_49 rfl (lv_at hl 0 rfl) ?_
      refine va_get (D := (dC, dI)) (ci := 5) (v := .ref (r 7)) (C := rR5) (T := rT5) (N := 7) hx hb hts (fun w h => List.mem_cons_of_mem _ (rin5 w h)) hown hK hP 0 rfl rfl 1 (by decide) (hts _ (List.mem_cons_of_mem _ rm_311)) (fun _ h9 => h9) rfl rd_M_compareSizes_50 ?_
      refine lv_aload_n hx hb rd_M_compareSizes_53 rfl (lv_at hl 2 rfl) ?_
      refine va_getN (D := (dC, dI)) (ci := 4) (v := .ref (r 19)) (C := rR4) (T := rT4) (N := 4) hx hb hts (fun w h => List.mem_cons_of_mem _ (rin4 w h)) hown hK hP 3 rfl rfl 1 (by decide) (hNX.use rm_287 rfl) (fun _ h9 => h9) rfl rd_M_compareSizes_54 ?_
      refine ef_callV (As := [.ref (r 19)]) (rest := []) ⟨hx, hb, hml, hown, hts⟩ (b_copy l dC dI ht (isB_c (X := (V 1)) (F := (J 1)) (ws := rC cI r (x1) ((V 1)) ((V 2)) ((V 3)) ((V 4)) ((V 5)) ((V 6)) (A1) (U1) (A2) (U2) (f1) ((J 1)) ((J 2)) ((J 3)) ((J 4)) ((J 5)) ((J 6)) ((J 7)) ((J 8)) ((J 9)) ((J 10)) (pb) (pe) (ob) (oe) (b1) (e1) (b2) (e2)) (k0 := 7) (k1 := 8) (by decide) rfl rfl) (isB_c (X := A1) (F := (J 7)) (ws := rC cI r (x1) ((V 1)) ((V 2)) ((V 3)) ((V 4)) ((V 5)) ((V 6)) (A1) (U1) (A2) (U2) (f1) ((J 1)) ((J 2)) ((J 3)) ((J 4)) ((J 5)) ((J 6)) ((J 7)) ((J 8)) ((J 9)) ((J 10)) (pb) (pe) (ob) (oe) (b1) (e1) (b2) (e2)) (k0 := 19) (k1 := 20) (by decide) rfl rfl) kA1.1 kA1.2 (apt_c (k0 := 7) (k1 := 8) (j0 := 19) (j1 := 20) rfl)) (cwV 1 hts (ef_goodV rm_352 rm_353 rm_354 rm_25 rm_355) rfl rfl rfl (by decide +kernel) ⟨Nat.le_of_ble_eq_true rfl, Nat.le_of_ble_eq_true rfl⟩) hK hNX hP hD hS 7 rfl rfl rfl rfl hl.1 rfl (Nat.le_of_ble_eq_true rfl) rd_M_compareSizes_57 ⟨Nat.zero_le _, Nat.zero_le _⟩ (fun o w1 H locs hq hP hD hS => ?_)
      obtain ⟨rfl, g_7, rfl, hg_8⟩ := hq
      have hP : va_P (dC, dI) vwCl (rC cI r (x1) (A1) ((V 2)) ((V 3)) ((V 4)) ((V 5)) ((V 6)) (A1) (U1) (A2) (U2) (f1) (g_7) ((J 2)) ((J 3)) ((J 4)) ((J 5)) ((J 6)) ((J 7)) ((J 8)) ((J 9)) ((J 10)) (pb) (pe) (ob) (oe) (b1) (e1) (b2) (e2)) H := hP
      have hD : va_D (ef_A (rC cI r ((V 0)) ((V 1)) ((V 2)) ((V 3)) ((V 4)) ((V 5)) ((V 6)) (A1) (U1) (A2) (U2) ((J 0)) ((J 1)) ((J 2)) ((J 3)) ((J 4)) ((J 5)) ((J 6)) ((J 7)) ((J 8)) ((J 9)) ((J 10)) (pb) (pe) (ob) (oe) (b1) (e1) (b2) (e2))) (rC cI r (x1) (A1) ((V 2)) ((V 3)) ((V 4)) ((V 5)) ((V 6)) (A1) (U1) (A2) (U2) (f1) (g_7) ((J 2)) ((J 3)) ((J 4)) ((J 5)) ((J 6)) ((J 7)) ((J 8)) ((J 9)) ((J 10)) (pb) (pe) (ob) (oe) (b1) (e1) (b2) (e2)) := hD
      have hg_8 : bk (A1) g_7 := ⟨hg_8, kA1.2⟩
      refine W.eq (g2 := F0 m 60 ls []) rfl ?_
      refine lv_goto (tgt := 78) hx hb rd_M_compareSizes_60 (by decide) ?_
      exact j78 (x1) (f1) (A1) (g_7) (hb1) (hx1) (hg_8) (by rw [hq1, Nat.mul_one]) H locs ls hP hD hS (lv_sub hl [0, 1, 2] rfl)
  refine lv_aload_n hx hb rd_M_compareSizes_0 rfl (lv_at hl 2 rfl) ?_
  refine va_getN (D := (dC, dI)) (ci := 4) (v := .ref (r 21)) (C := rR4) (T := rT4) (N := 4) hx hb hts (fun w h => List.mem_cons_of_mem _ (rin4 w h)) hown hK hP 3 rfl rfl 2 (by decide) (hNX.use rm_288 rfl) (fun _ h9 => h9) rfl rd_M_compareSizes_1 ?_
  refine ef_callV (As := []) (rest := []) ⟨hx, hb, hml, hown, hts⟩ (b_isOne l dC dI ht (isB_c (X := U1) (F := (J 8)) (ws := rC cI r ((V 0)) ((V 1)) ((V 2)) ((V 3)) ((V 4)) ((V 5)) ((V 6)) (A1) (U1) (A2) (U2) ((J 0)) ((J 1)) ((J 2)) ((J 3)) ((J 4)) ((J 5)) ((J 6)) ((J 7)) ((J 8)) ((J 9)) ((J 10)) (pb) (pe) (ob) (oe) (b1) (e1) (b2) (e2)) (k0 := 21) (k1 := 22) (by decide) rfl rfl) kU1.1 kU1.2) (cwV 0 hts (ef_goodV rm_422 rm_423 rm_424 rm_25 rm_425) rfl rfl rfl (by decide +kernel) ⟨Nat.le_of_ble_eq_true rfl, Nat.le_of_ble_eq_true rfl⟩) hK hNX hP hD hS 21 rfl rfl rfl rfl hl.1 rfl (Nat.le_of_ble_eq_true rfl) rd_M_compareSizes_4 ⟨Nat.zero_le _, Nat.zero_le _⟩ (fun o w1 H locs hq hP hD hS => ?_)
  obtain ⟨rfl, e9⟩ := hq
  rw [e9] at hP hD
  refine W.eq (g2 := F0 m 7 ls [.int (iv (if U1 = 1 then 1 else 0))]) rfl ?_
  have hc0 : ir (if U1 = 1 then 1 else 0) := by split <;> exact ⟨by omega, by omega⟩
  refine iw_if_eq (tgt := 24) hx hb rd_M_compareSizes_7 (by decide) (hc0) (fun d1 => ?_) (fun d1 => ?_)
  ·
    have hq1 : U1 ≠ 1 := fun q => by rw [if_pos q] at d1; exact absurd d1 (by decide)
    have nPx : (V 3) ≠ 0 := by assumption
    have nQx : U1 ≠ 0 := by assumption
    have wp1 := dn_of_bl (V 3)
    have wp2 := dn_of_bl U1
    have wp3 := dn_of_bl ((V 3) * U1)
    have wp4 := bl_mul_le (V 3) U1
    refine lv_aload_n hx hb rd_M_compareSizes_24 rfl (lv_at hl 0 rfl) ?_
    refine va_get (D := (dC, dI)) (ci := 5) (v := .ref (r 5)) (C := rR5) (T := rT5) (N := 7) hx hb hts (fun w h => List.mem_cons_of_mem _ (rin5 w h)) hown hK hP 0 rfl rfl 0 (by decide) (hts _ (List.mem_cons_of_mem _ rm_310)) (fun _ h9 => h9) rfl rd_M_compareSizes_25 ?_
    refine lv_aload_n hx hb rd_M_compareSizes_28 rfl (lv_at hl 1 rfl) ?_
    refine va_getN (D := (dC, dI)) (ci := 4) (v := .ref (r 11)) (C := rR4) (T := rT4) (N := 4) hx hb hts (fun w h => List.mem_cons_of_mem _ (rin4 w h)) hown hK hP 1 rfl rfl 1 (by decide) (hNX.use rm_287 rfl) (fun _ h9 => h9) rfl rd_M_compareSizes_29 ?_
    refine lv_aload_n hx hb rd_M_compareSizes_32 rfl (lv_at hl 2 rfl) ?_
    refine va_getN (D := (dC, dI)) (ci := 4) (v := .ref (r 21)) (C := rR4) (T := rT4) (N := 4) hx hb hts (fun w h => List.mem_cons_of_mem _ (rin4 w h)) hown hK hP 3 rfl rfl 2 (by decide) (hNX.use rm_288 rfl) (fun _ h9 => h9) rfl rd_M_compareSizes_33 ?_
    refine ef_callV (As := [.ref (r 11), .ref (r 21)]) (rest := []) ⟨hx, hb, hml, hown, hts⟩ (b_product l dC dI ht (isB_c (X := (V 0)) (F := (J 0)) (ws := rC cI r ((V 0)) ((V 1)) ((V 2)) ((V 3)) ((V 4)) ((V 5)) ((V 6)) (A1) (U1) (A2) (U2) ((J 0)) ((J 1)) ((J 2)) ((J 3)) ((J 4)) ((J 5)) ((J 6)) ((J 7)) ((J 8)) ((J 9)) ((J 10)) (pb) (pe) (ob) (oe) (b1) (e1) (b2) (e2)) (k0 := 5) (k1 := 6) (by decide) rfl rfl) (isB_c (X := (V 3)) (F := (J 3)) (ws := rC cI r ((V 0)) ((V 1)) ((V 2)) ((V 3)) ((V 4)) ((V 5)) ((V 6)) (A1) (U1) (A2) (U2) ((J 0)) ((J 1)) ((J 2)) ((J 3)) ((J 4)) ((J 5)) ((J 6)) ((J 7)) ((J 8)) ((J 9)) ((J 10)) (pb) (pe) (ob) (oe) (b1) (e1) (b2) (e2)) (k0 := 11) (k1 := 12) (by decide) rfl rfl) (hJ 3 (by decide)).1 (apt_c (k0 := 5) (k1 := 6) (j0 := 11) (j1 := 12) rfl) (isB_c (X := U1) (F := (J 8)) (ws := rC cI r ((V 0)) ((V 1)) ((V 2)) ((V 3)) ((V 4)) ((V 5)) ((V 6)) (A1) (U1) (A2) (U2) ((J 0)) ((J 1)) ((J 2)) ((J 3)) ((J 4)) ((J 5)) ((J 6)) ((J 7)) ((J 8)) ((J 9)) ((J 10)) (pb) (pe) (ob) (oe) (b1) (e1) (b2) (e2)) (k0 := 21) (k1 := 22) (by decide) rfl rfl) kU1.1 (apt_c (k0 := 5) (k1 := 6) (j0 := 21) (j1 := 22) rfl) nPx nQx (by omega)) (cwV 2 hts (ef_goodV rm_426 rm_427 rm_428 rm_25 rm_429) rfl rfl rfl (by decide +kernel) ⟨Nat.le_of_ble_eq_true rfl, Nat.le_of_ble_eq_true rfl⟩) hK hNX hP hD hS 5 rfl rfl rfl rfl hl.1 rfl (Nat.le_of_ble_eq_true rfl) rd_M_compareSizes_36 ⟨Nat.zero_le _, Nat.zero_le _⟩ (fun o w1 H locs hq hP hD hS => ?_)
    obtain ⟨rfl, g_9, rfl, hg_10⟩ := hq
    have hP : va_P (dC, dI) vwCl (rC cI r ((V 3) * U1) ((V 1)) ((V 2)) ((V 3)) ((V 4)) ((V 5)) ((V 6)) (A1) (U1) (A2) (U2) (g_9) ((J 1)) ((J 2)) ((J 3)) ((J 4)) ((J 5)) ((J 6)) ((J 7)) ((J 8)) ((J 9)) ((J 10)) (pb) (pe) (ob) (oe) (b1) (e1) (b2) (e2)) H := hP
    have hD : va_D (ef_A (rC cI r ((V 0)) ((V 1)) ((V 2)) ((V 3)) ((V 4)) ((V 5)) ((V 6)) (A1) (U1) (A2) (U2) ((J 0)) ((J 1)) ((J 2)) ((J 3)) ((J 4)) ((J 5)) ((J 6)) ((J 7)) ((J 8)) ((J 9)) ((J 10)) (pb) (pe) (ob) (oe) (b1) (e1) (b2) (e2))) (rC cI r ((V 3) * U1) ((V 1)) ((V 2)) ((V 3)) ((V 4)) ((V 5)) ((V 6)) (A1) (U1) (A2) (U2) (g_9) ((J 1)) ((J 2)) ((J 3)) ((J 4)) ((J 5)) ((J 6)) ((J 7)) ((J 8)) ((J 9)) ((J 10)) (pb) (pe) (ob) (oe) (b1) (e1) (b2) (e2)) := hD
    have hg_10 : bk ((V 3) * U1) g_9 := ⟨hg_10, by omega⟩
    refine W.eq (g2 := F0 m 39 ls []) rfl ?_
    exact j39 ((V 3) * U1) (g_9) (hg_10) (rfl) H locs ls hP hD hS (lv_sub hl [0, 1, 2] rfl)
  ·
    have hq1 : U1 = 1 := by
      by_cases q : U1 = 1
      · exact q
      · rw [if_neg q] at d1; exact absurd rfl d1
    refine lv_aload_n hx hb rd_M_compareSizes_10 rfl (lv_at hl 0 rfl) ?_
    refine va_get (D := (dC, dI)) (ci := 5) (v := .ref (r 5)) (C := rR5) (T := rT5) (N := 7) hx hb hts (fun w h => List.mem_cons_of_mem _ (rin5 w h)) hown hK hP 0 rfl rfl 0 (by decide) (hts _ (List.mem_cons_of_mem _ rm_310)) (fun _ h9 => h9) rfl rd_M_compareSizes_11 ?_
    refine lv_aload_n hx hb rd_M_compareSizes_14 rfl (lv_at hl 1 rfl) ?_
    refine va_getN (D := (dC, dI)) (ci := 4) (v := .ref (r 11)) (C := rR4) (T := rT4) (N := 4) hx hb hts (fun w h => List.mem_cons_of_mem _ (rin4 w h)) hown hK hP 1 rfl rfl 1 (by decide) (hNX.use rm_287 rfl) (fun _ h9 => h9) rfl rd_M_compareSizes_15 ?_
    refine ef_callV (As := [.ref (r 11)]) (rest := []) ⟨hx, hb, hml, hown, hts⟩ (b_copy l dC dI ht (isB_c (X := (V 0)) (F := (J 0)) (ws := rC cI r ((V 0)) ((V 1)) ((V 2)) ((V 3)) ((V 4)) ((V 5)) ((V 6)) (A1) (U1) (A2) (U2) ((J 0)) ((J 1)) ((J 2)) ((J 3)) ((J 4)) ((J 5)) ((J 6)) ((J 7)) ((J 8)) ((J 9)) ((J 10)) (pb) (pe) (ob) (oe) (b1) (e1) (b2) (e2)) (k0 := 5) (k1 := 6) (by decide) rfl rfl) (isB_c (X := (V 3)) (F := (J 3)) (ws := rC cI r ((V 0)) ((V 1)) ((V 2)) ((V 3)) ((V 4)) ((V 5)) ((V 6)) (A1) (U1) (A2) (U2) ((J 0)) ((J 1)) ((J 2)) ((J 3)) ((J 4)) ((J 5)) ((J 6)) ((J 7)) ((J 8)) ((J 9)) ((J 10)) (pb) (pe) (ob) (oe) (b1) (e1) (b2) (e2)) (k0 := 11) (k1 := 12) (by decide) rfl rfl) (hJ 3 (by decide)).1 (hJ 3 (by decide)).2 (apt_c (k0 := 5) (k1 := 6) (j0 := 11) (j1 := 12) rfl)) (cwV 1 hts (ef_goodV rm_352 rm_353 rm_354 rm_25 rm_355) rfl rfl rfl (by decide +kernel) ⟨Nat.le_of_ble_eq_true rfl, Nat.le_of_ble_eq_true rfl⟩) hK hNX hP hD hS 5 rfl rfl rfl rfl hl.1 rfl (Nat.le_of_ble_eq_true rfl) rd_M_compareSizes_18 ⟨Nat.zero_le _, Nat.zero_le _⟩ (fun o w1 H locs hq hP hD hS => ?_)
    obtain ⟨rfl, g_11, rfl, hg_12⟩ := hq
    have hP : va_P (dC, dI) vwCl (rC cI r ((V 3)) ((V 1)) ((V 2)) ((V 3)) ((V 4)) ((V 5)) ((V 6)) (A1) (U1) (A2) (U2) (g_11) ((J 1)) ((J 2)) ((J 3)) ((J 4)) ((J 5)) ((J 6)) ((J 7)) ((J 8)) ((J 9)) ((J 10)) (pb) (pe) (ob) (oe) (b1) (e1) (b2) (e2)) H := hP
    have hD : va_D (ef_A (rC cI r ((V 0)) ((V 1)) ((V 2)) ((V 3)) ((V 4)) ((V 5)) ((V 6)) (A1) (U1) (A2) (U2) ((J 0)) ((J 1)) ((J 2)) ((J 3)) ((J 4)) ((J 5)) ((J 6)) ((J 7)) ((J 8)) ((J 9)) ((J 10)) (pb) (pe) (ob) (oe) (b1) (e1) (b2) (e2))) (rC cI r ((V 3)) ((V 1)) ((V 2)) ((V 3)) ((V 4)) ((V 5)) ((V 6)) (A1) (U1) (A2) (U2) (g_11) ((J 1)) ((J 2)) ((J 3)) ((J 4)) ((J 5)) ((J 6)) ((J 7)) ((J 8)) ((J 9)) ((J 10)) (pb) (pe) (ob) (oe) (b1) (e1) (b2) (e2)) := hD
    have hg_12 : bk ((V 3)) g_11 := ⟨hg_12, (hJ 3 (by decide)).2⟩
    refine W.eq (g2 := F0 m 21 ls []) rfl ?_
    refine lv_goto (tgt := 39) hx hb rd_M_compareSizes_21 (by decide) ?_
    exact j39 ((V 3)) (g_11) (hg_12) (by rw [hq1, Nat.mul_one]) H locs ls hP hD hS (lv_sub hl [0, 1, 2] rfl)

set_option maxRecDepth 100000 in
set_option maxHeartbeats 4000000 in
/-- compareSizes -/
theorem r_sizesP1 (l : Launch) (dC : Nat → ClassId) (dI : Nat → Nat → Nat) {cI : ClassId} {tys : List (ClassId × FieldType)} (ht : tys[0]? = some (cI, .int)) (r : Nat → Nat) {V : Nat → Nat} {J : Nat → Nat → Nat} {A1 U1 A2 U2 : Nat} {pb pe ob oe b1 e1 b2 e2 : Int} (hJ : rJ V J) (kA1 : bk A1 (J 7)) (kU1 : bk U1 (J 8)) (kA2 : bk A2 (J 9)) (kU2 : bk U2 (J 10)) (mA1 : dn A1 ≤ 300) (mU1 : dn U1 ≤ 300) (mA2 : dn A2 ≤ 300) (mU2 : dn U2 ≤ 300) (nPa : (V 3) ≠ 0) (nPb : A2 ≠ 0) (nQa : (V 4) ≠ 0) (nQb : U2 ≠ 0) (bPa : bl (V 3) ≤ 4800) (bQa : bl (V 4) ≤ 4800) (bPb : bl A2 ≤ 4800) (bQb : bl U2 ≤ 4800) (lea : -12000 ≤ pe) (gea : pe ≤ 12000) (leb : -12000 ≤ e2) (geb : e2 ≤ 12000) : ef_C l ry_M_compareSizes rw_M_compareSizes ({ frames := 2, cells := 0, slots := 0, locals := 51 } : Room) [.ref (r 0), .ref (r 1), .ref (r 4)] (dC, dI) vwCl tys (rC cI r ((V 0)) ((V 1)) ((V 2)) ((V 3)) ((V 4)) ((V 5)) ((V 6)) (A1) (U1) (A2) (U2) ((J 0)) ((J 1)) ((J 2)) ((J 3)) ((J 4)) ((J 5)) ((J 6)) ((J 7)) ((J 8)) ((J 9)) ((J 10)) (pb) (pe) (ob) (oe) (b1) (e1) (b2) (e2)) (fun o w1 => ∃ (V2 : Nat → Nat) (J2 : Nat → Nat → Nat) (pb2 pe2 ob2 oe2 : Int), V2 5 = V 5 ∧ V2 6 = V 6 ∧ ob2 = ob ∧ oe2 = oe ∧ o = some (.int (iv (scmp (V 3) (V 4) pe A2 U2 e2))) ∧ w1 = rC cI r (V2 0) (V2 1) (V2 2) (V2 3) (V2 4) (V2 5) (V2 6) (A1) (U1) (A2) (U2) (J2 0) (J2 1) (J2 2) (J2 3) (J2 4) (J2 5) (J2 6) (J2 7) (J2 8) (J2 9) (J2 10) (pb2) (pe2) (ob2) (oe2) (b1) (e1) (b2) (e2) ∧ rJ V2 J2 ∧ bk (A1) (J2 7) ∧ bk (U1) (J2 8) ∧ bk (A2) (J2 9) ∧ bk (U2) (J2 10)) := by
  refine ef_C.of (cc := rc_M_compareSizes) (maxL := 5) (ret := (some .int)) (by decide) rfl (Nat.le_of_ble_eq_true rfl) ?_
  intro p e s m below meth c ls hx hb hml hr hts hown hlocks hK hNX hP hD hS hl
  have hl : lv_has ls 5 [(0, .ref (r 0)), (1, .ref (r 1)), (2, .ref (r 4))] := hl
  have hown : s.vm.findClass rR5 = some m.cls := hown
  generalize hH : s.heap = H at hP ⊢
  have hS : va_S (ef_A (rC cI r ((V 0)) ((V 1)) ((V 2)) ((V 3)) ((V 4)) ((V 5)) ((V 6)) (A1) (U1) (A2) (U2) ((J 0)) ((J 1)) ((J 2)) ((J 3)) ((J 4)) ((J 5)) ((J 6)) ((J 7)) ((J 8)) ((J 9)) ((J 10)) (pb) (pe) (ob) (oe) (b1) (e1) (b2) (e2))) s.heap H [] := by rw [← hH]; exact hS
  generalize ([] : List Loc) = locs at hS ⊢
  have m1 := bl_mul_le (V 3) U2
  have m2 := bl_mul_le A2 (V 4)
  have j78 : ∀ (x1 : Nat) (f1 : Nat → Nat) (x2 : Nat) (f2 : Nat → Nat), (bk x1 f1) → (x1 = (V 3) * U2) → (bk x2 f2) → (x2 = A2 * (V 4)) → ∀ (H : Heap) (locs : List Loc) (ls : Array Slot), va_P (dC, dI) vwCl (rC cI r (x1) (x2) ((V 2)) ((V 3)) ((V 4)) ((V 5)) ((V 6)) (A1) (U1) (A2) (U2) (f1) (f2) ((J 2)) ((J 3)) ((J 4)) ((J 5)) ((J 6)) ((J 7)) ((J 8)) ((J 9)) ((J 10)) (pb) (pe) (ob) (oe) (b1) (e1) (b2) (e2)) H → va_D (ef_A (rC cI r ((V 0)) ((V 1)) ((V 2)) ((V 3)) ((V 4)) ((V 5)) ((V 6)) (A1) (U1) (A2) (U2) ((J 0)) ((J 1)) ((J 2)) ((J 3)) ((J 4)) ((J 5)) ((J 6)) ((J 7)) ((J 8)) ((J 9)) ((J 10)) (pb) (pe) (ob) (oe) (b1) (e1) (b2) (e2))) (rC cI r (x1) (x2) ((V 2)) ((V 3)) ((V 4)) ((V 5)) ((V 6)) (A1) (U1) (A2) (U2) (f1) (f2) ((J 2)) ((J 3)) ((J 4)) ((J 5)) ((J 6)) ((J 7)) ((J 8)) ((J 9)) ((J 10)) (pb) (pe) (ob) (oe) (b1) (e1) (b2) (e2)) → va_S (ef_A (rC cI r ((V 0)) ((V 1)) ((V 2)) ((V 3)) ((V 4)) ((V 5)) ((V 6)) (A1) (U1) (A2) (U2) ((J 0)) ((J 1)) ((J 2)) ((J 3)) ((J 4)) ((J 5)) ((J 6)) ((J 7)) ((J 8)) ((J 9)) ((J 10)) (pb) (pe) (ob) (oe) (b1) (e1) (b2) (e2))) s.heap H locs → lv_has ls 5 [(0, .ref (r 0)), (1, .ref (r 1)), (2, .ref (r 4))] → W p l e ({ frames := 2, cells := 0, slots := 0, locals := 51 } : Room) s m ([.ref (r 0), .ref (r 1), .ref (r 4)] : List Value).toArray below meth c H locs 0 0 (ef_R below (dC, dI) vwCl (rC cI r ((V 0)) ((V 1)) ((V 2)) ((V 3)) ((V 4)) ((V 5)) ((V 6)) (A1) (U1) (A2) (U2) ((J 0)) ((J 1)) ((J 2)) ((J 3)) ((J 4)) ((J 5)) ((J 6)) ((J 7)) ((J 8)) ((J 9)) ((J 10)) (pb) (pe) (ob) (oe) (b1) (e1) (b2) (e2)) (fun o w1 => ∃ (V2 : Nat → Nat) (J2 : Nat → Nat → Nat) (pb2 pe2 ob2 oe2 : Int), V2 5 = V 5 ∧ V2 6 = V 6 ∧ ob2 = ob ∧ oe2 = oe ∧ o = some (.int (iv (scmp (V 3) (V 4) pe A2 U2 e2))) ∧ w1 = rC cI r (V2 0) (V2 1) (V2 2) (V2 3) (V2 4) (V2 5) (V2 6) (A1) (U1) (A2) (U2) (J2 0) (J2 1) (J2 2) (J2 3) (J2 4) (J2 5) (J2 6) (J2 7) (J2 8) (J2 9) (J2 10) (pb2) (pe2) (ob2) (oe2) (b1) (e1) (b2) (e2) ∧ rJ V2 J2 ∧ bk (A1) (J2 7) ∧ bk (U1) (J2 8) ∧ bk (A2) (J2 9) ∧ bk (U2) (J2 10)) [.ref (r 0), .ref (r 1), .ref (r 4)] s) (F0 m 78 ls []) := by
    intro x1 f1 x2 f2 hb1 hx1 hb2 hx2 H locs ls hP hD hS hl
    have hs : scmp (V 3) (V 4) pe A2 U2 e2 = zc ((x1 * pw pe : Nat) : Int) ((x2 * pw e2 : Nat) : Int) := by rw [hx1, hx2]; rfl
    rw [hs]
    have n1 : x1 ≠ 0 := by rw [hx1]; exact Nat.mul_ne_zero nPa nQb
    have n2 : x2 ≠ 0 := by rw [hx2]; exact Nat.mul_ne_zero nPb nQa
    rw [← hx1] at m1
    rw [← hx2] at m2
    have w1 := dn_of_bl x1
    have w2 := dn_of_bl x2
    refine lv_aload_n hx hb rd_M_compareSizes_78 rfl (lv_at hl 0 rfl) ?_
    refine va_get (D := (dC, dI)) (ci := 5) (v := .ref (r 5)) (C := rR5) (T := rT5) (N := 7) hx hb hts (fun w h => List.mem_cons_of_mem _ (rin5 w h)) hown hK hP 0 rfl rfl 0 (by decide) (hts _ (List.mem_cons_of_mem _ rm_310)) (fun _ h9 => h9) rfl rd_M_compareSizes_79 ?_
    refine ef_callV (As := []) (rest := []) ⟨hx, hb, hml, hown, hts⟩ (b_bits l dC dI ht (isB_c (X := x1) (F := f1) (ws := rC cI r (x1) (x2) ((V 2)) ((V 3)) ((V 4)) ((V 5)) ((V 6)) (A1) (U1) (A2) (U2) (f1) (f2) ((J 2)) ((J 3)) ((J 4)) ((J 5)) ((J 6)) ((J 7)) ((J 8)) ((J 9)) ((J 10)) (pb) (pe) (ob) (oe) (b1) (e1) (b2) (e2)) (k0 := 5) (k1 := 6) (by decide) rfl rfl) hb1.1 hb1.2) (cwV 0 hts (ef_goodV rm_360 rm_361 rm_362 rm_25 rm_363) rfl rfl rfl (by decide +kernel) ⟨Nat.le_of_ble_eq_true rfl, Nat.le_of_ble_eq_true rfl⟩) hK hNX hP hD hS 5 rfl rfl rfl rfl hl.1 rfl (Nat.le_of_ble_eq_true rfl) rd_M_compareSizes_82 ⟨Nat.zero_le _, Nat.zero_le _⟩ (fun o w1 H locs hq hP hD hS => ?_)
    obtain ⟨rfl, e9⟩ := hq
    rw [e9] at hP hD
    refine W.eq (g2 := F0 m 85 ls [.int (iv ((bl (x1) : Int)))]) rfl ?_
    refine lv_aload_n hx hb rd_M_compareSizes_85 rfl (lv_at hl 1 rfl) ?_
    refine va_getN (D := (dC, dI)) (ci := 4) (v := .int (iv (pe))) (C := rR4) (T := rT4) (N := 4) hx hb hts (fun w h => List.mem_cons_of_mem _ (rin4 w h)) hown hK hP 1 rfl rfl 3 (by decide) (hNX.use rm_290 rfl) (fun _ h9 => h9) rfl rd_M_compareSizes_86 ?_
    refine iw_iadd hx hb rd_M_compareSizes_89 ?_
    refine lv_istore_n (lv' := [(3, .int (iv (((bl (x1) : Int)) + (pe)))), (0, .ref (r 0)), (1, .ref (r 1)), (2, .ref (r 4))]) hx hb rd_M_compareSizes_90 rfl hl (by decide) rfl (fun ls hl => ?_)
    refine lv_aload_n hx hb rd_M_compareSizes_91 rfl (lv_at hl 1 rfl) ?_
    refine va_get (D := (dC, dI)) (ci := 5) (v := .ref (r 7)) (C := rR5) (T := rT5) (N := 7) hx hb hts (fun w h => List.mem_cons_of_mem _ (rin5 w h)) hown hK hP 0 rfl rfl 1 (by decide) (hts _ (List.mem_cons_of_mem _ rm_311)) (fun _ h9 => h9) rfl rd_M_compareSizes_92 ?_
    refine ef_callV (As := []) (rest := []) ⟨hx, hb, hml, hown, hts⟩ (b_bits l dC dI ht (isB_c (X := x2) (F := f2) (ws := rC cI r (x1) (x2) ((V 2)) ((V 3)) ((V 4)) ((V 5)) ((V 6)) (A1) (U1) (A2) (U2) (f1) (f2) ((J 2)) ((J 3)) ((J 4)) ((J 5)) ((J 6)) ((J 7)) ((J 8)) ((J 9)) ((J 10)) (pb) (pe) (ob) (oe) (b1) (e1) (b2) (e2)) (k0 := 7) (k1 := 8) (by decide) rfl rfl) hb2.1 hb2.2) (cwV 0 hts (ef_goodV rm_360 rm_361 rm_362 rm_25 rm_363) rfl rfl rfl (by decide +kernel) ⟨Nat.le_of_ble_eq_true rfl, Nat.le_of_ble_eq_true rfl⟩) hK hNX hP hD hS 7 rfl rfl rfl rfl hl.1 rfl (Nat.le_of_ble_eq_true rfl) rd_M_compareSizes_95 ⟨Nat.zero_le _, Nat.zero_le _⟩ (fun o w1 H locs hq hP hD hS => ?_)
    obtain ⟨rfl, e9⟩ := hq
    rw [e9] at hP hD
    refine W.eq (g2 := F0 m 98 ls [.int (iv ((bl (x2) : Int)))]) rfl ?_
    refine lv_aload_n hx hb rd_M_compareSizes_98 rfl (lv_at hl 3 rfl) ?_
    refine va_getN (D := (dC, dI)) (ci := 4) (v := .int (iv (e2))) (C := rR4) (T := rT4) (N := 4) hx hb hts (fun w h => List.mem_cons_of_mem _ (rin4 w h)) hown hK hP 4 rfl rfl 3 (by decide) (hNX.use rm_290 rfl) (fun _ h9 => h9) rfl rd_M_compareSizes_99 ?_
    refine iw_iadd hx hb rd_M_compareSizes_102 ?_
    refine lv_istore (lv' := [(4, .int (iv (((bl (x2) : Int)) + (e2)))), (3, .int (iv (((bl (x1) : Int)) + (pe)))), (0, .ref (r 0)), (1, .ref (r 1)), (2, .ref (r 4))]) hx hb rd_M_compareSizes_103 hl (by decide) rfl (fun ls hl => ?_)
    refine lv_iload_n hx hb rd_M_compareSizes_105 rfl (lv_at hl 1 rfl) ?_
    refine lv_iload hx hb rd_M_compareSizes_106 (lv_at hl 0 rfl) ?_
    refine iw_icmp_eq (tgt := 123) hx hb rd_M_compareSizes_108 (by decide) ⟨by omega, by omega⟩ ⟨by omega, by omega⟩ (fun c1 => ?_) (fun c1 => ?_)
    ·
      refine lv_aload_n hx hb rd_M_compareSizes_123 rfl (lv_at hl 3 rfl) ?_
      refine va_getN (D := (dC, dI)) (ci := 4) (v := .int (iv (pe))) (C := rR4) (T := rT4) (N := 4) hx hb hts (fun w h => List.mem_cons_of_mem _ (rin4 w h)) hown hK hP 1 rfl rfl 3 (by decide) (hNX.use rm_290 rfl) (fun _ h9 => h9) rfl rd_M_compareSizes_124 ?_
      refine lv_aload_n hx hb rd_M_compareSizes_127 rfl (lv_at hl 4 rfl) ?_
      refine va_getN (D := (dC, dI)) (ci := 4) (v := .int (iv (e2))) (C := rR4) (T := rT4) (N := 4) hx hb hts (fun w h => List.mem_cons_of_mem _ (rin4 w h)) hown hK hP 4 rfl rfl 3 (by decide) (hNX.use rm_290 rfl) (fun _ h9 => h9) rfl rd_M_compareSizes_128 ?_
      refine iw_icmp_le (tgt := 153) hx hb rd_M_compareSizes_131 (by decide) ⟨by omega, by omega⟩ ⟨by omega, by omega⟩ (fun c2 => ?_) (fun c2 => ?_)
      ·
        obtain ⟨k, hk⟩ : ∃ k : Nat, e2 = pe + (k : Int) := ⟨(e2 - pe).toNat, by omega⟩
        have hz9 : zc ((x1 * pw pe : Nat) : Int) ((x2 * pw e2 : Nat) : Int) = zc (x1 : Int) ((x2 * 2 ^ k : Nat) : Int) := by rw [hk, pw_add (by omega), Nat.mul_comm (pw pe), ← Nat.mul_assoc, zc_mul (pw_pos pe)]
        have hbs := bl_shift n2 k
        have hdn := dn_of_bl (x2 * 2 ^ k)
        refine lv_aload_n hx hb rd_M_compareSizes_153 rfl (lv_at hl 2 rfl) ?_
        refine va_get (D := (dC, dI)) (ci := 5) (v := .ref (r 7)) (C := rR5) (T := rT5) (N := 7) hx hb hts (fun w h => List.mem_cons_of_mem _ (rin5 w h)) hown hK hP 0 rfl rfl 1 (by decide) (hts _ (List.mem_cons_of_mem _ rm_311)) (fun _ h9 => h9) rfl rd_M_compareSizes_154 ?_
        refine lv_aload_n hx hb rd_M_compareSizes_157 rfl (lv_at hl 4 rfl) ?_
        refine va_getN (D := (dC, dI)) (ci := 4) (v := .int (iv (e2))) (C := rR4) (T := rT4) (N := 4) hx hb hts (fun w h => List.mem_cons_of_mem _ (rin4 w h)) hown hK hP 4 rfl rfl 3 (by decide) (hNX.use rm_290 rfl) (fun _ h9 => h9) rfl rd_M_compareSizes_158 ?_
        refine lv_aload_n hx hb rd_M_compareSizes_161 rfl (lv_at hl 3 rfl) ?_
        refine va_getN (D := (dC, dI)) (ci := 4) (v := .int (iv (pe))) (C := rR4) (T := rT4) (N := 4) hx hb hts (fun w h => List.mem_cons_of_mem _ (rin4 w h)) hown hK hP 1 rfl rfl 3 (by decide) (hNX.use rm_290 rfl) (fun _ h9 => h9) rfl rd_M_compareSizes_162 ?_
        refine iw_isub hx hb rd_M_compareSizes_165 ?_
        refine iw_topi (y := iv ((k : Int))) (congrArg iv (by omega : (((e2) - (pe)) : Int) = ((k : Int)))) ?_
        refine ef_callV (As := [.int (iv ((k : Int)))]) (rest := []) ⟨hx, hb, hml, hown, hts⟩ (b_shift l dC dI ht (isB_c (X := x2) (F := f2) (ws := rC cI r (x1) (x2) ((V 2)) ((V 3)) ((V 4)) ((V 5)) ((V 6)) (A1) (U1) (A2) (U2) (f1) (f2) ((J 2)) ((J 3)) ((J 4)) ((J 5)) ((J 6)) ((J 7)) ((J 8)) ((J 9)) ((J 10)) (pb) (pe) (ob) (oe) (b1) (e1) (b2) (e2)) (k0 := 7) (k1 := 8) (by decide) rfl rfl) hb2.1 n2 k (by omega)) (cwV 1 hts (ef_goodV rm_430 rm_431 rm_432 rm_25 rm_433) rfl rfl rfl (by decide +kernel) ⟨Nat.le_of_ble_eq_true rfl, Nat.le_of_ble_eq_true rfl⟩) hK hNX hP hD hS 7 rfl rfl rfl rfl hl.1 rfl (Nat.le_of_ble_eq_true rfl) rd_M_compareSizes_166 ⟨Nat.zero_le _, Nat.zero_le _⟩ (fun o w1 H locs hq hP hD hS => ?_)
        obtain ⟨rfl, g_1, rfl, hg_2⟩ := hq
        have hP : va_P (dC, dI) vwCl (rC cI r (x1) (x2 * 2 ^ k) ((V 2)) ((V 3)) ((V 4)) ((V 5)) ((V 6)) (A1) (U1) (A2) (U2) (f1) (g_1) ((J 2)) ((J 3)) ((J 4)) ((J 5)) ((J 6)) ((J 7)) ((J 8)) ((J 9)) ((J 10)) (pb) (pe) (ob) (oe) (b1) (e1) (b2) (e2)) H := hP
        have hD : va_D (ef_A (rC cI r ((V 0)) ((V 1)) ((V 2)) ((V 3)) ((V 4)) ((V 5)) ((V 6)) (A1) (U1) (A2) (U2) ((J 0)) ((J 1)) ((J 2)) ((J 3)) ((J 4)) ((J 5)) ((J 6)) ((J 7)) ((J 8)) ((J 9)) ((J 10)) (pb) (pe) (ob) (oe) (b1) (e1) (b2) (e2))) (rC cI r (x1) (x2 * 2 ^ k) ((V 2)) ((V 3)) ((V 4)) ((V 5)) ((V 6)) (A1) (U1) (A2) (U2) (f1) (g_1) ((J 2)) ((J 3)) ((J 4)) ((J 5)) ((J 6)) ((J 7)) ((J 8)) ((J 9)) ((J 10)) (pb) (pe) (ob) (oe) (b1) (e1) (b2) (e2)) := hD
        have hg_2 : bk (x2 * 2 ^ k) g_1 := ⟨hg_2, by omega⟩
        refine W.eq (g2 := F0 m 169 ls []) rfl ?_
        refine lv_aload_n hx hb rd_M_compareSizes_169 rfl (lv_at hl 2 rfl) ?_
        refine va_get (D := (dC, dI)) (ci := 5) (v := .ref (r 5)) (C := rR5) (T := rT5) (N := 7) hx hb hts (fun w h => List.mem_cons_of_mem _ (rin5 w h)) hown hK hP 0 rfl rfl 0 (by decide) (hts _ (List.mem_cons_of_mem _ rm_310)) (fun _ h9 => h9) rfl rd_M_compareSizes_170 ?_
        refine lv_aload_n hx hb rd_M_compareSizes_173 rfl (lv_at hl 2 rfl) ?_
        refine va_get (D := (dC, dI)) (ci := 5) (v := .ref (r 7)) (C := rR5) (T := rT5) (N := 7) hx hb hts (fun w h => List.mem_cons_of_mem _ (rin5 w h)) hown hK hP 0 rfl rfl 1 (by decide) (hts _ (List.mem_cons_of_mem _ rm_311)) (fun _ h9 => h9) rfl rd_M_compareSizes_174 ?_
        refine ef_callV (As := [.ref (r 7)]) (rest := []) ⟨hx, hb, hml, hown, hts⟩ (b_compare l dC dI ht (isB_c (X := x1) (F := f1) (ws := rC cI r (x1) (x2 * 2 ^ k) ((V 2)) ((V 3)) ((V 4)) ((V 5)) ((V 6)) (A1) (U1) (A2) (U2) (f1) (g_1) ((J 2)) ((J 3)) ((J 4)) ((J 5)) ((J 6)) ((J 7)) ((J 8)) ((J 9)) ((J 10)) (pb) (pe) (ob) (oe) (b1) (e1) (b2) (e2)) (k0 := 5) (k1 := 6) (by decide) rfl rfl) hb1.1 hb1.2 (isB_c (X := x2 * 2 ^ k) (F := g_1) (ws := rC cI r (x1) (x2 * 2 ^ k) ((V 2)) ((V 3)) ((V 4)) ((V 5)) ((V 6)) (A1) (U1) (A2) (U2) (f1) (g_1) ((J 2)) ((J 3)) ((J 4)) ((J 5)) ((J 6)) ((J 7)) ((J 8)) ((J 9)) ((J 10)) (pb) (pe) (ob) (oe) (b1) (e1) (b2) (e2)) (k0 := 7) (k1 := 8) (by decide) rfl rfl) hg_2.1 hg_2.2) (cwV 1 hts (ef_goodV rm_386 rm_387 rm_388 rm_25 rm_389) rfl rfl rfl (by decide +kernel) ⟨Nat.le_of_ble_eq_true rfl, Nat.le_of_ble_eq_true rfl⟩) hK hNX hP hD hS 5 rfl rfl rfl rfl hl.1 rfl (Nat.le_of_ble_eq_true rfl) rd_M_compareSizes_177 ⟨Nat.zero_le _, Nat.zero_le _⟩ (fun o w1 H locs hq hP hD hS => ?_)
        obtain ⟨rfl, e9⟩ := hq
        rw [e9] at hP hD
        refine W.eq (g2 := F0 m 180 ls [.int (iv (zc (x1 : Int) ((x2 * 2 ^ k : Nat) : Int)))]) rfl ?_
        exact ef_iret hx hb hr hlocks hP hD hS rd_M_compareSizes_180 (by rw [hz9]; exact ⟨fun i => [(x1), (x2 * 2 ^ k), ((V 2)), ((V 3)), ((V 4)), ((V 5)), ((V 6))].getD i 0, fun i => [(f1), (g_1), ((J 2)), ((J 3)), ((J 4)), ((J 5)), ((J 6)), ((J 7)), ((J 8)), ((J 9)), ((J 10))].getD i (fun _ => 0), _, _, _, _, rfl, rfl, rfl, rfl, rfl, rfl, rJ_of hb1 hg_2 (hJ 2 (by decide)) (hJ 3 (by decide)) (hJ 4 (by decide)) (hJ 5 (by decide)) (hJ 6 (by decide)), kA1, kU1, kA2, kU2⟩)
      ·
        obtain ⟨k, hk⟩ : ∃ k : Nat, pe = e2 + (k : Int) := ⟨(pe - e2).toNat, by omega⟩
        have hz9 : zc ((x1 * pw pe : Nat) : Int) ((x2 * pw e2 : Nat) : Int) = zc ((x1 * 2 ^ k : Nat) : Int) (x2 : Int) := by rw [hk, pw_add (by omega), Nat.mul_comm (pw e2), ← Nat.mul_assoc, zc_mul (pw_pos e2)]
        have hbs := bl_shift n1 k
        have hdn := dn_of_bl (x1 * 2 ^ k)
        refine lv_aload_n hx hb rd_M_compareSizes_134 rfl (lv_at hl 2 rfl) ?_
        refine va_get (D := (dC, dI)) (ci := 5) (v := .ref (r 5)) (C := rR5) (T := rT5) (N := 7) hx hb hts (fun w h => List.mem_cons_of_mem _ (rin5 w h)) hown hK hP 0 rfl rfl 0 (by decide) (hts _ (List.mem_cons_of_mem _ rm_310)) (fun _ h9 => h9) rfl rd_M_compareSizes_135 ?_
        refine lv_aload_n hx hb rd_M_compareSizes_138 rfl (lv_at hl 3 rfl) ?_
        refine va_getN (D := (dC, dI)) (ci := 4) (v := .int (iv (pe))) (C := rR4) (T := rT4) (N := 4) hx hb hts (fun w h => List.mem_cons_of_mem _ (rin4 w h)) hown hK hP 1 rfl rfl 3 (by decide) (hNX.use rm_290 rfl) (fun _ h9 => h9) rfl rd_M_compareSizes_139 ?_
        refine lv_aload_n hx hb rd_M_compareSizes_142 rfl (lv_at hl 4 rfl) ?_
        refine va_getN (D := (dC, dI)) (ci := 4) (v := .int (iv (e2))) (C := rR4) (T := rT4) (N := 4) hx hb hts (fun w h => List.mem_cons_of_mem _ (rin4 w h)) hown hK hP 4 rfl rfl 3 (by decide) (hNX.use rm_290 rfl) (fun _ h9 => h9) rfl rd_M_compareSizes_143 ?_
        refine iw_isub hx hb rd_M_compareSizes_146 ?_
        refine iw_topi (y := iv ((k : Int))) (congrArg iv (by omega : (((pe) - (e2)) : Int) = ((k : Int)))) ?_
        refine ef_callV (As := [.int (iv ((k : Int)))]) (rest := []) ⟨hx, hb, hml, hown, hts⟩ (b_shift l dC dI ht (isB_c (X := x1) (F := f1) (ws := rC cI r (x1) (x2) ((V 2)) ((V 3)) ((V 4)) ((V 5)) ((V 6)) (A1) (U1) (A2) (U2) (f1) (f2) ((J 2)) ((J 3)) ((J 4)) ((J 5)) ((J 6)) ((J 7)) ((J 8)) ((J 9)) ((J 10)) (pb) (pe) (ob) (oe) (b1) (e1) (b2) (e2)) (k0 := 5) (k1 := 6) (by decide) rfl rfl) hb1.1 n1 k (by omega)) (cwV 1 hts (ef_goodV rm_430 rm_431 rm_432 rm_25 rm_433) rfl rfl rfl (by decide +kernel) ⟨Nat.le_of_ble_eq_true rfl, Nat.le_of_ble_eq_true rfl⟩) hK hNX hP hD hS 5 rfl rfl rfl rfl hl.1 rfl (Nat.le_of_ble_eq_true rfl) rd_M_compareSizes_147 ⟨Nat.zero_le _, Nat.zero_le _⟩ (fun o w1 H locs hq hP hD hS => ?_)
        obtain ⟨rfl, g_3, rfl, hg_4⟩ := hq
        have hP : va_P (dC, dI) vwCl (rC cI r (x1 * 2 ^ k) (x2) ((V 2)) ((V 3)) ((V 4)) ((V 5)) ((V 6)) (A1) (U1) (A2) (U2) (g_3) (f2) ((J 2)) ((J 3)) ((J 4)) ((J 5)) ((J 6)) ((J 7)) ((J 8)) ((J 9)) ((J 10)) (pb) (pe) (ob) (oe) (b1) (e1) (b2) (e2)) H := hP
        have hD : va_D (ef_A (rC cI r ((V 0)) ((V 1)) ((V 2)) ((V 3)) ((V 4)) ((V 5)) ((V 6)) (A1) (U1) (A2) (U2) ((J 0)) ((J 1)) ((J 2)) ((J 3)) ((J 4)) ((J 5)) ((J 6)) ((J 7)) ((J 8)) ((J 9)) ((J 10)) (pb) (pe) (ob) (oe) (b1) (e1) (b2) (e2))) (rC cI r (x1 * 2 ^ k) (x2) ((V 2)) ((V 3)) ((V 4)) ((V 5)) ((V 6)) (A1) (U1) (A2) (U2) (g_3) (f2) ((J 2)) ((J 3)) ((J 4)) ((J 5)) ((J 6)) ((J 7)) ((J 8)) ((J 9)) ((J 10)) (pb) (pe) (ob) (oe) (b1) (e1) (b2) (e2)) := hD
        have hg_4 : bk (x1 * 2 ^ k) g_3 := ⟨hg_4, by omega⟩
        refine W.eq (g2 := F0 m 150 ls []) rfl ?_
        refine lv_goto (tgt := 169) hx hb rd_M_compareSizes_150 (by decide) ?_
        refine lv_aload_n hx hb rd_M_compareSizes_169 rfl (lv_at hl 2 rfl) ?_
        refine va_get (D := (dC, dI)) (ci := 5) (v := .ref (r 5)) (C := rR5) (T := rT5) (N := 7) hx hb hts (fun w h => List.mem_cons_of_mem _ (rin5 w h)) hown hK hP 0 rfl rfl 0 (by decide) (hts _ (List.mem_cons_of_mem _ rm_310)) (fun _ h9 => h9) rfl rd_M_compareSizes_170 ?_
        refine lv_aload_n hx hb rd_M_compareSizes_173 rfl (lv_at hl 2 rfl) ?_
        refine va_get (D := (dC, dI)) (ci := 5) (v := .ref (r 7)) (C := rR5) (T := rT5) (N := 7) hx hb hts (fun w h => List.mem_cons_of_mem _ (rin5 w h)) hown hK hP 0 rfl rfl 1 (by decide) (hts _ (List.mem_cons_of_mem _ rm_311)) (fun _ h9 => h9) rfl rd_M_compareSizes_174 ?_
        refine ef_callV (As := [.ref (r 7)]) (rest := []) ⟨hx, hb, hml, hown, hts⟩ (b_compare l dC dI ht (isB_c (X := x1 * 2 ^ k) (F := g_3) (ws := rC cI r (x1 * 2 ^ k) (x2) ((V 2)) ((V 3)) ((V 4)) ((V 5)) ((V 6)) (A1) (U1) (A2) (U2) (g_3) (f2) ((J 2)) ((J 3)) ((J 4)) ((J 5)) ((J 6)) ((J 7)) ((J 8)) ((J 9)) ((J 10)) (pb) (pe) (ob) (oe) (b1) (e1) (b2) (e2)) (k0 := 5) (k1 := 6) (by decide) rfl rfl) hg_4.1 hg_4.2 (isB_c (X := x2) (F := f2) (ws := rC cI r (x1 * 2 ^ k) (x2) ((V 2)) ((V 3)) ((V 4)) ((V 5)) ((V 6)) (A1) (U1) (A2) (U2) (g_3) (f2) ((J 2)) ((J 3)) ((J 4)) ((J 5)) ((J 6)) ((J 7)) ((J 8)) ((J 9)) ((J 10)) (pb) (pe) (ob) (oe) (b1) (e1) (b2) (e2)) (k0 := 7) (k1 := 8) (by decide) rfl rfl) hb2.1 hb2.2) (cwV 1 hts (ef_goodV rm_386 rm_387 rm_388 rm_25 rm_389) rfl rfl rfl (by decide +kernel) ⟨Nat.le_of_ble_eq_true rfl, Nat.le_of_ble_eq_true rfl⟩) hK hNX hP hD hS 5 rfl rfl rfl rfl hl.1 rfl (Nat.le_of_ble_eq_true rfl) rd_M_compareSizes_177 ⟨Nat.zero_le _, Nat.zero_le _⟩ (fun o w1 H locs hq hP hD hS => ?_)
        obtain ⟨rfl, e9⟩ := hq
        rw [e9] at hP hD
        refine W.eq (g2 := F0 m 180 ls [.int (iv (zc ((x1 * 2 ^ k : Nat) : Int) (x2 : Int)))]) rfl ?_
        exact ef_iret hx hb hr hlocks hP hD hS rd_M_compareSizes_180 (by rw [hz9]; exact ⟨fun i => [(x1 * 2 ^ k), (x2), ((V 2)), ((V 3)), ((V 4)), ((V 5)), ((V 6))].getD i 0, fun i => [(g_3), (f2), ((J 2)), ((J 3)), ((J 4)), ((J 5)), ((J 6)), ((J 7)), ((J 8)), ((J 9)), ((J 10))].getD i (fun _ => 0), _, _, _, _, rfl, rfl, rfl, rfl, rfl, rfl, rJ_of hg_4 hb2 (hJ 2 (by decide)) (hJ 3 (by decide)) (hJ 4 (by decide)) (hJ 5 (by decide)) (hJ 6 (by decide)), kA1, kU1, kA2, kU2⟩)
    ·
      refine lv_iload_n hx hb rd_M_compareSizes_111 rfl (lv_at hl 1 rfl) ?_
      refine lv_iload hx hb rd_M_compareSizes_112 (lv_at hl 0 rfl) ?_
      refine iw_icmp_ge (tgt := 121) hx hb rd_M_compareSizes_114 (by decide) ⟨by omega, by omega⟩ ⟨by omega, by omega⟩ (fun c3 => ?_) (fun c3 => ?_)
      ·
        have q3 := cmp_bl (X := x2) (Y := x1) n1 (by omega : -20000 ≤ e2) (by omega : -20000 ≤ pe) (by omega)
        refine lv_iconst (v := iv (1)) hx hb rd_M_compareSizes_121 (by decide) ?_
        exact ef_iret hx hb hr hlocks hP hD hS rd_M_compareSizes_122 (by rw [zc_gt (by omega)]; exact ⟨fun i => [(x1), (x2), ((V 2)), ((V 3)), ((V 4)), ((V 5)), ((V 6))].getD i 0, fun i => [(f1), (f2), ((J 2)), ((J 3)), ((J 4)), ((J 5)), ((J 6)), ((J 7)), ((J 8)), ((J 9)), ((J 10))].getD i (fun _ => 0), _, _, _, _, rfl, rfl, rfl, rfl, rfl, rfl, rJ_of hb1 hb2 (hJ 2 (by decide)) (hJ 3 (by decide)) (hJ 4 (by decide)) (hJ 5 (by decide)) (hJ 6 (by decide)), kA1, kU1, kA2, kU2⟩)
      ·
        have q3 := cmp_bl (X := x1) (Y := x2) n2 (by omega : -20000 ≤ pe) (by omega : -20000 ≤ e2) (by omega)
        refine lv_iconst (v := iv (-1)) hx hb rd_M_compareSizes_117 (by decide) ?_
        refine lv_goto (tgt := 122) hx hb rd_M_compareSizes_118 (by decide) ?_
        exact ef_iret hx hb hr hlocks hP hD hS rd_M_compareSizes_122 (by rw [zc_lt (by omega)]; exact ⟨fun i => [(x1), (x2), ((V 2)), ((V 3)), ((V 4)), ((V 5)), ((V 6))].getD i 0, fun i => [(f1), (f2), ((J 2)), ((J 3)), ((J 4)), ((J 5)), ((J 6)), ((J 7)), ((J 8)), ((J 9)), ((J 10))].getD i (fun _ => 0), _, _, _, _, rfl, rfl, rfl, rfl, rfl, rfl, rJ_of hb1 hb2 (hJ 2 (by decide)) (hJ 3 (by decide)) (hJ 4 (by decide)) (hJ 5 (by decide)) (hJ 6 (by decide)), kA1, kU1, kA2, kU2⟩)
  have j39 : ∀ (x1 : Nat) (f1 : Nat → Nat), (bk x1 f1) → (x1 = (V 3) * U2) → ∀ (H : Heap) (locs : List Loc) (ls : Array Slot), va_P (dC, dI) vwCl (rC cI r (x1) ((V 1)) ((V 2)) ((V 3)) ((V 4)) ((V 5)) ((V 6)) (A1) (U1) (A2) (U2) (f1) ((J 1)) ((J 2)) ((J 3)) ((J 4)) ((J 5)) ((J 6)) ((J 7)) ((J 8)) ((J 9)) ((J 10)) (pb) (pe) (ob) (oe) (b1) (e1) (b2) (e2)) H → va_D (ef_A (rC cI r ((V 0)) ((V 1)) ((V 2)) ((V 3)) ((V 4)) ((V 5)) ((V 6)) (A1) (U1) (A2) (U2) ((J 0)) ((J 1)) ((J 2)) ((J 3)) ((J 4)) ((J 5)) ((J 6)) ((J 7)) ((J 8)) ((J 9)) ((J 10)) (pb) (pe) (ob) (oe) (b1) (e1) (b2) (e2))) (rC cI r (x1) ((V 1)) ((V 2)) ((V 3)) ((V 4)) ((V 5)) ((V 6)) (A1) (U1) (A2) (U2) (f1) ((J 1)) ((J 2)) ((J 3)) ((J 4)) ((J 5)) ((J 6)) ((J 7)) ((J 8)) ((J 9)) ((J 10)) (pb) (pe) (ob) (oe) (b1) (e1) (b2) (e2)) → va_S (ef_A (rC cI r ((V 0)) ((V 1)) ((V 2)) ((V 3)) ((V 4)) ((V 5)) ((V 6)) (A1) (U1) (A2) (U2) ((J 0)) ((J 1)) ((J 2)) ((J 3)) ((J 4)) ((J 5)) ((J 6)) ((J 7)) ((J 8)) ((J 9)) ((J 10)) (pb) (pe) (ob) (oe) (b1) (e1) (b2) (e2))) s.heap H locs → lv_has ls 5 [(0, .ref (r 0)), (1, .ref (r 1)), (2, .ref (r 4))] → W p l e ({ frames := 2, cells := 0, slots := 0, locals := 51 } : Room) s m ([.ref (r 0), .ref (r 1), .ref (r 4)] : List Value).toArray below meth c H locs 0 0 (ef_R below (dC, dI) vwCl (rC cI r ((V 0)) ((V 1)) ((V 2)) ((V 3)) ((V 4)) ((V 5)) ((V 6)) (A1) (U1) (A2) (U2) ((J 0)) ((J 1)) ((J 2)) ((J 3)) ((J 4)) ((J 5)) ((J 6)) ((J 7)) ((J 8)) ((J 9)) ((J 10)) (pb) (pe) (ob) (oe) (b1) (e1) (b2) (e2)) (fun o w1 => ∃ (V2 : Nat → Nat) (J2 : Nat → Nat → Nat) (pb2 pe2 ob2 oe2 : Int), V2 5 = V 5 ∧ V2 6 = V 6 ∧ ob2 = ob ∧ oe2 = oe ∧ o = some (.int (iv (scmp (V 3) (V 4) pe A2 U2 e2))) ∧ w1 = rC cI r (V2 0) (V2 1) (V2 2) (V2 3) (V2 4) (V2 5) (V2 6) (A1) (U1) (A2) (U2) (J2 0) (J2 1) (J2 2) (J2 3) (J2 4) (J2 5) (J2 6) (J2 7) (J2 8) (J2 9) (J2 10) (pb2) (pe2) (ob2) (oe2) (b1) (e1) (b2) (e2) ∧ rJ V2 J2 ∧ bk (A1) (J2 7) ∧ bk (U1) (J2 8) ∧ bk (A2) (J2 9) ∧ bk (U2) (J2 10)) [.ref (r 0), .ref (r 1), .ref (r 4)] s) (F0 m 39 ls []) := by
    intro x1 f1 hb1 hx1 H locs ls hP hD hS hl
    refine lv_aload_n hx hb rd_M_compareSizes_39 rfl (lv_at hl 1 rfl) ?_
    refine va_getN (D := (dC, dI)) (ci := 4) (v := .ref (r 13)) (C := rR4) (T := rT4) (N := 4) hx hb hts (fun w h => List.mem_cons_of_mem _ (rin4 w h)) hown hK hP 1 rfl rfl 2 (by decide) (hNX.use rm_288 rfl) (fun _ h9 => h9) rfl rd_M_compareSizes_40 ?_
    refine ef_callV (As := []) (rest := []) ⟨hx, hb, hml, hown, hts⟩ (b_isOne l dC dI ht (isB_c (X := (V 4)) (F := (J 4)) (ws := rC cI r (x1) ((V 1)) ((V 2)) ((V 3)) ((V 4)) ((V 5)) ((V 6)) (A1) (U1) (A2) (U2) (f1) ((J 1)) ((J 2)) ((J 3)) ((J 4)) ((J 5)) ((J 6)) ((J 7)) ((J 8)) ((J 9)) ((J 10)) (pb) (pe) (ob) (oe) (b1) (e1) (b2) (e2)) (k0 := 13) (k1 := 14) (by decide) rfl rfl) (hJ 4 (by decide)).1 (hJ 4 (by decide)).2) (cwV 0 hts (ef_goodV rm_422 rm_423 rm_424 rm_25 rm_425) rfl rfl rfl (by decide +kernel) ⟨Nat.le_of_ble_eq_true rfl, Nat.le_of_ble_eq_true rfl⟩) hK hNX hP hD hS 13 rfl rfl rfl rfl hl.1 rfl (Nat.le_of_ble_eq_true rfl) rd_M_compareSizes_43 ⟨Nat.zero_le _, Nat.zero_le _⟩ (fun o w1 H locs hq hP hD hS => ?_)
    obtain ⟨rfl, e9⟩ := hq
    rw [e9] at hP hD
    refine W.eq (g2 := F0 m 46 ls [.int (iv (if (V 4) = 1 then 1 else 0))]) rfl ?_
    have hc0 : ir (if (V 4) = 1 then 1 else 0) := by split <;> exact ⟨by omega, by omega⟩
    refine iw_if_eq (tgt := 63) hx hb rd_M_compareSizes_46 (by decide) (hc0) (fun d1 => ?_) (fun d1 => ?_)
    ·
      have hq1 : (V 4) ≠ 1 := fun q => by rw [if_pos q] at d1; exact absurd d1 (by decide)
      have nPx : A2 ≠ 0 := by assumption
      have nQx : (V 4) ≠ 0 := by assumption
      have wp1 := dn_of_bl A2
      have wp2 := dn_of_bl (V 4)
      have wp3 := dn_of_bl (A2 * (V 4))
      have wp4 := bl_mul_le A2 (V 4)
      refine lv_aload_n hx hb rd_M_compareSizes_63 rfl (lv_at hl 0 rfl) ?_
      refine va_get (D := (dC, dI)) (ci := 5) (v := .ref (r 7)) (C := rR5) (T := rT5) (N := 7) hx hb hts (fun w h => List.mem_cons_of_mem _ (rin5 w h)) hown hK hP 0 rfl rfl 1 (by decide) (hts _ (List.mem_cons_of_mem _ rm_311)) (fun _ h9 => h9) rfl rd_M_compareSizes_64 ?_
      refine lv_aload_n hx hb rd_M_compareSizes_67 rfl (lv_at hl 2 rfl) ?_
      refine va_getN (D := (dC, dI)) (ci := 4) (v := .ref (r 23)) (C := rR4) (T := rT4) (N := 4) hx hb hts (fun w h => List.mem_cons_of_mem _ (rin4 w h)) hown hK hP 4 rfl rfl 1 (by decide) (hNX.use rm_287 rfl) (fun _ h9 => h9) rfl rd_M_compareSizes_68 ?_
      refine lv_aload_n hx hb rd_M_compareSizes_71 rfl (lv_at hl 1 rfl) ?_
      refine va_getN (D := (dC, dI)) (ci := 4) (v := .ref (r 13)) (C := rR4) (T := rT4) (N := 4) hx hb hts (fun w h => List.mem_cons_of_mem _ (rin4 w h)) hown hK hP 1 rfl rfl 2 (by decide) (hNX.use rm_288 rfl) (fun _ h9 => h9) rfl rd_M_compareSizes_72 ?_
      refine ef_callV (As := [.ref (r 23), .ref (r 13)]) (rest := []) ⟨hx, hb, hml, hown, hts⟩ (b_product l dC dI ht (isB_c (X := (V 1)) (F := (J 1)) (ws := rC cI r (x1) ((V 1)) ((V 2)) ((V 3)) ((V 4)) ((V 5)) ((V 6)) (A1) (U1) (A2) (U2) (f1) ((J 1)) ((J 2)) ((J 3)) ((J 4)) ((J 5)) ((J 6)) ((J 7)) ((J 8)) ((J 9)) ((J 10)) (pb) (pe) (ob) (oe) (b1) (e1) (b2) (e2)) (k0 := 7) (k1 := 8) (by decide) rfl rfl) (isB_c (X := A2) (F := (J 9)) (ws := rC cI r (x1) ((V 1)) ((V 2)) ((V 3)) ((V 4)) ((V 5)) ((V 6)) (A1) (U1) (A2) (U2) (f1) ((J 1)) ((J 2)) ((J 3)) ((J 4)) ((J 5)) ((J 6)) ((J 7)) ((J 8)) ((J 9)) ((J 10)) (pb) (pe) (ob) (oe) (b1) (e1) (b2) (e2)) (k0 := 23) (k1 := 24) (by decide) rfl rfl) kA2.1 (apt_c (k0 := 7) (k1 := 8) (j0 := 23) (j1 := 24) rfl) (isB_c (X := (V 4)) (F := (J 4)) (ws := rC cI r (x1) ((V 1)) ((V 2)) ((V 3)) ((V 4)) ((V 5)) ((V 6)) (A1) (U1) (A2) (U2) (f1) ((J 1)) ((J 2)) ((J 3)) ((J 4)) ((J 5)) ((J 6)) ((J 7)) ((J 8)) ((J 9)) ((J 10)) (pb) (pe) (ob) (oe) (b1) (e1) (b2) (e2)) (k0 := 13) (k1 := 14) (by decide) rfl rfl) (hJ 4 (by decide)).1 (apt_c (k0 := 7) (k1 := 8) (j0 := 13) (j1 := 14) rfl) nPx nQx (by omega)) (cwV 2 hts (ef_goodV rm_426 rm_427 rm_428 rm_25 rm_429) rfl rfl rfl (by decide +kernel) ⟨Nat.le_of_ble_eq_true rfl, Nat.le_of_ble_eq_true rfl⟩) hK hNX hP hD hS 7 rfl rfl rfl rfl hl.1 rfl (Nat.le_of_ble_eq_true rfl) rd_M_compareSizes_75 ⟨Nat.zero_le _, Nat.zero_le _⟩ (fun o w1 H locs hq hP hD hS => ?_)
      obtain ⟨rfl, g_5, rfl, hg_6⟩ := hq
      have hP : va_P (dC, dI) vwCl (rC cI r (x1) (A2 * (V 4)) ((V 2)) ((V 3)) ((V 4)) ((V 5)) ((V 6)) (A1) (U1) (A2) (U2) (f1) (g_5) ((J 2)) ((J 3)) ((J 4)) ((J 5)) ((J 6)) ((J 7)) ((J 8)) ((J 9)) ((J 10)) (pb) (pe) (ob) (oe) (b1) (e1) (b2) (e2)) H := hP
      have hD : va_D (ef_A (rC cI r ((V 0)) ((V 1)) ((V 2)) ((V 3)) ((V 4)) ((V 5)) ((V 6)) (A1) (U1) (A2) (U2) ((J 0)) ((J 1)) ((J 2)) ((J 3)) ((J 4)) ((J 5)) ((J 6)) ((J 7)) ((J 8)) ((J 9)) ((J 10)) (pb) (pe) (ob) (oe) (b1) (e1) (b2) (e2))) (rC cI r (x1) (A2 * (V 4)) ((V 2)) ((V 3)) ((V 4)) ((V 5)) ((V 6)) (A1) (U1) (A2) (U2) (f1) (g_5) ((J 2)) ((J 3)) ((J 4)) ((J 5)) ((J 6)) ((J 7)) ((J 8)) ((J 9)) ((J 10)) (pb) (pe) (ob) (oe) (b1) (e1) (b2) (e2)) := hD
      have hg_6 : bk (A2 * (V 4)) g_5 := ⟨hg_6, by omega⟩
      refine W.eq (g2 := F0 m 78 ls []) rfl ?_
      exact j78 (x1) (f1) (A2 * (V 4)) (g_5) (hb1) (hx1) (hg_6) (rfl) H locs ls hP hD hS (lv_sub hl [0, 1, 2] rfl)
    ·
      have hq1 : (V 4) = 1 := by
        by_cases q : (V 4) = 1
        · exact q
        · rw [if_neg q] at d1; exact absurd rfl d1
      refine lv_aload_n hx hb rd_M_compareSizes_49 rfl (lv_at hl 0 rfl) ?_
      refine va_get (D := (dC, dI)) (ci := 5) (v := .ref (r 7)) (C := rR5) (T := rT5) (N := 7) hx hb hts (fun w h => List.mem_cons_of_mem _ (rin5 w h)) hown hK hP 0 rfl rfl 1 (by decide) (hts _ (List.mem_cons_of_mem _ rm_311)) (fun _ h9 => h9) rfl rd_M_compareSizes_50 ?_
      refine lv_aload_n hx hb rd_M_compareSizes_53 rfl (lv_at hl 2 rfl) ?_
      refine va_getN (D := (dC, dI)) (ci := 4) (v := .ref (r 23)) (C := rR4) (T := rT4) (N := 4) hx hb hts (fun w h => List.mem_cons_of_mem _ (rin4 w h)) hown hK hP 4 rfl rfl 1 (by decide) (hNX.use rm_287 rfl) (fun _ h9 => h9) rfl rd_M_compareSizes_54 ?_
      refine ef_callV (As := [.ref (r 23)]) (rest := []) ⟨hx, hb, hml, hown, hts⟩ (b_copy l dC dI ht (isB_c (X := (V 1)) (F := (J 1)) (ws := rC cI r (x1) ((V 1)) ((V 2)) ((V 3)) ((V 4)) ((V 5)) ((V 6)) (A1) (U1) (A2) (U2) (f1) ((J 1)) ((J 2)) ((J 3)) ((J 4)) ((J 5)) ((J 6)) ((J 7)) ((J 8)) ((J 9)) ((J 10)) (pb) (pe) (ob) (oe) (b1) (e1) (b2) (e2)) (k0 := 7) (k1 := 8) (by decide) rfl rfl) (isB_c (X := A2) (F := (J 9)) (ws := rC cI r (x1) ((V 1)) ((V 2)) ((V 3)) ((V 4)) ((V 5)) ((V 6)) (A1) (U1) (A2) (U2) (f1) ((J 1)) ((J 2)) ((J 3)) ((J 4)) ((J 5)) ((J 6)) ((J 7)) ((J 8)) ((J 9)) ((J 10)) (pb) (pe) (ob) (oe) (b1) (e1) (b2) (e2)) (k0 := 23) (k1 := 24) (by decide) rfl rfl) kA2.1 kA2.2 (apt_c (k0 := 7) (k1 := 8) (j0 := 23) (j1 := 24) rfl)) (cwV 1 hts (ef_goodV rm_352 rm_353 rm_354 rm_25 rm_355) rfl rfl rfl (by decide +kernel) ⟨Nat.le_of_ble_eq_true rfl, Nat.le_of_ble_eq_true rfl⟩) hK hNX hP hD hS 7 rfl rfl rfl rfl hl.1 rfl (Nat.le_of_ble_eq_true rfl) rd_M_compareSizes_57 ⟨Nat.zero_le _, Nat.zero_le _⟩ (fun o w1 H locs hq hP hD hS => ?_)
      obtain ⟨rfl, g_7, rfl, hg_8⟩ := hq
      have hP : va_P (dC, dI) vwCl (rC cI r (x1) (A2) ((V 2)) ((V 3)) ((V 4)) ((V 5)) ((V 6)) (A1) (U1) (A2) (U2) (f1) (g_7) ((J 2)) ((J 3)) ((J 4)) ((J 5)) ((J 6)) ((J 7)) ((J 8)) ((J 9)) ((J 10)) (pb) (pe) (ob) (oe) (b1) (e1) (b2) (e2)) H := hP
      have hD : va_D (ef_A (rC cI r ((V 0)) ((V 1)) ((V 2)) ((V 3)) ((V 4)) ((V 5)) ((V 6)) (A1) (U1) (A2) (U2) ((J 0)) ((J 1)) ((J 2)) ((J 3)) ((J 4)) ((J 5)) ((J 6)) ((J 7)) ((J 8)) ((J 9)) ((J 10)) (pb) (pe) (ob) (oe) (b1) (e1) (b2) (e2))) (rC cI r (x1) (A2) ((V 2)) ((V 3)) ((V 4)) ((V 5)) ((V 6)) (A1) (U1) (A2) (U2) (f1) (g_7) ((J 2)) ((J 3)) ((J 4)) ((J 5)) ((J 6)) ((J 7)) ((J 8)) ((J 9)) ((J 10)) (pb) (pe) (ob) (oe) (b1) (e1) (b2) (e2)) := hD
      have hg_8 : bk (A2) g_7 := ⟨hg_8, kA2.2⟩
      refine W.eq (g2 := F0 m 60 ls []) rfl ?_
      refine lv_goto (tgt := 78) hx hb rd_M_compareSizes_60 (by decide) ?_
      exact j78 (x1) (f1) (A2) (g_7) (hb1) (hx1) (hg_8) (by rw [hq1, Nat.mul_one]) H locs ls hP hD hS (lv_sub hl [0, 1, 2] rfl)
  refine lv_aload_n hx hb rd_M_compareSizes_0 rfl (lv_at hl 2 rfl) ?_
  refine va_getN (D := (dC, dI)) (ci := 4) (v := .ref (r 25)) (C := rR4) (T := rT4) (N := 4) hx hb hts (fun w h => List.mem_cons_of_mem _ (rin4 w h)) hown hK hP 4 rfl rfl 2 (by decide) (hNX.use rm_288 rfl) (fun _ h9 => h9) rfl rd_M_compareSizes_1 ?_
  refine ef_callV (As := []) (rest := []) ⟨hx, hb, hml, hown, hts⟩ (b_isOne l dC dI ht (isB_c (X := U2) (F := (J 10)) (ws := rC cI r ((V 0)) ((V 1)) ((V 2)) ((V 3)) ((V 4)) ((V 5)) ((V 6)) (A1) (U1) (A2) (U2) ((J 0)) ((J 1)) ((J 2)) ((J 3)) ((J 4)) ((J 5)) ((J 6)) ((J 7)) ((J 8)) ((J 9)) ((J 10)) (pb) (pe) (ob) (oe) (b1) (e1) (b2) (e2)) (k0 := 25) (k1 := 26) (by decide) rfl rfl) kU2.1 kU2.2) (cwV 0 hts (ef_goodV rm_422 rm_423 rm_424 rm_25 rm_425) rfl rfl rfl (by decide +kernel) ⟨Nat.le_of_ble_eq_true rfl, Nat.le_of_ble_eq_true rfl⟩) hK hNX hP hD hS 25 rfl rfl rfl rfl hl.1 rfl (Nat.le_of_ble_eq_true rfl) rd_M_compareSizes_4 ⟨Nat.zero_le _, Nat.zero_le _⟩ (fun o w1 H locs hq hP hD hS => ?_)
  obtain ⟨rfl, e9⟩ := hq
  rw [e9] at hP hD
  refine W.eq (g2 := F0 m 7 ls [.int (iv (if U2 = 1 then 1 else 0))]) rfl ?_
  have hc0 : ir (if U2 = 1 then 1 else 0) := by split <;> exact ⟨by omega, by omega⟩
  refine iw_if_eq (tgt := 24) hx hb rd_M_compareSizes_7 (by decide) (hc0) (fun d1 => ?_) (fun d1 => ?_)
  ·
    have hq1 : U2 ≠ 1 := fun q => by rw [if_pos q] at d1; exact absurd d1 (by decide)
    have nPx : (V 3) ≠ 0 := by assumption
    have nQx : U2 ≠ 0 := by assumption
    have wp1 := dn_of_bl (V 3)
    have wp2 := dn_of_bl U2
    have wp3 := dn_of_bl ((V 3) * U2)
    have wp4 := bl_mul_le (V 3) U2
    refine lv_aload_n hx hb rd_M_compareSizes_24 rfl (lv_at hl 0 rfl) ?_
    refine va_get (D := (dC, dI)) (ci := 5) (v := .ref (r 5)) (C := rR5) (T := rT5) (N := 7) hx hb hts (fun w h => List.mem_cons_of_mem _ (rin5 w h)) hown hK hP 0 rfl rfl 0 (by decide) (hts _ (List.mem_cons_of_mem _ rm_310)) (fun _ h9 => h9) rfl rd_M_compareSizes_25 ?_
    refine lv_aload_n hx hb rd_M_compareSizes_28 rfl (lv_at hl 1 rfl) ?_
    refine va_getN (D := (dC, dI)) (ci := 4) (v := .ref (r 11)) (C := rR4) (T := rT4) (N := 4) hx hb hts (fun w h => List.mem_cons_of_mem _ (rin4 w h)) hown hK hP 1 rfl rfl 1 (by decide) (hNX.use rm_287 rfl) (fun _ h9 => h9) rfl rd_M_compareSizes_29 ?_
    refine lv_aload_n hx hb rd_M_compareSizes_32 rfl (lv_at hl 2 rfl) ?_
    refine va_getN (D := (dC, dI)) (ci := 4) (v := .ref (r 25)) (C := rR4) (T := rT4) (N := 4) hx hb hts (fun w h => List.mem_cons_of_mem _ (rin4 w h)) hown hK hP 4 rfl rfl 2 (by decide) (hNX.use rm_288 rfl) (fun _ h9 => h9) rfl rd_M_compareSizes_33 ?_
    refine ef_callV (As := [.ref (r 11), .ref (r 25)]) (rest := []) ⟨hx, hb, hml, hown, hts⟩ (b_product l dC dI ht (isB_c (X := (V 0)) (F := (J 0)) (ws := rC cI r ((V 0)) ((V 1)) ((V 2)) ((V 3)) ((V 4)) ((V 5)) ((V 6)) (A1) (U1) (A2) (U2) ((J 0)) ((J 1)) ((J 2)) ((J 3)) ((J 4)) ((J 5)) ((J 6)) ((J 7)) ((J 8)) ((J 9)) ((J 10)) (pb) (pe) (ob) (oe) (b1) (e1) (b2) (e2)) (k0 := 5) (k1 := 6) (by decide) rfl rfl) (isB_c (X := (V 3)) (F := (J 3)) (ws := rC cI r ((V 0)) ((V 1)) ((V 2)) ((V 3)) ((V 4)) ((V 5)) ((V 6)) (A1) (U1) (A2) (U2) ((J 0)) ((J 1)) ((J 2)) ((J 3)) ((J 4)) ((J 5)) ((J 6)) ((J 7)) ((J 8)) ((J 9)) ((J 10)) (pb) (pe) (ob) (oe) (b1) (e1) (b2) (e2)) (k0 := 11) (k1 := 12) (by decide) rfl rfl) (hJ 3 (by decide)).1 (apt_c (k0 := 5) (k1 := 6) (j0 := 11) (j1 := 12) rfl) (isB_c (X := U2) (F := (J 10)) (ws := rC cI r ((V 0)) ((V 1)) ((V 2)) ((V 3)) ((V 4)) ((V 5)) ((V 6)) (A1) (U1) (A2) (U2) ((J 0)) ((J 1)) ((J 2)) ((J 3)) ((J 4)) ((J 5)) ((J 6)) ((J 7)) ((J 8)) ((J 9)) ((J 10)) (pb) (pe) (ob) (oe) (b1) (e1) (b2) (e2)) (k0 := 25) (k1 := 26) (by decide) rfl rfl) kU2.1 (apt_c (k0 := 5) (k1 := 6) (j0 := 25) (j1 := 26) rfl) nPx nQx (by omega)) (cwV 2 hts (ef_goodV rm_426 rm_427 rm_428 rm_25 rm_429) rfl rfl rfl (by decide +kernel) ⟨Nat.le_of_ble_eq_true rfl, Nat.le_of_ble_eq_true rfl⟩) hK hNX hP hD hS 5 rfl rfl rfl rfl hl.1 rfl (Nat.le_of_ble_eq_true rfl) rd_M_compareSizes_36 ⟨Nat.zero_le _, Nat.zero_le _⟩ (fun o w1 H locs hq hP hD hS => ?_)
    obtain ⟨rfl, g_9, rfl, hg_10⟩ := hq
    have hP : va_P (dC, dI) vwCl (rC cI r ((V 3) * U2) ((V 1)) ((V 2)) ((V 3)) ((V 4)) ((V 5)) ((V 6)) (A1) (U1) (A2) (U2) (g_9) ((J 1)) ((J 2)) ((J 3)) ((J 4)) ((J 5)) ((J 6)) ((J 7)) ((J 8)) ((J 9)) ((J 10)) (pb) (pe) (ob) (oe) (b1) (e1) (b2) (e2)) H := hP
    have hD : va_D (ef_A (rC cI r ((V 0)) ((V 1)) ((V 2)) ((V 3)) ((V 4)) ((V 5)) ((V 6)) (A1) (U1) (A2) (U2) ((J 0)) ((J 1)) ((J 2)) ((J 3)) ((J 4)) ((J 5)) ((J 6)) ((J 7)) ((J 8)) ((J 9)) ((J 10)) (pb) (pe) (ob) (oe) (b1) (e1) (b2) (e2))) (rC cI r ((V 3) * U2) ((V 1)) ((V 2)) ((V 3)) ((V 4)) ((V 5)) ((V 6)) (A1) (U1) (A2) (U2) (g_9) ((J 1)) ((J 2)) ((J 3)) ((J 4)) ((J 5)) ((J 6)) ((J 7)) ((J 8)) ((J 9)) ((J 10)) (pb) (pe) (ob) (oe) (b1) (e1) (b2) (e2)) := hD
    have hg_10 : bk ((V 3) * U2) g_9 := ⟨hg_10, by omega⟩
    refine W.eq (g2 := F0 m 39 ls []) rfl ?_
    exact j39 ((V 3) * U2) (g_9) (hg_10) (rfl) H locs ls hP hD hS (lv_sub hl [0, 1, 2] rfl)
  ·
    have hq1 : U2 = 1 := by
      by_cases q : U2 = 1
      · exact q
      · rw [if_neg q] at d1; exact absurd rfl d1
    refine lv_aload_n hx hb rd_M_compareSizes_10 rfl (lv_at hl 0 rfl) ?_
    refine va_get (D := (dC, dI)) (ci := 5) (v := .ref (r 5)) (C := rR5) (T := rT5) (N := 7) hx hb hts (fun w h => List.mem_cons_of_mem _ (rin5 w h)) hown hK hP 0 rfl rfl 0 (by decide) (hts _ (List.mem_cons_of_mem _ rm_310)) (fun _ h9 => h9) rfl rd_M_compareSizes_11 ?_
    refine lv_aload_n hx hb rd_M_compareSizes_14 rfl (lv_at hl 1 rfl) ?_
    refine va_getN (D := (dC, dI)) (ci := 4) (v := .ref (r 11)) (C := rR4) (T := rT4) (N := 4) hx hb hts (fun w h => List.mem_cons_of_mem _ (rin4 w h)) hown hK hP 1 rfl rfl 1 (by decide) (hNX.use rm_287 rfl) (fun _ h9 => h9) rfl rd_M_compareSizes_15 ?_
    refine ef_callV (As := [.ref (r 11)]) (rest := []) ⟨hx, hb, hml, hown, hts⟩ (b_copy l dC dI ht (isB_c (X := (V 0)) (F := (J 0)) (ws := rC cI r ((V 0)) ((V 1)) ((V 2)) ((V 3)) ((V 4)) ((V 5)) ((V 6)) (A1) (U1) (A2) (U2) ((J 0)) ((J 1)) ((J 2)) ((J 3)) ((J 4)) ((J 5)) ((J 6)) ((J 7)) ((J 8)) ((J 9)) ((J 10)) (pb) (pe) (ob) (oe) (b1) (e1) (b2) (e2)) (k0 := 5) (k1 := 6) (by decide) rfl rfl) (isB_c (X := (V 3)) (F := (J 3)) (ws := rC cI r ((V 0)) ((V 1)) ((V 2)) ((V 3)) ((V 4)) ((V 5)) ((V 6)) (A1) (U1) (A2) (U2) ((J 0)) ((J 1)) ((J 2)) ((J 3)) ((J 4)) ((J 5)) ((J 6)) ((J 7)) ((J 8)) ((J 9)) ((J 10)) (pb) (pe) (ob) (oe) (b1) (e1) (b2) (e2)) (k0 := 11) (k1 := 12) (by decide) rfl rfl) (hJ 3 (by decide)).1 (hJ 3 (by decide)).2 (apt_c (k0 := 5) (k1 := 6) (j0 := 11) (j1 := 12) rfl)) (cwV 1 hts (ef_goodV rm_352 rm_353 rm_354 rm_25 rm_355) rfl rfl rfl (by decide +kernel) ⟨Nat.le_of_ble_eq_true rfl, Nat.le_of_ble_eq_true rfl⟩) hK hNX hP hD hS 5 rfl rfl rfl rfl hl.1 rfl (Nat.le_of_ble_eq_true rfl) rd_M_compareSizes_18 ⟨Nat.zero_le _, Nat.zero_le _⟩ (fun o w1 H locs hq hP hD hS => ?_)
    obtain ⟨rfl, g_11, rfl, hg_12⟩ := hq
    have hP : va_P (dC, dI) vwCl (rC cI r ((V 3)) ((V 1)) ((V 2)) ((V 3)) ((V 4)) ((V 5)) ((V 6)) (A1) (U1) (A2) (U2) (g_11) ((J 1)) ((J 2)) ((J 3)) ((J 4)) ((J 5)) ((J 6)) ((J 7)) ((J 8)) ((J 9)) ((J 10)) (pb) (pe) (ob) (oe) (b1) (e1) (b2) (e2)) H := hP
    have hD : va_D (ef_A (rC cI r ((V 0)) ((V 1)) ((V 2)) ((V 3)) ((V 4)) ((V 5)) ((V 6)) (A1) (U1) (A2) (U2) ((J 0)) ((J 1)) ((J 2)) ((J 3)) ((J 4)) ((J 5)) ((J 6)) ((J 7)) ((J 8)) ((J 9)) ((J 10)) (pb) (pe) (ob) (oe) (b1) (e1) (b2) (e2))) (rC cI r ((V 3)) ((V 1)) ((V 2)) ((V 3)) ((V 4)) ((V 5)) ((V 6)) (A1) (U1) (A2) (U2) (g_11) ((J 1)) ((J 2)) ((J 3)) ((J 4)) ((J 5)) ((J 6)) ((J 7)) ((J 8)) ((J 9)) ((J 10)) (pb) (pe) (ob) (oe) (b1) (e1) (b2) (e2)) := hD
    have hg_12 : bk ((V 3)) g_11 := ⟨hg_12, (hJ 3 (by decide)).2⟩
    refine W.eq (g2 := F0 m 21 ls []) rfl ?_
    refine lv_goto (tgt := 39) hx hb rd_M_compareSizes_21 (by decide) ?_
    exact j39 ((V 3)) (g_11) (hg_12) (by rw [hq1, Nat.mul_one]) H locs ls hP hD hS (lv_sub hl [0, 1, 2] rfl)

set_option maxRecDepth 100000 in
set_option maxHeartbeats 4000000 in
/-- compareSizes -/
theorem r_sizesPO (l : Launch) (dC : Nat → ClassId) (dI : Nat → Nat → Nat) {cI : ClassId} {tys : List (ClassId × FieldType)} (ht : tys[0]? = some (cI, .int)) (r : Nat → Nat) {V : Nat → Nat} {J : Nat → Nat → Nat} {A1 U1 A2 U2 : Nat} {pb pe ob oe b1 e1 b2 e2 : Int} (hJ : rJ V J) (kA1 : bk A1 (J 7)) (kU1 : bk U1 (J 8)) (kA2 : bk A2 (J 9)) (kU2 : bk U2 (J 10)) (mA1 : dn A1 ≤ 300) (mU1 : dn U1 ≤ 300) (mA2 : dn A2 ≤ 300) (mU2 : dn U2 ≤ 300) (nPa : (V 3) ≠ 0) (nPb : (V 5) ≠ 0) (nQa : (V 4) ≠ 0) (nQb : (V 6) ≠ 0) (bPa : bl (V 3) ≤ 4800) (bQa : bl (V 4) ≤ 4800) (bPb : bl (V 5) ≤ 4800) (bQb : bl (V 6) ≤ 4800) (lea : -12000 ≤ pe) (gea : pe ≤ 12000) (leb : -12000 ≤ oe) (geb : oe ≤ 12000) : ef_C l ry_M_compareSizes rw_M_compareSizes ({ frames := 2, cells := 0, slots := 0, locals := 51 } : Room) [.ref (r 0), .ref (r 1), .ref (r 2)] (dC, dI) vwCl tys (rC cI r ((V 0)) ((V 1)) ((V 2)) ((V 3)) ((V 4)) ((V 5)) ((V 6)) (A1) (U1) (A2) (U2) ((J 0)) ((J 1)) ((J 2)) ((J 3)) ((J 4)) ((J 5)) ((J 6)) ((J 7)) ((J 8)) ((J 9)) ((J 10)) (pb) (pe) (ob) (oe) (b1) (e1) (b2) (e2)) (fun o w1 => ∃ (V2 : Nat → Nat) (J2 : Nat → Nat → Nat) (pb2 pe2 ob2 oe2 : Int), V2 5 = V 5 ∧ V2 6 = V 6 ∧ ob2 = ob ∧ oe2 = oe ∧ o = some (.int (iv (scmp (V 3) (V 4) pe (V 5) (V 6) oe))) ∧ w1 = rC cI r (V2 0) (V2 1) (V2 2) (V2 3) (V2 4) (V2 5) (V2 6) (A1) (U1) (A2) (U2) (J2 0) (J2 1) (J2 2) (J2 3) (J2 4) (J2 5) (J2 6) (J2 7) (J2 8) (J2 9) (J2 10) (pb2) (pe2) (ob2) (oe2) (b1) (e1) (b2) (e2) ∧ rJ V2 J2 ∧ bk (A1) (J2 7) ∧ bk (U1) (J2 8) ∧ bk (A2) (J2 9) ∧ bk (U2) (J2 10)) := by
  refine ef_C.of (cc := rc_M_compareSizes) (maxL := 5) (ret := (some .int)) (by decide) rfl (Nat.le_of_ble_eq_true rfl) ?_
  intro p e s m below meth c ls hx hb hml hr hts hown hlocks hK hNX hP hD hS hl
  have hl : lv_has ls 5 [(0, .ref (r 0)), (1, .ref (r 1)), (2, .ref (r 2))] := hl
  have hown : s.vm.findClass rR5 = some m.cls := hown
  generalize hH : s.heap = H at hP ⊢
  have hS : va_S (ef_A (rC cI r ((V 0)) ((V 1)) ((V 2)) ((V 3)) ((V 4)) ((V 5)) ((V 6)) (A1) (U1) (A2) (U2) ((J 0)) ((J 1)) ((J 2)) ((J 3)) ((J 4)) ((J 5)) ((J 6)) ((J 7)) ((J 8)) ((J 9)) ((J 10)) (pb) (pe) (ob) (oe) (b1) (e1) (b2) (e2))) s.heap H [] := by rw [← hH]; exact hS
  generalize ([] : List Loc) = locs at hS ⊢
  have m1 := bl_mul_le (V 3) (V 6)
  have m2 := bl_mul_le (V 5) (V 4)
  have j78 : ∀ (x1 : Nat) (f1 : Nat → Nat) (x2 : Nat) (f2 : Nat → Nat), (bk x1 f1) → (x1 = (V 3) * (V 6)) → (bk x2 f2) → (x2 = (V 5) * (V 4)) → ∀ (H : Heap) (locs : List Loc) (ls : Array Slot), va_P (dC, dI) vwCl (rC cI r (x1) (x2) ((V 2)) ((V 3)) ((V 4)) ((V 5)) ((V 6)) (A1) (U1) (A2) (U2) (f1) (f2) ((J 2)) ((J 3)) ((J 4)) ((J 5)) ((J 6)) ((J 7)) ((J 8)) ((J 9)) ((J 10)) (pb) (pe) (ob) (oe) (b1) (e1) (b2) (e2)) H → va_D (ef_A (rC cI r ((V 0)) ((V 1)) ((V 2)) ((V 3)) ((V 4)) ((V 5)) ((V 6)) (A1) (U1) (A2) (U2) ((J 0)) ((J 1)) ((J 2)) ((J 3)) ((J 4)) ((J 5)) ((J 6)) ((J 7)) ((J 8)) ((J 9)) ((J 10)) (pb) (pe) (ob) (oe) (b1) (e1) (b2) (e2))) (rC cI r (x1) (x2) ((V 2)) ((V 3)) ((V 4)) ((V 5)) ((V 6)) (A1) (U1) (A2) (U2) (f1) (f2) ((J 2)) ((J 3)) ((J 4)) ((J 5)) ((J 6)) ((J 7)) ((J 8)) ((J 9)) ((J 10)) (pb) (pe) (ob) (oe) (b1) (e1) (b2) (e2)) → va_S (ef_A (rC cI r ((V 0)) ((V 1)) ((V 2)) ((V 3)) ((V 4)) ((V 5)) ((V 6)) (A1) (U1) (A2) (U2) ((J 0)) ((J 1)) ((J 2)) ((J 3)) ((J 4)) ((J 5)) ((J 6)) ((J 7)) ((J 8)) ((J 9)) ((J 10)) (pb) (pe) (ob) (oe) (b1) (e1) (b2) (e2))) s.heap H locs → lv_has ls 5 [(0, .ref (r 0)), (1, .ref (r 1)), (2, .ref (r 2))] → W p l e ({ frames := 2, cells := 0, slots := 0, locals := 51 } : Room) s m ([.ref (r 0), .ref (r 1), .ref (r 2)] : List Value).toArray below meth c H locs 0 0 (ef_R below (dC, dI) vwCl (rC cI r ((V 0)) ((V 1)) ((V 2)) ((V 3)) ((V 4)) ((V 5)) ((V 6)) (A1) (U1) (A2) (U2) ((J 0)) ((J 1)) ((J 2)) ((J 3)) ((J 4)) ((J 5)) ((J 6)) ((J 7)) ((J 8)) ((J 9)) ((J 10)) (pb) (pe) (ob) (oe) (b1) (e1) (b2) (e2)) (fun o w1 => ∃ (V2 : Nat → Nat) (J2 : Nat → Nat → Nat) (pb2 pe2 ob2 oe2 : Int), V2 5 = V 5 ∧ V2 6 = V 6 ∧ ob2 = ob ∧ oe2 = oe ∧ o = some (.int (iv (scmp (V 3) (V 4) pe (V 5) (V 6) oe))) ∧ w1 = rC cI r (V2 0) (V2 1) (V2 2) (V2 3) (V2 4) (V2 5) (V2 6) (A1) (U1) (A2) (U2) (J2 0) (J2 1) (J2 2) (J2 3) (J2 4) (J2 5) (J2 6) (J2 7) (J2 8) (J2 9) (J2 10) (pb2) (pe2) (ob2) (oe2) (b1) (e1) (b2) (e2) ∧ rJ V2 J2 ∧ bk (A1) (J2 7) ∧ bk (U1) (J2 8) ∧ bk (A2) (J2 9) ∧ bk (U2) (J2 10)) [.ref (r 0), .ref (r 1), .ref (r 2)] s) (F0 m 78 ls []) := by
    intro x1 f1 x2 f2 hb1 hx1 hb2 hx2 H locs ls hP hD hS hl
    have hs : scmp (V 3) (V 4) pe (V 5) (V 6) oe = zc ((x1 * pw pe : Nat) : Int) ((x2 * pw oe : Nat) : Int) := by rw [hx1, hx2]; rfl
    rw [hs]
    have n1 : x1 ≠ 0 := by rw [hx1]; exact Nat.mul_ne_zero nPa nQb
    have n2 : x2 ≠ 0 := by rw [hx2]; exact Nat.mul_ne_zero nPb nQa
    rw [← hx1] at m1
    rw [← hx2] at m2
    have w1 := dn_of_bl x1
    have w2 := dn_of_bl x2
    refine lv_aload_n hx hb rd_M_compareSizes_78 rfl (lv_at hl 0 rfl) ?_
    refine va_get (D := (dC, dI)) (ci := 5) (v := .ref (r 5)) (C := rR5) (T := rT5) (N := 7) hx hb hts (fun w h => List.mem_cons_of_mem _ (rin5 w h)) hown hK hP 0 rfl rfl 0 (by decide) (hts _ (List.mem_cons_of_mem _ rm_310)) (fun _ h9 => h9) rfl rd_M_compareSizes_79 ?_
    refine ef_callV (As := []) (rest := []) ⟨hx, hb, hml, hown, hts⟩ (b_bits l dC dI ht (isB_c (X := x1) (F := f1) (ws := rC cI r (x1) (x2) ((V 2)) ((V 3)) ((V 4)) ((V 5)) ((V 6)) (A1) (U1) (A2) (U2) (f1) (f2) ((J 2)) ((J 3)) ((J 4)) ((J 5)) ((J 6)) ((J 7)) ((J 8)) ((J 9)) ((J 10)) (pb) (pe) (ob) (oe) (b1) (e1) (b2) (e2)) (k0 := 5) (k1 := 6) (by decide) rfl rfl) hb1.1 hb1.2) (cwV 0 hts (ef_goodV rm_360 rm_361 rm_362 rm_25 rm_363) rfl rfl rfl (by decide +kernel) ⟨Nat.le_of_ble_eq_true rfl, Nat.le_of_ble_eq_true rfl⟩) hK hNX hP hD hS 5 rfl rfl rfl rfl hl.1 rfl (Nat.le_of_ble_eq_true rfl) rd_M_compareSizes_82 ⟨Nat.zero_le _, Nat.zero_le _⟩ (fun o w1 H locs hq hP hD hS => ?_)
    obtain ⟨rfl, e9⟩ := hq
    rw [e9] at hP hD
    refine W.eq (g2 := F0 m 85 ls [.int (iv ((bl (x1) : Int)))]) rfl ?_
    refine lv_aload_n hx hb rd_M_compareSizes_85 rfl (lv_at hl 1 rfl) ?_
    refine va_getN (D := (dC, dI)) (ci := 4) (v := .int (iv (pe))) (C := rR4) (T := rT4) (N := 4) hx hb hts (fun w h => List.mem_cons_of_mem _ (rin4 w h)) hown hK hP 1 rfl rfl 3 (by decide) (hNX.use rm_290 rfl) (fun _ h9 => h9) rfl rd_M_compareSizes_86 ?_
    refine iw_iadd hx hb rd_M_compareSizes_89 ?_
    refine lv_istore_n (lv' := [(3, .int (iv (((bl (x1) : Int)) + (pe)))), (0, .ref (r 0)), (1, .ref (r 1)), (2, .ref (r 2))]) hx hb rd_M_compareSizes_90 rfl hl (by decide) rfl (fun ls hl => ?_)
    refine lv_aload_n hx hb rd_M_compareSizes_91 rfl (lv_at hl 1 rfl) ?_
    refine va_get (D := (dC, dI)) (ci := 5) (v := .ref (r 7)) (C := rR5) (T := rT5) (N := 7) hx hb hts (fun w h => List.mem_cons_of_mem _ (rin5 w h)) hown hK hP 0 rfl rfl 1 (by decide) (hts _ (List.mem_cons_of_mem _ rm_311)) (fun _ h9 => h9) rfl rd_M_compareSizes_92 ?_
    refine ef_callV (As := []) (rest := []) ⟨hx, hb, hml, hown, hts⟩ (b_bits l dC dI ht (isB_c (X := x2) (F := f2) (ws := rC cI r (x1) (x2) ((V 2)) ((V 3)) ((V 4)) ((V 5)) ((V 6)) (A1) (U1) (A2) (U2) (f1) (f2) ((J 2)) ((J 3)) ((J 4)) ((J 5)) ((J 6)) ((J 7)) ((J 8)) ((J 9)) ((J 10)) (pb) (pe) (ob) (oe) (b1) (e1) (b2) (e2)) (k0 := 7) (k1 := 8) (by decide) rfl rfl) hb2.1 hb2.2) (cwV 0 hts (ef_goodV rm_360 rm_361 rm_362 rm_25 rm_363) rfl rfl rfl (by decide +kernel) ⟨Nat.le_of_ble_eq_true rfl, Nat.le_of_ble_eq_true rfl⟩) hK hNX hP hD hS 7 rfl rfl rfl rfl hl.1 rfl (Nat.le_of_ble_eq_true rfl) rd_M_compareSizes_95 ⟨Nat.zero_le _, Nat.zero_le _⟩ (fun o w1 H locs hq hP hD hS => ?_)
    obtain ⟨rfl, e9⟩ := hq
    rw [e9] at hP hD
    refine W.eq (g2 := F0 m 98 ls [.int (iv ((bl (x2) : Int)))]) rfl ?_
    refine lv_aload_n hx hb rd_M_compareSizes_98 rfl (lv_at hl 3 rfl) ?_
    refine va_getN (D := (dC, dI)) (ci := 4) (v := .int (iv (oe))) (C := rR4) (T := rT4) (N := 4) hx hb hts (fun w h => List.mem_cons_of_mem _ (rin4 w h)) hown hK hP 2 rfl rfl 3 (by decide) (hNX.use rm_290 rfl) (fun _ h9 => h9) rfl rd_M_compareSizes_99 ?_
    refine iw_iadd hx hb rd_M_compareSizes_102 ?_
    refine lv_istore (lv' := [(4, .int (iv (((bl (x2) : Int)) + (oe)))), (3, .int (iv (((bl (x1) : Int)) + (pe)))), (0, .ref (r 0)), (1, .ref (r 1)), (2, .ref (r 2))]) hx hb rd_M_compareSizes_103 hl (by decide) rfl (fun ls hl => ?_)
    refine lv_iload_n hx hb rd_M_compareSizes_105 rfl (lv_at hl 1 rfl) ?_
    refine lv_iload hx hb rd_M_compareSizes_106 (lv_at hl 0 rfl) ?_
    refine iw_icmp_eq (tgt := 123) hx hb rd_M_compareSizes_108 (by decide) ⟨by omega, by omega⟩ ⟨by omega, by omega⟩ (fun c1 => ?_) (fun c1 => ?_)
    ·
      refine lv_aload_n hx hb rd_M_compareSizes_123 rfl (lv_at hl 3 rfl) ?_
      refine va_getN (D := (dC, dI)) (ci := 4) (v := .int (iv (pe))) (C := rR4) (T := rT4) (N := 4) hx hb hts (fun w h => List.mem_cons_of_mem _ (rin4 w h)) hown hK hP 1 rfl rfl 3 (by decide) (hNX.use rm_290 rfl) (fun _ h9 => h9) rfl rd_M_compareSizes_124 ?_
      refine lv_aload_n hx hb rd_M_compareSizes_127 rfl (lv_at hl 4 rfl) ?_
      refine va_getN (D := (dC, dI)) (ci := 4) (v := .int (iv (oe))) (C := rR4) (T := rT4) (N := 4) hx hb hts (fun w h => List.mem_cons_of_mem _ (rin4 w h)) hown hK hP 2 rfl rfl 3 (by decide) (hNX.use rm_290 rfl) (fun _ h9 => h9) rfl rd_M_compareSizes_128 ?_
      refine iw_icmp_le (tgt := 153) hx hb rd_M_compareSizes_131 (by decide) ⟨by omega, by omega⟩ ⟨by omega, by omega⟩ (fun c2 => ?_) (fun c2 => ?_)
      ·
        obtain ⟨k, hk⟩ : ∃ k : Nat, oe = pe + (k : Int) := ⟨(oe - pe).toNat, by omega⟩
        have hz9 : zc ((x1 * pw pe : Nat) : Int) ((x2 * pw oe : Nat) : Int) = zc (x1 : Int) ((x2 * 2 ^ k : Nat) : Int) := by rw [hk, pw_add (by omega), Nat.mul_comm (pw pe), ← Nat.mul_assoc, zc_mul (pw_pos pe)]
        have hbs := bl_shift n2 k
        have hdn := dn_of_bl (x2 * 2 ^ k)
        refine lv_aload_n hx hb rd_M_compareSizes_153 rfl (lv_at hl 2 rfl) ?_
        refine va_get (D := (dC, dI)) (ci := 5) (v := .ref (r 7)) (C := rR5) (T := rT5) (N := 7) hx hb hts (fun w h => List.mem_cons_of_mem _ (rin5 w h)) hown hK hP 0 rfl rfl 1 (by decide) (hts _ (List.mem_cons_of_mem _ rm_311)) (fun _ h9 => h9) rfl rd_M_compareSizes_154 ?_
        refine lv_aload_n hx hb rd_M_compareSizes_157 rfl (lv_at hl 4 rfl) ?_
        refine va_getN (D := (dC, dI)) (ci := 4) (v := .int (iv (oe))) (C := rR4) (T := rT4) (N := 4) hx hb hts (fun w h => List.mem_cons_of_mem _ (rin4 w h)) hown hK hP 2 rfl rfl 3 (by decide) (hNX.use rm_290 rfl) (fun _ h9 => h9) rfl rd_M_compareSizes_158 ?_
        refine lv_aload_n hx hb rd_M_compareSizes_161 rfl (lv_at hl 3 rfl) ?_
        refine va_getN (D := (dC, dI)) (ci := 4) (v := .int (iv (pe))) (C := rR4) (T := rT4) (N := 4) hx hb hts (fun w h => List.mem_cons_of_mem _ (rin4 w h)) hown hK hP 1 rfl rfl 3 (by decide) (hNX.use rm_290 rfl) (fun _ h9 => h9) rfl rd_M_compareSizes_162 ?_
        refine iw_isub hx hb rd_M_compareSizes_165 ?_
        refine iw_topi (y := iv ((k : Int))) (congrArg iv (by omega : (((oe) - (pe)) : Int) = ((k : Int)))) ?_
        refine ef_callV (As := [.int (iv ((k : Int)))]) (rest := []) ⟨hx, hb, hml, hown, hts⟩ (b_shift l dC dI ht (isB_c (X := x2) (F := f2) (ws := rC cI r (x1) (x2) ((V 2)) ((V 3)) ((V 4)) ((V 5)) ((V 6)) (A1) (U1) (A2) (U2) (f1) (f2) ((J 2)) ((J 3)) ((J 4)) ((J 5)) ((J 6)) ((J 7)) ((J 8)) ((J 9)) ((J 10)) (pb) (pe) (ob) (oe) (b1) (e1) (b2) (e2)) (k0 := 7) (k1 := 8) (by decide) rfl rfl) hb2.1 n2 k (by omega)) (cwV 1 hts (ef_goodV rm_430 rm_431 rm_432 rm_25 rm_433) rfl rfl rfl (by decide +kernel) ⟨Nat.le_of_ble_eq_true rfl, Nat.le_of_ble_eq_true rfl⟩) hK hNX hP hD hS 7 rfl rfl rfl rfl hl.1 rfl (Nat.le_of_ble_eq_true rfl) rd_M_compareSizes_166 ⟨Nat.zero_le _, Nat.zero_le _⟩ (fun o w1 H locs hq hP hD hS => ?_)
        obtain ⟨rfl, g_1, rfl, hg_2⟩ := hq
        have hP : va_P (dC, dI) vwCl (rC cI r (x1) (x2 * 2 ^ k) ((V 2)) ((V 3)) ((V 4)) ((V 5)) ((V 6)) (A1) (U1) (A2) (U2) (f1) (g_1) ((J 2)) ((J 3)) ((J 4)) ((J 5)) ((J 6)) ((J 7)) ((J 8)) ((J 9)) ((J 10)) (pb) (pe) (ob) (oe) (b1) (e1) (b2) (e2)) H := hP
        have hD : va_D (ef_A (rC cI r ((V 0)) ((V 1)) ((V 2)) ((V 3)) ((V 4)) ((V 5)) ((V 6)) (A1) (U1) (A2) (U2) ((J 0)) ((J 1)) ((J 2)) ((J 3)) ((J 4)) ((J 5)) ((J 6)) ((J 7)) ((J 8)) ((J 9)) ((J 10)) (pb) (pe) (ob) (oe) (b1) (e1) (b2) (e2))) (rC cI r (x1) (x2 * 2 ^ k) ((V 2)) ((V 3)) ((V 4)) ((V 5)) ((V 6)) (A1) (U1) (A2) (U2) (f1) (g_1) ((J 2)) ((J 3)) ((J 4)) ((J 5)) ((J 6)) ((J 7)) ((J 8)) ((J 9)) ((J 10)) (pb) (pe) (ob) (oe) (b1) (e1) (b2) (e2)) := hD
        have hg_2 : bk (x2 * 2 ^ k) g_1 := ⟨hg_2, by omega⟩
        refine W.eq (g2 := F0 m 169 ls []) rfl ?_
        refine lv_aload_n hx hb rd_M_compareSizes_169 rfl (lv_at hl 2 rfl) ?_
        refine va_get (D := (dC, dI)) (ci := 5) (v := .ref (r 5)) (C := rR5) (T := rT5) (N := 7) hx hb hts (fun w h => List.mem_cons_of_mem _ (rin5 w h)) hown hK hP 0 rfl rfl 0 (by decide) (hts _ (List.mem_cons_of_mem _ rm_310)) (fun _ h9 => h9) rfl rd_M_compareSizes_170 ?_
        refine lv_aload_n hx hb rd_M_compareSizes_173 rfl (lv_at hl 2 rfl) ?_
        refine va_get (D := (dC, dI)) (ci := 5) (v := .ref (r 7)) (C := rR5) (T := rT5) (N := 7) hx hb hts (fun w h => List.mem_cons_of_mem _ (rin5 w h)) hown hK hP 0 rfl rfl 1 (by decide) (hts _ (List.mem_cons_of_mem _ rm_311)) (fun _ h9 => h9) rfl rd_M_compareSizes_174 ?_
        refine ef_callV (As := [.ref (r 7)]) (rest := []) ⟨hx, hb, hml, hown, hts⟩ (b_compare l dC dI ht (isB_c (X := x1) (F := f1) (ws := rC cI r (x1) (x2 * 2 ^ k) ((V 2)) ((V 3)) ((V 4)) ((V 5)) ((V 6)) (A1) (U1) (A2) (U2) (f1) (g_1) ((J 2)) ((J 3)) ((J 4)) ((J 5)) ((J 6)) ((J 7)) ((J 8)) ((J 9)) ((J 10)) (pb) (pe) (ob) (oe) (b1) (e1) (b2) (e2)) (k0 := 5) (k1 := 6) (by decide) rfl rfl) hb1.1 hb1.2 (isB_c (X := x2 * 2 ^ k) (F := g_1) (ws := rC cI r (x1) (x2 * 2 ^ k) ((V 2)) ((V 3)) ((V 4)) ((V 5)) ((V 6)) (A1) (U1) (A2) (U2) (f1) (g_1) ((J 2)) ((J 3)) ((J 4)) ((J 5)) ((J 6)) ((J 7)) ((J 8)) ((J 9)) ((J 10)) (pb) (pe) (ob) (oe) (b1) (e1) (b2) (e2)) (k0 := 7) (k1 := 8) (by decide) rfl rfl) hg_2.1 hg_2.2) (cwV 1 hts (ef_goodV rm_386 rm_387 rm_388 rm_25 rm_389) rfl rfl rfl (by decide +kernel) ⟨Nat.le_of_ble_eq_true rfl, Nat.le_of_ble_eq_true rfl⟩) hK hNX hP hD hS 5 rfl rfl rfl rfl hl.1 rfl (Nat.le_of_ble_eq_true rfl) rd_M_compareSizes_177 ⟨Nat.zero_le _, Nat.zero_le _⟩ (fun o w1 H locs hq hP hD hS => ?_)
        obtain ⟨rfl, e9⟩ := hq
        rw [e9] at hP hD
        refine W.eq (g2 := F0 m 180 ls [.int (iv (zc (x1 : Int) ((x2 * 2 ^ k : Nat) : Int)))]) rfl ?_
        exact ef_iret hx hb hr hlocks hP hD hS rd_M_compareSizes_180 (by rw [hz9]; exact ⟨fun i => [(x1), (x2 * 2 ^ k), ((V 2)), ((V 3)), ((V 4)), ((V 5)), ((V 6))].getD i 0, fun i => [(f1), (g_1), ((J 2)), ((J 3)), ((J 4)), ((J 5)), ((J 6)), ((J 7)), ((J 8)), ((J 9)), ((J 10))].getD i (fun _ => 0), _, _, _, _, rfl, rfl, rfl, rfl, rfl, rfl, rJ_of hb1 hg_2 (hJ 2 (by decide)) (hJ 3 (by decide)) (hJ 4 (by decide)) (hJ 5 (by decide)) (hJ 6 (by decide)), kA1, kU1, kA2, kU2⟩)
      ·
        obtain ⟨k, hk⟩ : ∃ k : Nat, pe = oe + (k : Int) := ⟨(pe - oe).toNat, by omega⟩
        have hz9 : zc ((x1 * pw pe : Nat) : Int) ((x2 * pw oe : Nat) : Int) = zc ((x1 * 2 ^ k : Nat) : Int) (x2 : Int) := by rw [hk, pw_add (by omega), Nat.mul_comm (pw oe), ← Nat.mul_assoc, zc_mul (pw_pos oe)]
        have hbs := bl_shift n1 k
        have hdn := dn_of_bl (x1 * 2 ^ k)
        refine lv_aload_n hx hb rd_M_compareSizes_134 rfl (lv_at hl 2 rfl) ?_
        refine va_get (D := (dC, dI)) (ci := 5) (v := .ref (r 5)) (C := rR5) (T := rT5) (N := 7) hx hb hts (fun w h => List.mem_cons_of_mem _ (rin5 w h)) hown hK hP 0 rfl rfl 0 (by decide) (hts _ (List.mem_cons_of_mem _ rm_310)) (fun _ h9 => h9) rfl rd_M_compareSizes_135 ?_
        refine lv_aload_n hx hb rd_M_compareSizes_138 rfl (lv_at hl 3 rfl) ?_
        refine va_getN (D := (dC, dI)) (ci := 4) (v := .int (iv (pe))) (C := rR4) (T := rT4) (N := 4) hx hb hts (fun w h => List.mem_cons_of_mem _ (rin4 w h)) hown hK hP 1 rfl rfl 3 (by decide) (hNX.use rm_290 rfl) (fun _ h9 => h9) rfl rd_M_compareSizes_139 ?_
        refine lv_aload_n hx hb rd_M_compareSizes_142 rfl (lv_at hl 4 rfl) ?_
        refine va_getN (D := (dC, dI)) (ci := 4) (v := .int (iv (oe))) (C := rR4) (T := rT4) (N := 4) hx hb hts (fun w h => List.mem_cons_of_mem _ (rin4 w h)) hown hK hP 2 rfl rfl 3 (by decide) (hNX.use rm_290 rfl) (fun _ h9 => h9) rfl rd_M_compareSizes_143 ?_
        refine iw_isub hx hb rd_M_compareSizes_146 ?_
        refine iw_topi (y := iv ((k : Int))) (congrArg iv (by omega : (((pe) - (oe)) : Int) = ((k : Int)))) ?_
        refine ef_callV (As := [.int (iv ((k : Int)))]) (rest := []) ⟨hx, hb, hml, hown, hts⟩ (b_shift l dC dI ht (isB_c (X := x1) (F := f1) (ws := rC cI r (x1) (x2) ((V 2)) ((V 3)) ((V 4)) ((V 5)) ((V 6)) (A1) (U1) (A2) (U2) (f1) (f2) ((J 2)) ((J 3)) ((J 4)) ((J 5)) ((J 6)) ((J 7)) ((J 8)) ((J 9)) ((J 10)) (pb) (pe) (ob) (oe) (b1) (e1) (b2) (e2)) (k0 := 5) (k1 := 6) (by decide) rfl rfl) hb1.1 n1 k (by omega)) (cwV 1 hts (ef_goodV rm_430 rm_431 rm_432 rm_25 rm_433) rfl rfl rfl (by decide +kernel) ⟨Nat.le_of_ble_eq_true rfl, Nat.le_of_ble_eq_true rfl⟩) hK hNX hP hD hS 5 rfl rfl rfl rfl hl.1 rfl (Nat.le_of_ble_eq_true rfl) rd_M_compareSizes_147 ⟨Nat.zero_le _, Nat.zero_le _⟩ (fun o w1 H locs hq hP hD hS => ?_)
        obtain ⟨rfl, g_3, rfl, hg_4⟩ := hq
        have hP : va_P (dC, dI) vwCl (rC cI r (x1 * 2 ^ k) (x2) ((V 2)) ((V 3)) ((V 4)) ((V 5)) ((V 6)) (A1) (U1) (A2) (U2) (g_3) (f2) ((J 2)) ((J 3)) ((J 4)) ((J 5)) ((J 6)) ((J 7)) ((J 8)) ((J 9)) ((J 10)) (pb) (pe) (ob) (oe) (b1) (e1) (b2) (e2)) H := hP
        have hD : va_D (ef_A (rC cI r ((V 0)) ((V 1)) ((V 2)) ((V 3)) ((V 4)) ((V 5)) ((V 6)) (A1) (U1) (A2) (U2) ((J 0)) ((J 1)) ((J 2)) ((J 3)) ((J 4)) ((J 5)) ((J 6)) ((J 7)) ((J 8)) ((J 9)) ((J 10)) (pb) (pe) (ob) (oe) (b1) (e1) (b2) (e2))) (rC cI r (x1 * 2 ^ k) (x2) ((V 2)) ((V 3)) ((V 4)) ((V 5)) ((V 6)) (A1) (U1) (A2) (U2) (g_3) (f2) ((J 2)) ((J 3)) ((J 4)) ((J 5)) ((J 6)) ((J 7)) ((J 8)) ((J 9)) ((J 10)) (pb) (pe) (ob) (oe) (b1) (e1) (b2) (e2)) := hD
        have hg_4 : bk (x1 * 2 ^ k) g_3 := ⟨hg_4, by omega⟩
        refine W.eq (g2 := F0 m 150 ls []) rfl ?_
        refine lv_goto (tgt := 169) hx hb rd_M_compareSizes_150 (by decide) ?_
        refine lv_aload_n hx hb rd_M_compareSizes_169 rfl (lv_at hl 2 rfl) ?_
        refine va_get (D := (dC, dI)) (ci := 5) (v := .ref (r 5)) (C := rR5) (T := rT5) (N := 7) hx hb hts (fun w h => List.mem_cons_of_mem _ (rin5 w h)) hown hK hP 0 rfl rfl 0 (by decide) (hts _ (List.mem_cons_of_mem _ rm_310)) (fun _ h9 => h9) rfl rd_M_compareSizes_170 ?_
        refine lv_aload_n hx hb rd_M_compareSizes_173 rfl (lv_at hl 2 rfl) ?_
        refine va_get (D := (dC, dI)) (ci := 5) (v := .ref (r 7)) (C := rR5) (T := rT5) (N := 7) hx hb hts (fun w h => List.mem_cons_of_mem _ (rin5 w h)) hown hK hP 0 rfl rfl 1 (by decide) (hts _ (List.mem_cons_of_mem _ rm_311)) (fun _ h9 => h9) rfl rd_M_compareSizes_174 ?_
        refine ef_callV (As := [.ref (r 7)]) (rest := []) ⟨hx, hb, hml, hown, hts⟩ (b_compare l dC dI ht (isB_c (X := x1 * 2 ^ k) (F := g_3) (ws := rC cI r (x1 * 2 ^ k) (x2) ((V 2)) ((V 3)) ((V 4)) ((V 5)) ((V 6)) (A1) (U1) (A2) (U2) (g_3) (f2) ((J 2)) ((J 3)) ((J 4)) ((J 5)) ((J 6)) ((J 7)) ((J 8)) ((J 9)) ((J 10)) (pb) (pe) (ob) (oe) (b1) (e1) (b2) (e2)) (k0 := 5) (k1 := 6) (by decide) rfl rfl) hg_4.1 hg_4.2 (isB_c (X := x2) (F := f2) (ws := rC cI r (x1 * 2 ^ k) (x2) ((V 2)) ((V 3)) ((V 4)) ((V 5)) ((V 6)) (A1) (U1) (A2) (U2) (g_3) (f2) ((J 2)) ((J 3)) ((J 4)) ((J 5)) ((J 6)) ((J 7)) ((J 8)) ((J 9)) ((J 10)) (pb) (pe) (ob) (oe) (b1) (e1) (b2) (e2)) (k0 := 7) (k1 := 8) (by decide) rfl rfl) hb2.1 hb2.2) (cwV 1 hts (ef_goodV rm_386 rm_387 rm_388 rm_25 rm_389) rfl rfl rfl (by decide +kernel) ⟨Nat.le_of_ble_eq_true rfl, Nat.le_of_ble_eq_true rfl⟩) hK hNX hP hD hS 5 rfl rfl rfl rfl hl.1 rfl (Nat.le_of_ble_eq_true rfl) rd_M_compareSizes_177 ⟨Nat.zero_le _, Nat.zero_le _⟩ (fun o w1 H locs hq hP hD hS => ?_)
        obtain ⟨rfl, e9⟩ := hq
        rw [e9] at hP hD
        refine W.eq (g2 := F0 m 180 ls [.int (iv (zc ((x1 * 2 ^ k : Nat) : Int) (x2 : Int)))]) rfl ?_
        exact ef_iret hx hb hr hlocks hP hD hS rd_M_compareSizes_180 (by rw [hz9]; exact ⟨fun i => [(x1 * 2 ^ k), (x2), ((V 2)), ((V 3)), ((V 4)), ((V 5)), ((V 6))].getD i 0, fun i => [(g_3), (f2), ((J 2)), ((J 3)), ((J 4)), ((J 5)), ((J 6)), ((J 7)), ((J 8)), ((J 9)), ((J 10))].getD i (fun _ => 0), _, _, _, _, rfl, rfl, rfl, rfl, rfl, rfl, rJ_of hg_4 hb2 (hJ 2 (by decide)) (hJ 3 (by decide)) (hJ 4 (by decide)) (hJ 5 (by decide)) (hJ 6 (by decide)), kA1, kU1, kA2, kU2⟩)
    ·
      refine lv_iload_n hx hb rd_M_compareSizes_111 rfl (lv_at hl 1 rfl) ?_
      refine lv_iload hx hb rd_M_compareSizes_112 (lv_at hl 0 rfl) ?_
      refine iw_icmp_ge (tgt := 121) hx hb rd_M_compareSizes_114 (by decide) ⟨by omega, by omega⟩ ⟨by omega, by omega⟩ (fun c3 => ?_) (fun c3 => ?_)
      ·
        have q3 := cmp_bl (X := x2) (Y := x1) n1 (by omega : -20000 ≤ oe) (by omega : -20000 ≤ pe) (by omega)
        refine lv_iconst (v := iv (1)) hx hb rd_M_compareSizes_121 (by decide) ?_
        exact ef_iret hx hb hr hlocks hP hD hS rd_M_compareSizes_122 (by rw [zc_gt (by omega)]; exact ⟨fun i => [(x1), (x2), ((V 2)), ((V 3)), ((V 4)), ((V 5)), ((V 6))].getD i 0, fun i => [(f1), (f2), ((J 2)), ((J 3)), ((J 4)), ((J 5)), ((J 6)), ((J 7)), ((J 8)), ((J 9)), ((J 10))].getD i (fun _ => 0), _, _, _, _, rfl, rfl, rfl, rfl, rfl, rfl, rJ_of hb1 hb2 (hJ 2 (by decide)) (hJ 3 (by decide)) (hJ 4 (by decide)) (hJ 5 (by decide)) (hJ 6 (by decide)), kA1, kU1, kA2, kU2⟩)
      ·
        have q3 := cmp_bl (X := x1) (Y := x2) n2 (by omega : -20000 ≤ pe) (by omega : -20000 ≤ oe) (by omega)
        refine lv_iconst (v := iv (-1)) hx hb rd_M_compareSizes_117 (by decide) ?_
        refine lv_goto (tgt := 122) hx hb rd_M_compareSizes_118 (by decide) ?_
        exact ef_iret hx hb hr hlocks hP hD hS rd_M_compareSizes_122 (by rw [zc_lt (by omega)]; exact ⟨fun i => [(x1), (x2), ((V 2)), ((V 3)), ((V 4)), ((V 5)), ((V 6))].getD i 0, fun i => [(f1), (f2), ((J 2)), ((J 3)), ((J 4)), ((J 5)), ((J 6)), ((J 7)), ((J 8)), ((J 9)), ((J 10))].getD i (fun _ => 0), _, _, _, _, rfl, rfl, rfl, rfl, rfl, rfl, rJ_of hb1 hb2 (hJ 2 (by decide)) (hJ 3 (by decide)) (hJ 4 (by decide)) (hJ 5 (by decide)) (hJ 6 (by decide)), kA1, kU1, kA2, kU2⟩)
  have j39 : ∀ (x1 : Nat) (f1 : Nat → Nat), (bk x1 f1) → (x1 = (V 3) * (V 6)) → ∀ (H : Heap) (locs : List Loc) (ls : Array Slot), va_P (dC, dI) vwCl (rC cI r (x1) ((V 1)) ((V 2)) ((V 3)) ((V 4)) ((V 5)) ((V 6)) (A1) (U1) (A2) (U2) (f1) ((J 1)) ((J 2)) ((J 3)) ((J 4)) ((J 5)) ((J 6)) ((J 7)) ((J 8)) ((J 9)) ((J 10)) (pb) (pe) (ob) (oe) (b1) (e1) (b2) (e2)) H → va_D (ef_A (rC cI r ((V 0)) ((V 1)) ((V 2)) ((V 3)) ((V 4)) ((V 5)) ((V 6)) (A1) (U1) (A2) (U2) ((J 0)) ((J 1)) ((J 2)) ((J 3)) ((J 4)) ((J 5)) ((J 6)) ((J 7)) ((J 8)) ((J 9)) ((J 10)) (pb) (pe) (ob) (oe) (b1) (e1) (b2) (e2))) (rC cI r (x1) ((V 1)) ((V 2)) ((V 3)) ((V 4)) ((V 5)) ((V 6)) (A1) (U1) (A2) (U2) (f1) ((J 1)) ((J 2)) ((J 3)) ((J 4)) ((J 5)) ((J 6)) ((J 7)) ((J 8)) ((J 9)) ((J 10)) (pb) (pe) (ob) (oe) (b1) (e1) (b2) (e2)) → va_S (ef_A (rC cI r ((V 0)) ((V 1)) ((V 2)) ((V 3)) ((V 4)) ((V 5)) ((V 6)) (A1) (U1) (A2) (U2) ((J 0)) ((J 1)) ((J 2)) ((J 3)) ((J 4)) ((J 5)) ((J 6)) ((J 7)) ((J 8)) ((J 9)) ((J 10)) (pb) (pe) (ob) (oe) (b1) (e1) (b2) (e2))) s.heap H locs → lv_has ls 5 [(0, .ref (r 0)), (1, .ref (r 1)), (2, .ref (r 2))] → W p l e ({ frames := 2, cells := 0, slots := 0, locals := 51 } : Room) s m ([.ref (r 0), .ref (r 1), .ref (r 2)] : List Value).toArray below meth c H locs 0 0 (ef_R below (dC, dI) vwCl (rC cI r ((V 0)) ((V 1)) ((V 2)) ((V 3)) ((V 4)) ((V 5)) ((V 6)) (A1) (U1) (A2) (U2) ((J 0)) ((J 1)) ((J 2)) ((J 3)) ((J 4)) ((J 5)) ((J 6)) ((J 7)) ((J 8)) ((J 9)) ((J 10)) (pb) (pe) (ob) (oe) (b1) (e1) (b2) (e2)) (fun o w1 => ∃ (V2 : Nat → Nat) (J2 : Nat → Nat → Nat) (pb2 pe2 ob2 oe2 : Int), V2 5 = V 5 ∧ V2 6 = V 6 ∧ ob2 = ob ∧ oe2 = oe ∧ o = some (.int (iv (scmp (V 3) (V 4) pe (V 5) (V 6) oe))) ∧ w1 = rC cI r (V2 0) (V2 1) (V2 2) (V2 3) (V2 4) (V2 5) (V2 6) (A1) (U1) (A2) (U2) (J2 0) (J2 1) (J2 2) (J2 3) (J2 4) (J2 5) (J2 6) (J2 7) (J2 8) (J2 9) (J2 10) (pb2) (pe2) (ob2) (oe2) (b1) (e1) (b2) (e2) ∧ rJ V2 J2 ∧ bk (A1) (J2 7) ∧ bk (U1) (J2 8) ∧ bk (A2) (J2 9) ∧ bk (U2) (J2 10)) [.ref (r 0), .ref (r 1), .ref (r 2)] s) (F0 m 39 ls []) := by
    intro x1 f1 hb1 hx1 H locs ls hP hD hS hl
    refine lv_aload_n hx hb rd_M_compareSizes_39 rfl (lv_at hl 1 rfl) ?_
    refine va_getN (D := (dC, dI)) (ci := 4) (v := .ref (r 13)) (C := rR4) (T := rT4) (N := 4) hx hb hts (fun w h => List.mem_cons_of_mem _ (rin4 w h)) hown hK hP 1 rfl rfl 2 (by decide) (hNX.use rm_288 rfl) (fun _ h9 => h9) rfl rd_M_compareSizes_40 ?_
    refine ef_callV (As := []) (rest := []) ⟨hx, hb, hml, hown, hts⟩ (b_isOne l dC dI ht (isB_c (X := (V 4)) (F := (J 4)) (ws := rC cI r (x1) ((V 1)) ((V 2)) ((V 3)) ((V 4)) ((V 5)) ((V 6)) (A1) (U1) (A2) (U2) (f1) ((J 1)) ((J 2)) ((J 3)) ((J 4)) ((J 5)) ((J 6)) ((J 7)) ((J 8)) ((J 9)) ((J 10)) (pb) (pe) (ob) (oe) (b1) (e1) (b2) (e2)) (k0 := 13) (k1 := 14) (by decide) rfl rfl) (hJ 4 (by decide)).1 (hJ 4 (by decide)).2) (cwV 0 hts (ef_goodV rm_422 rm_423 rm_424 rm_25 rm_425) rfl rfl rfl (by decide +kernel) ⟨Nat.le_of_ble_eq_true rfl, Nat.le_of_ble_eq_true rfl⟩) hK hNX hP hD hS 13 rfl rfl rfl rfl hl.1 rfl (Nat.le_of_ble_eq_true rfl) rd_M_compareSizes_43 ⟨Nat.zero_le _, Nat.zero_le _⟩ (fun o w1 H locs hq hP hD hS => ?_)
    obtain ⟨rfl, e9⟩ := hq
    rw [e9] at hP hD
    refine W.eq (g2 := F0 m 46 ls [.int (iv (if (V 4) = 1 then 1 else 0))]) rfl ?_
    have hc0 : ir (if (V 4) = 1 then 1 else 0) := by split <;> exact ⟨by omega, by omega⟩
    refine iw_if_eq (tgt := 63) hx hb rd_M_compareSizes_46 (by decide) (hc0) (fun d1 => ?_) (fun d1 => ?_)
    ·
      have hq1 : (V 4) ≠ 1 := fun q => by rw [if_pos q] at d1; exact absurd d1 (by decide)
      have nPx : (V 5) ≠ 0 := by assumption
      have nQx : (V 4) ≠ 0 := by assumption
      have wp1 := dn_of_bl (V 5)
      have wp2 := dn_of_bl (V 4)
      have wp3 := dn_of_bl ((V 5) * (V 4))
      have wp4 := bl_mul_le (V 5) (V 4)
      refine lv_aload_n hx hb rd_M_compareSizes_63 rfl (lv_at hl 0 rfl) ?_
      refine va_get (D := (dC, dI)) (ci := 5) (v := .ref (r 7)) (C := rR5) (T := rT5) (N := 7) hx hb hts (fun w h => List.mem_cons_of_mem _ (rin5 w h)) hown hK hP 0 rfl rfl 1 (by decide) (hts _ (List.mem_cons_of_mem _ rm_311)) (fun _ h9 => h9) rfl rd_M_compareSizes_64 ?_
      refine lv_aload_n hx hb rd_M_compareSizes_67 rfl (lv_at hl 2 rfl) ?_
      refine va_getN (D := (dC, dI)) (ci := 4) (v := .ref (r 15)) (C := rR4) (T := rT4) (N := 4) hx hb hts (fun w h => List.mem_cons_of_mem _ (rin4 w h)) hown hK hP 2 rfl rfl 1 (by decide) (hNX.use rm_287 rfl) (fun _ h9 => h9) rfl rd_M_compareSizes_68 ?_
      refine lv_aload_n hx hb rd_M_compareSizes_71 rfl (lv_at hl 1 rfl) ?_
      refine va_getN (D := (dC, dI)) (ci := 4) (v := .ref (r 13)) (C := rR4) (T := rT4) (N := 4) hx hb hts (fun w h => List.mem_cons_of_mem _ (rin4 w h)) hown hK hP 1 rfl rfl 2 (by decide) (hNX.use rm_288 rfl) (fun _ h9 => h9) rfl rd_M_compareSizes_72 ?_
      refine ef_callV (As := [.ref (r 15), .ref (r 13)]) (rest := []) ⟨hx, hb, hml, hown, hts⟩ (b_product l dC dI ht (isB_c (X := (V 1)) (F := (J 1)) (ws := rC cI r (x1) ((V 1)) ((V 2)) ((V 3)) ((V 4)) ((V 5)) ((V 6)) (A1) (U1) (A2) (U2) (f1) ((J 1)) ((J 2)) ((J 3)) ((J 4)) ((J 5)) ((J 6)) ((J 7)) ((J 8)) ((J 9)) ((J 10)) (pb) (pe) (ob) (oe) (b1) (e1) (b2) (e2)) (k0 := 7) (k1 := 8) (by decide) rfl rfl) (isB_c (X := (V 5)) (F := (J 5)) (ws := rC cI r (x1) ((V 1)) ((V 2)) ((V 3)) ((V 4)) ((V 5)) ((V 6)) (A1) (U1) (A2) (U2) (f1) ((J 1)) ((J 2)) ((J 3)) ((J 4)) ((J 5)) ((J 6)) ((J 7)) ((J 8)) ((J 9)) ((J 10)) (pb) (pe) (ob) (oe) (b1) (e1) (b2) (e2)) (k0 := 15) (k1 := 16) (by decide) rfl rfl) (hJ 5 (by decide)).1 (apt_c (k0 := 7) (k1 := 8) (j0 := 15) (j1 := 16) rfl) (isB_c (X := (V 4)) (F := (J 4)) (ws := rC cI r (x1) ((V 1)) ((V 2)) ((V 3)) ((V 4)) ((V 5)) ((V 6)) (A1) (U1) (A2) (U2) (f1) ((J 1)) ((J 2)) ((J 3)) ((J 4)) ((J 5)) ((J 6)) ((J 7)) ((J 8)) ((J 9)) ((J 10)) (pb) (pe) (ob) (oe) (b1) (e1) (b2) (e2)) (k0 := 13) (k1 := 14) (by decide) rfl rfl) (hJ 4 (by decide)).1 (apt_c (k0 := 7) (k1 := 8) (j0 := 13) (j1 := 14) rfl) nPx nQx (by omega)) (cwV 2 hts (ef_goodV rm_426 rm_427 rm_428 rm_25 rm_429) rfl rfl rfl (by decide +kernel) ⟨Nat.le_of_ble_eq_true rfl, Nat.le_of_ble_eq_true rfl⟩) hK hNX hP hD hS 7 rfl rfl rfl rfl hl.1 rfl (Nat.le_of_ble_eq_true rfl) rd_M_compareSizes_75 ⟨Nat.zero_le _, Nat.zero_le _⟩ (fun o w1 H locs hq hP hD hS => ?_)
      obtain ⟨rfl, g_5, rfl, hg_6⟩ := hq
      have hP : va_P (dC, dI) vwCl (rC cI r (x1) ((V 5) * (V 4)) ((V 2)) ((V 3)) ((V 4)) ((V 5)) ((V 6)) (A1) (U1) (A2) (U2) (f1) (g_5) ((J 2)) ((J 3)) ((J 4)) ((J 5)) ((J 6)) ((J 7)) ((J 8)) ((J 9)) ((J 10)) (pb) (pe) (ob) (oe) (b1) (e1) (b2) (e2)) H := hP
      have hD : va_D (ef_A (rC cI r ((V 0)) ((V 1)) ((V 2)) ((V 3)) ((V 4)) ((V 5)) ((V 6)) (A1) (U1) (A2) (U2) ((J 0)) ((J 1)) ((J 2)) ((J 3)) ((J 4)) ((J 5)) ((J 6)) ((J 7)) ((J 8)) ((J 9)) ((J 10)) (pb) (pe) (ob) (oe) (b1) (e1) (b2) (e2))) (rC cI r (x1) ((V 5) * (V 4)) ((V 2)) ((V 3)) ((V 4)) ((V 5)) ((V 6)) (A1) (U1) (A2) (U2) (f1) (g_5) ((J 2)) ((J 3)) ((J 4)) ((J 5)) ((J 6)) ((J 7)) ((J 8)) ((J 9)) ((J 10)) (pb) (pe) (ob) (oe) (b1) (e1) (b2) (e2)) := hD
      have hg_6 : bk ((V 5) * (V 4)) g_5 := ⟨hg_6, by omega⟩
      refine W.eq (g2 := F0 m 78 ls []) rfl ?_
      exact j78 (x1) (f1) ((V 5) * (V 4)) (g_5) (hb1) (hx1) (hg_6) (rfl) H locs ls hP hD hS (lv_sub hl [0, 1, 2] rfl)
    ·
      have hq1 : (V 4) = 1 := by
        by_cases q : (V 4) = 1
        · exact q
        · rw [if_neg q] at d1; exact absurd rfl d1
      refine lv_aload_n hx hb rd_M_compareSizes_49 rfl (lv_at hl 0 rfl) ?_
      refine va_get (D := (dC, dI)) (ci := 5) (v := .ref (r 7)) (C := rR5) (T := rT5) (N := 7) hx hb hts (fun w h => List.mem_cons_of_mem _ (rin5 w h)) hown hK hP 0 rfl rfl 1 (by decide) (hts _ (List.mem_cons_of_mem _ rm_311)) (fun _ h9 => h9) rfl rd_M_compareSizes_50 ?_
      refine lv_aload_n hx hb rd_M_compareSizes_53 rfl (lv_at hl 2 rfl) ?_
      refine va_getN (D := (dC, dI)) (ci := 4) (v := .ref (r 15)) (C := rR4) (T := rT4) (N := 4) hx hb hts (fun w h => List.mem_cons_of_mem _ (rin4 w h)) hown hK hP 2 rfl rfl 1 (by decide) (hNX.use rm_287 rfl) (fun _ h9 => h9) rfl rd_M_compareSizes_54 ?_
      refine ef_callV (As := [.ref (r 15)]) (rest := []) ⟨hx, hb, hml, hown, hts⟩ (b_copy l dC dI ht (isB_c (X := (V 1)) (F := (J 1)) (ws := rC cI r (x1) ((V 1)) ((V 2)) ((V 3)) ((V 4)) ((V 5)) ((V 6)) (A1) (U1) (A2) (U2) (f1) ((J 1)) ((J 2)) ((J 3)) ((J 4)) ((J 5)) ((J 6)) ((J 7)) ((J 8)) ((J 9)) ((J 10)) (pb) (pe) (ob) (oe) (b1) (e1) (b2) (e2)) (k0 := 7) (k1 := 8) (by decide) rfl rfl) (isB_c (X := (V 5)) (F := (J 5)) (ws := rC cI r (x1) ((V 1)) ((V 2)) ((V 3)) ((V 4)) ((V 5)) ((V 6)) (A1) (U1) (A2) (U2) (f1) ((J 1)) ((J 2)) ((J 3)) ((J 4)) ((J 5)) ((J 6)) ((J 7)) ((J 8)) ((J 9)) ((J 10)) (pb) (pe) (ob) (oe) (b1) (e1) (b2) (e2)) (k0 := 15) (k1 := 16) (by decide) rfl rfl) (hJ 5 (by decide)).1 (hJ 5 (by decide)).2 (apt_c (k0 := 7) (k1 := 8) (j0 := 15) (j1 := 16) rfl)) (cwV 1 hts (ef_goodV rm_352 rm_353 rm_354 rm_25 rm_355) rfl rfl rfl (by decide +kernel) ⟨Nat.le_of_ble_eq_true rfl, Nat.le_of_ble_eq_true rfl⟩) hK hNX hP hD hS 7 rfl rfl rfl rfl hl.1 rfl (Nat.le_of_ble_eq_true rfl) rd_M_compareSizes_57 ⟨Nat.zero_le _, Nat.zero_le _⟩ (fun o w1 H locs hq hP hD hS => ?_)
      obtain ⟨rfl, g_7, rfl, hg_8⟩ := hq
      have hP : va_P (dC, dI) vwCl (rC cI r (x1) ((V 5)) ((V 2)) ((V 3)) ((V 4)) ((V 5)) ((V 6)) (A1) (U1) (A2) (U2) (f1) (g_7) ((J 2)) ((J 3)) ((J 4)) ((J 5)) ((J 6)) ((J 7)) ((J 8)) ((J 9)) ((J 10)) (pb) (pe) (ob) (oe) (b1) (e1) (b2) (e2)) H := hP
      have hD : va_D (ef_A (rC cI r ((V 0)) ((V 1)) ((V 2)) ((V 3)) ((V 4)) ((V 5)) ((V 6)) (A1) (U1) (A2) (U2) ((J 0)) ((J 1)) ((J 2)) ((J 3)) ((J 4)) ((J 5)) ((J 6)) ((J 7)) ((J 8)) ((J 9)) ((J 10)) (pb) (pe) (ob) (oe) (b1) (e1) (b2) (e2))) (rC cI r (x1) ((V 5)) ((V 2)) ((V 3)) ((V 4)) ((V 5)) ((V 6)) (A1) (U1) (A2) (U2) (f1) (g_7) ((J 2)) ((J 3)) ((J 4)) ((J 5)) ((J 6)) ((J 7)) ((J 8)) ((J 9)) ((J 10)) (pb) (pe) (ob) (oe) (b1) (e1) (b2) (e2)) := hD
      have hg_8 : bk ((V 5)) g_7 := ⟨hg_8, (hJ 5 (by decide)).2⟩
      refine W.eq (g2 := F0 m 60 ls []) rfl ?_
      refine lv_goto (tgt := 78) hx hb rd_M_compareSizes_60 (by decide) ?_
      exact j78 (x1) (f1) ((V 5)) (g_7) (hb1) (hx1) (hg_8) (by rw [hq1, Nat.mul_one]) H locs ls hP hD hS (lv_sub hl [0, 1, 2] rfl)
  refine lv_aload_n hx hb rd_M_compareSizes_0 rfl (lv_at hl 2 rfl) ?_
  refine va_getN (D := (dC, dI)) (ci := 4) (v := .ref (r 17)) (C := rR4) (T := rT4) (N := 4) hx hb hts (fun w h => List.mem_cons_of_mem _ (rin4 w h)) hown hK hP 2 rfl rfl 2 (by decide) (hNX.use rm_288 rfl) (fun _ h9 => h9) rfl rd_M_compareSizes_1 ?_
  refine ef_callV (As := []) (rest := []) ⟨hx, hb, hml, hown, hts⟩ (b_isOne l dC dI ht (isB_c (X := (V 6)) (F := (J 6)) (ws := rC cI r ((V 0)) ((V 1)) ((V 2)) ((V 3)) ((V 4)) ((V 5)) ((V 6)) (A1) (U1) (A2) (U2) ((J 0)) ((J 1)) ((J 2)) ((J 3)) ((J 4)) ((J 5)) ((J 6)) ((J 7)) ((J 8)) ((J 9)) ((J 10)) (pb) (pe) (ob) (oe) (b1) (e1) (b2) (e2)) (k0 := 17) (k1 := 18) (by decide) rfl rfl) (hJ 6 (by decide)).1 (hJ 6 (by decide)).2) (cwV 0 hts (ef_goodV rm_422 rm_423 rm_424 rm_25 rm_425) rfl rfl rfl (by decide +kernel) ⟨Nat.le_of_ble_eq_true rfl, Nat.le_of_ble_eq_true rfl⟩) hK hNX hP hD hS 17 rfl rfl rfl rfl hl.1 rfl (Nat.le_of_ble_eq_true rfl) rd_M_compareSizes_4 ⟨Nat.zero_le _, Nat.zero_le _⟩ (fun o w1 H locs hq hP hD hS => ?_)
  obtain ⟨rfl, e9⟩ := hq
  rw [e9] at hP hD
  refine W.eq (g2 := F0 m 7 ls [.int (iv (if (V 6) = 1 then 1 else 0))]) rfl ?_
  have hc0 : ir (if (V 6) = 1 then 1 else 0) := by split <;> exact ⟨by omega, by omega⟩
  refine iw_if_eq (tgt := 24) hx hb rd_M_compareSizes_7 (by decide) (hc0) (fun d1 => ?_) (fun d1 => ?_)
  ·
    have hq1 : (V 6) ≠ 1 := fun q => by rw [if_pos q] at d1; exact absurd d1 (by decide)
    have nPx : (V 3) ≠ 0 := by assumption
    have nQx : (V 6) ≠ 0 := by assumption
    have wp1 := dn_of_bl (V 3)
    have wp2 := dn_of_bl (V 6)
    have wp3 := dn_of_bl ((V 3) * (V 6))
    have wp4 := bl_mul_le (V 3) (V 6)
    refine lv_aload_n hx hb rd_M_compareSizes_24 rfl (lv_at hl 0 rfl) ?_
    refine va_get (D := (dC, dI)) (ci := 5) (v := .ref (r 5)) (C := rR5) (T := rT5) (N := 7) hx hb hts (fun w h => List.mem_cons_of_mem _ (rin5 w h)) hown hK hP 0 rfl rfl 0 (by decide) (hts _ (List.mem_cons_of_mem _ rm_310)) (fun _ h9 => h9) rfl rd_M_compareSizes_25 ?_
    refine lv_aload_n hx hb rd_M_compareSizes_28 rfl (lv_at hl 1 rfl) ?_
    refine va_getN (D := (dC, dI)) (ci := 4) (v := .ref (r 11)) (C := rR4) (T := rT4) (N := 4) hx hb hts (fun w h => List.mem_cons_of_mem _ (rin4 w h)) hown hK hP 1 rfl rfl 1 (by decide) (hNX.use rm_287 rfl) (fun _ h9 => h9) rfl rd_M_compareSizes_29 ?_
    refine lv_aload_n hx hb rd_M_compareSizes_32 rfl (lv_at hl 2 rfl) ?_
    refine va_getN (D := (dC, dI)) (ci := 4) (v := .ref (r 17)) (C := rR4) (T := rT4) (N := 4) hx hb hts (fun w h => List.mem_cons_of_mem _ (rin4 w h)) hown hK hP 2 rfl rfl 2 (by decide) (hNX.use rm_288 rfl) (fun _ h9 => h9) rfl rd_M_compareSizes_33 ?_
    refine ef_callV (As := [.ref (r 11), .ref (r 17)]) (rest := []) ⟨hx, hb, hml, hown, hts⟩ (b_product l dC dI ht (isB_c (X := (V 0)) (F := (J 0)) (ws := rC cI r ((V 0)) ((V 1)) ((V 2)) ((V 3)) ((V 4)) ((V 5)) ((V 6)) (A1) (U1) (A2) (U2) ((J 0)) ((J 1)) ((J 2)) ((J 3)) ((J 4)) ((J 5)) ((J 6)) ((J 7)) ((J 8)) ((J 9)) ((J 10)) (pb) (pe) (ob) (oe) (b1) (e1) (b2) (e2)) (k0 := 5) (k1 := 6) (by decide) rfl rfl) (isB_c (X := (V 3)) (F := (J 3)) (ws := rC cI r ((V 0)) ((V 1)) ((V 2)) ((V 3)) ((V 4)) ((V 5)) ((V 6)) (A1) (U1) (A2) (U2) ((J 0)) ((J 1)) ((J 2)) ((J 3)) ((J 4)) ((J 5)) ((J 6)) ((J 7)) ((J 8)) ((J 9)) ((J 10)) (pb) (pe) (ob) (oe) (b1) (e1) (b2) (e2)) (k0 := 11) (k1 := 12) (by decide) rfl rfl) (hJ 3 (by decide)).1 (apt_c (k0 := 5) (k1 := 6) (j0 := 11) (j1 := 12) rfl) (isB_c (X := (V 6)) (F := (J 6)) (ws := rC cI r ((V 0)) ((V 1)) ((V 2)) ((V 3)) ((V 4)) ((V 5)) ((V 6)) (A1) (U1) (A2) (U2) ((J 0)) ((J 1)) ((J 2)) ((J 3)) ((J 4)) ((J 5)) ((J 6)) ((J 7)) ((J 8)) ((J 9)) ((J 10)) (pb) (pe) (ob) (oe) (b1) (e1) (b2) (e2)) (k0 := 17) (k1 := 18) (by decide) rfl rfl) (hJ 6 (by decide)).1 (apt_c (k0 := 5) (k1 := 6) (j0 := 17) (j1 := 18) rfl) nPx nQx (by omega)) (cwV 2 hts (ef_goodV rm_426 rm_427 rm_428 rm_25 rm_429) rfl rfl rfl (by decide +kernel) ⟨Nat.le_of_ble_eq_true rfl, Nat.le_of_ble_eq_true rfl⟩) hK hNX hP hD hS 5 rfl rfl rfl rfl hl.1 rfl (Nat.le_of_ble_eq_true rfl) rd_M_compareSizes_36 ⟨Nat.zero_le _, Nat.zero_le _⟩ (fun o w1 H locs hq hP hD hS => ?_)
    obtain ⟨rfl, g_9, rfl, hg_10⟩ := hq
    have hP : va_P (dC, dI) vwCl (rC cI r ((V 3) * (V 6)) ((V 1)) ((V 2)) ((V 3)) ((V 4)) ((V 5)) ((V 6)) (A1) (U1) (A2) (U2) (g_9) ((J 1)) ((J 2)) ((J 3)) ((J 4)) ((J 5)) ((J 6)) ((J 7)) ((J 8)) ((J 9)) ((J 10)) (pb) (pe) (ob) (oe) (b1) (e1) (b2) (e2)) H := hP
    have hD : va_D (ef_A (rC cI r ((V 0)) ((V 1)) ((V 2)) ((V 3)) ((V 4)) ((V 5)) ((V 6)) (A1) (U1) (A2) (U2) ((J 0)) ((J 1)) ((J 2)) ((J 3)) ((J 4)) ((J 5)) ((J 6)) ((J 7)) ((J 8)) ((J 9)) ((J 10)) (pb) (pe) (ob) (oe) (b1) (e1) (b2) (e2))) (rC cI r ((V 3) * (V 6)) ((V 1)) ((V 2)) ((V 3)) ((V 4)) ((V 5)) ((V 6)) (A1) (U1) (A2) (U2) (g_9) ((J 1)) ((J 2)) ((J 3)) ((J 4)) ((J 5)) ((J 6)) ((J 7)) ((J 8)) ((J 9)) ((J 10)) (pb) (pe) (ob) (oe) (b1) (e1) (b2) (e2)) := hD
    have hg_10 : bk ((V 3) * (V 6)) g_9 := ⟨hg_10, by omega⟩
    refine W.eq (g2 := F0 m 39 ls []) rfl ?_
    exact j39 ((V 3) * (V 6)) (g_9) (hg_10) (rfl) H locs ls hP hD hS (lv_sub hl [0, 1, 2] rfl)
  ·
    have hq1 : (V 6) = 1 := by
      by_cases q : (V 6) = 1
      · exact q
      · rw [if_neg q] at d1; exact absurd rfl d1
    refine lv_aload_n hx hb rd_M_compareSizes_10 rfl (lv_at hl 0 rfl) ?_
    refine va_get (D := (dC, dI)) (ci := 5) (v := .ref (r 5)) (C := rR5) (T := rT5) (N := 7) hx hb hts (fun w h => List.mem_cons_of_mem _ (rin5 w h)) hown hK hP 0 rfl rfl 0 (by decide) (hts _ (List.mem_cons_of_mem _ rm_310)) (fun _ h9 => h9) rfl rd_M_compareSizes_11 ?_
    refine lv_aload_n hx hb rd_M_compareSizes_14 rfl (lv_at hl 1 rfl) ?_
    refine va_getN (D := (dC, dI)) (ci := 4) (v := .ref (r 11)) (C := rR4) (T := rT4) (N := 4) hx hb hts (fun w h => List.mem_cons_of_mem _ (rin4 w h)) hown hK hP 1 rfl rfl 1 (by decide) (hNX.use rm_287 rfl) (fun _ h9 => h9) rfl rd_M_compareSizes_15 ?_
    refine ef_callV (As := [.ref (r 11)]) (rest := []) ⟨hx, hb, hml, hown, hts⟩ (b_copy l dC dI ht (isB_c (X := (V 0)) (F := (J 0)) (ws := rC cI r ((V 0)) ((V 1)) ((V 2)) ((V 3)) ((V 4)) ((V 5)) ((V 6)) (A1) (U1) (A2) (U2) ((J 0)) ((J 1)) ((J 2)) ((J 3)) ((J 4)) ((J 5)) ((J 6)) ((J 7)) ((J 8)) ((J 9)) ((J 10)) (pb) (pe) (ob) (oe) (b1) (e1) (b2) (e2)) (k0 := 5) (k1 := 6) (by decide) rfl rfl) (isB_c (X := (V 3)) (F := (J 3)) (ws := rC cI r ((V 0)) ((V 1)) ((V 2)) ((V 3)) ((V 4)) ((V 5)) ((V 6)) (A1) (U1) (A2) (U2) ((J 0)) ((J 1)) ((J 2)) ((J 3)) ((J 4)) ((J 5)) ((J 6)) ((J 7)) ((J 8)) ((J 9)) ((J 10)) (pb) (pe) (ob) (oe) (b1) (e1) (b2) (e2)) (k0 := 11) (k1 := 12) (by decide) rfl rfl) (hJ 3 (by decide)).1 (hJ 3 (by decide)).2 (apt_c (k0 := 5) (k1 := 6) (j0 := 11) (j1 := 12) rfl)) (cwV 1 hts (ef_goodV rm_352 rm_353 rm_354 rm_25 rm_355) rfl rfl rfl (by decide +kernel) ⟨Nat.le_of_ble_eq_true rfl, Nat.le_of_ble_eq_true rfl⟩) hK hNX hP hD hS 5 rfl rfl rfl rfl hl.1 rfl (Nat.le_of_ble_eq_true rfl) rd_M_compareSizes_18 ⟨Nat.zero_le _, Nat.zero_le _⟩ (fun o w1 H locs hq hP hD hS => ?_)
    obtain ⟨rfl, g_11, rfl, hg_12⟩ := hq
    have hP : va_P (dC, dI) vwCl (rC cI r ((V 3)) ((V 1)) ((V 2)) ((V 3)) ((V 4)) ((V 5)) ((V 6)) (A1) (U1) (A2) (U2) (g_11) ((J 1)) ((J 2)) ((J 3)) ((J 4)) ((J 5)) ((J 6)) ((J 7)) ((J 8)) ((J 9)) ((J 10)) (pb) (pe) (ob) (oe) (b1) (e1) (b2) (e2)) H := hP
    have hD : va_D (ef_A (rC cI r ((V 0)) ((V 1)) ((V 2)) ((V 3)) ((V 4)) ((V 5)) ((V 6)) (A1) (U1) (A2) (U2) ((J 0)) ((J 1)) ((J 2)) ((J 3)) ((J 4)) ((J 5)) ((J 6)) ((J 7)) ((J 8)) ((J 9)) ((J 10)) (pb) (pe) (ob) (oe) (b1) (e1) (b2) (e2))) (rC cI r ((V 3)) ((V 1)) ((V 2)) ((V 3)) ((V 4)) ((V 5)) ((V 6)) (A1) (U1) (A2) (U2) (g_11) ((J 1)) ((J 2)) ((J 3)) ((J 4)) ((J 5)) ((J 6)) ((J 7)) ((J 8)) ((J 9)) ((J 10)) (pb) (pe) (ob) (oe) (b1) (e1) (b2) (e2)) := hD
    have hg_12 : bk ((V 3)) g_11 := ⟨hg_12, (hJ 3 (by decide)).2⟩
    refine W.eq (g2 := F0 m 21 ls []) rfl ?_
    refine lv_goto (tgt := 39) hx hb rd_M_compareSizes_21 (by decide) ?_
    exact j39 ((V 3)) (g_11) (hg_12) (by rw [hq1, Nat.mul_one]) H locs ls hP hD hS (lv_sub hl [0, 1, 2] rfl)

set_option maxRecDepth 100000 in
set_option maxHeartbeats 4000000 in
/-- orderOf -/
theorem r_order01 (l : Launch) (dC : Nat → ClassId) (dI : Nat → Nat → Nat) {cI : ClassId} {tys : List (ClassId × FieldType)} (ht : tys[0]? = some (cI, .int)) (r : Nat → Nat) {V : Nat → Nat} {J : Nat → Nat → Nat} {A1 U1 A2 U2 : Nat} {pb pe ob oe b1 e1 b2 e2 : Int} (hJ : rJ V J) (kA1 : bk A1 (J 7)) (kU1 : bk U1 (J 8)) (kA2 : bk A2 (J 9)) (kU2 : bk U2 (J 10)) (mA1 : dn A1 ≤ 300) (mU1 : dn U1 ≤ 300) (mA2 : dn A2 ≤ 300) (mU2 : dn U2 ≤ 300) (nQa : U1 ≠ 0) (nQb : U2 ≠ 0) (bPa : bl A1 ≤ 4800) (bQa : bl U1 ≤ 4800) (bPb : bl A2 ≤ 4800) (bQb : bl U2 ≤ 4800) (lea : -12000 ≤ e1) (gea : e1 ≤ 12000) (leb : -12000 ≤ e2) (geb : e2 ≤ 12000) (hba : b1 = 0 ∨ b1 = 1) (hbb : b2 = 0 ∨ b2 = 1) : ef_C l ry_M_orderOf rw_M_orderOf ({ frames := 3, cells := 0, slots := 0, locals := 75 } : Room) [.ref (r 0), .ref (r 3), .ref (r 4)] (dC, dI) vwCl tys (rC cI r ((V 0)) ((V 1)) ((V 2)) ((V 3)) ((V 4)) ((V 5)) ((V 6)) (A1) (U1) (A2) (U2) ((J 0)) ((J 1)) ((J 2)) ((J 3)) ((J 4)) ((J 5)) ((J 6)) ((J 7)) ((J 8)) ((J 9)) ((J 10)) (pb) (pe) (ob) (oe) (b1) (e1) (b2) (e2)) (fun o w1 => ∃ (V2 : Nat → Nat) (J2 : Nat → Nat → Nat) (pb2 pe2 ob2 oe2 : Int), V2 5 = V 5 ∧ V2 6 = V 6 ∧ ob2 = ob ∧ oe2 = oe ∧ o = some (.int (iv (ccmp A1 U1 b1 e1 A2 U2 b2 e2))) ∧ w1 = rC cI r (V2 0) (V2 1) (V2 2) (V2 3) (V2 4) (V2 5) (V2 6) (A1) (U1) (A2) (U2) (J2 0) (J2 1) (J2 2) (J2 3) (J2 4) (J2 5) (J2 6) (J2 7) (J2 8) (J2 9) (J2 10) (pb2) (pe2) (ob2) (oe2) (b1) (e1) (b2) (e2) ∧ rJ V2 J2 ∧ bk (A1) (J2 7) ∧ bk (U1) (J2 8) ∧ bk (A2) (J2 9) ∧ bk (U2) (J2 10)) := by
  refine ef_C.of (cc := rc_M_orderOf) (maxL := 5) (ret := (some .int)) (by decide) rfl (Nat.le_of_ble_eq_true rfl) ?_
  intro p e s m below meth c ls hx hb hml hr hts hown hlocks hK hNX hP hD hS hl
  have hl : lv_has ls 5 [(0, .ref (r 0)), (1, .ref (r 3)), (2, .ref (r 4))] := hl
  have hown : s.vm.findClass rR5 = some m.cls := hown
  generalize hH : s.heap = H at hP ⊢
  have hS : va_S (ef_A (rC cI r ((V 0)) ((V 1)) ((V 2)) ((V 3)) ((V 4)) ((V 5)) ((V 6)) (A1) (U1) (A2) (U2) ((J 0)) ((J 1)) ((J 2)) ((J 3)) ((J 4)) ((J 5)) ((J 6)) ((J 7)) ((J 8)) ((J 9)) ((J 10)) (pb) (pe) (ob) (oe) (b1) (e1) (b2) (e2))) s.heap H [] := by rw [← hH]; exact hS
  generalize ([] : List Loc) = locs at hS ⊢
  refine lv_aload_n hx hb rd_M_orderOf_0 rfl (lv_at hl 1 rfl) ?_
  refine ef_callV (As := []) (rest := []) ⟨hx, hb, hml, hown, hts⟩ (r_sign0 l dC dI ht r hJ kA1 kU1 kA2 kU2 mA1 mU1 mA2 mU2 hba) (cwV 0 hts (ef_goodV rm_414 rm_415 rm_416 rm_26 rm_417) rfl rfl rfl (by decide +kernel) ⟨Nat.le_of_ble_eq_true rfl, Nat.le_of_ble_eq_true rfl⟩) hK hNX hP hD hS 3 rfl rfl rfl rfl hl.1 rfl (Nat.le_of_ble_eq_true rfl) rd_M_orderOf_1 ⟨Nat.zero_le _, Nat.zero_le _⟩ (fun o w1 H locs hq hP hD hS => ?_)
  obtain ⟨rfl, e9⟩ := hq
  rw [e9] at hP hD
  refine W.eq (g2 := F0 m 4 ls [.int (iv (sgn A1 b1))]) rfl ?_
  refine lv_istore_n (lv' := [(3, .int (iv (sgn A1 b1))), (0, .ref (r 0)), (1, .ref (r 3)), (2, .ref (r 4))]) hx hb rd_M_orderOf_4 rfl hl (by decide) rfl (fun ls hl => ?_)
  refine lv_aload_n hx hb rd_M_orderOf_5 rfl (lv_at hl 3 rfl) ?_
  refine ef_callV (As := []) (rest := []) ⟨hx, hb, hml, hown, hts⟩ (r_sign1 l dC dI ht r hJ kA1 kU1 kA2 kU2 mA1 mU1 mA2 mU2 hbb) (cwV 0 hts (ef_goodV rm_414 rm_415 rm_416 rm_26 rm_417) rfl rfl rfl (by decide +kernel) ⟨Nat.le_of_ble_eq_true rfl, Nat.le_of_ble_eq_true rfl⟩) hK hNX hP hD hS 4 rfl rfl rfl rfl hl.1 rfl (Nat.le_of_ble_eq_true rfl) rd_M_orderOf_6 ⟨Nat.zero_le _, Nat.zero_le _⟩ (fun o w1 H locs hq hP hD hS => ?_)
  obtain ⟨rfl, e9⟩ := hq
  rw [e9] at hP hD
  refine W.eq (g2 := F0 m 9 ls [.int (iv (sgn A2 b2))]) rfl ?_
  have r1 := sgn_r A1 b1
  have r2 := sgn_r A2 b2
  refine lv_istore (lv' := [(4, .int (iv (sgn A2 b2))), (3, .int (iv (sgn A1 b1))), (0, .ref (r 0)), (1, .ref (r 3)), (2, .ref (r 4))]) hx hb rd_M_orderOf_9 hl (by decide) rfl (fun ls hl => ?_)
  refine lv_iload_n hx hb rd_M_orderOf_11 rfl (lv_at hl 1 rfl) ?_
  refine lv_iload hx hb rd_M_orderOf_12 (lv_at hl 0 rfl) ?_
  refine iw_icmp_ne (tgt := 21) hx hb rd_M_orderOf_14 (by decide) (sgn_ir A1 b1) (sgn_ir A2 b2) (fun c1 => ?_) (fun c1 => ?_)
  ·
    rcases Int.lt_or_le (sgn A1 b1) (sgn A2 b2) with q9 | q9
    ·
      refine lv_iload_n hx hb rd_M_orderOf_21 rfl (lv_at hl 1 rfl) ?_
      refine lv_iload hx hb rd_M_orderOf_22 (lv_at hl 0 rfl) ?_
      refine iw_icmp_ge (tgt := 31) hx hb rd_M_orderOf_24 (by decide) (sgn_ir A1 b1) (sgn_ir A2 b2) (fun d1 => ?_) (fun d1 => ?_)
      ·
        exact absurd d1 (by omega)
      ·
        refine lv_iconst (v := iv (-1)) hx hb rd_M_orderOf_27 (by decide) ?_
        refine lv_goto (tgt := 42) hx hb rd_M_orderOf_28 (by decide) ?_
        exact ef_iret hx hb hr hlocks hP hD hS rd_M_orderOf_42 (by unfold ccmp; rw [if_pos (by omega)]; exact ⟨fun i => [((V 0)), ((V 1)), ((V 2)), ((V 3)), ((V 4)), ((V 5)), ((V 6))].getD i 0, fun i => [((J 0)), ((J 1)), ((J 2)), ((J 3)), ((J 4)), ((J 5)), ((J 6)), ((J 7)), ((J 8)), ((J 9)), ((J 10))].getD i (fun _ => 0), _, _, _, _, rfl, rfl, rfl, rfl, rfl, rfl, rJ_of (hJ 0 (by decide)) (hJ 1 (by decide)) (hJ 2 (by decide)) (hJ 3 (by decide)) (hJ 4 (by decide)) (hJ 5 (by decide)) (hJ 6 (by decide)), kA1, kU1, kA2, kU2⟩)
    ·
      refine lv_iload_n hx hb rd_M_orderOf_21 rfl (lv_at hl 1 rfl) ?_
      refine lv_iload hx hb rd_M_orderOf_22 (lv_at hl 0 rfl) ?_
      refine iw_icmp_ge (tgt := 31) hx hb rd_M_orderOf_24 (by decide) (sgn_ir A1 b1) (sgn_ir A2 b2) (fun d1 => ?_) (fun d1 => ?_)
      ·
        refine lv_iload_n hx hb rd_M_orderOf_31 rfl (lv_at hl 1 rfl) ?_
        refine lv_iload hx hb rd_M_orderOf_32 (lv_at hl 0 rfl) ?_
        refine iw_icmp_le (tgt := 41) hx hb rd_M_orderOf_34 (by decide) (sgn_ir A1 b1) (sgn_ir A2 b2) (fun d2 => ?_) (fun d2 => ?_)
        ·
          exact absurd d2 (by omega)
        ·
          refine lv_iconst (v := iv (1)) hx hb rd_M_orderOf_37 (by decide) ?_
          refine lv_goto (tgt := 42) hx hb rd_M_orderOf_38 (by decide) ?_
          exact ef_iret hx hb hr hlocks hP hD hS rd_M_orderOf_42 (by unfold ccmp; rw [if_neg (by omega), if_pos (by omega)]; exact ⟨fun i => [((V 0)), ((V 1)), ((V 2)), ((V 3)), ((V 4)), ((V 5)), ((V 6))].getD i 0, fun i => [((J 0)), ((J 1)), ((J 2)), ((J 3)), ((J 4)), ((J 5)), ((J 6)), ((J 7)), ((J 8)), ((J 9)), ((J 10))].getD i (fun _ => 0), _, _, _, _, rfl, rfl, rfl, rfl, rfl, rfl, rJ_of (hJ 0 (by decide)) (hJ 1 (by decide)) (hJ 2 (by decide)) (hJ 3 (by decide)) (hJ 4 (by decide)) (hJ 5 (by decide)) (hJ 6 (by decide)), kA1, kU1, kA2, kU2⟩)
      ·
        exact absurd d1 (by omega)
  ·
    refine lv_iload_n hx hb rd_M_orderOf_17 rfl (lv_at hl 1 rfl) ?_
    refine iw_if_ne (tgt := 43) hx hb rd_M_orderOf_18 (by decide) (sgn_ir A1 b1) (fun c2 => ?_) (fun c2 => ?_)
    ·
      have nPa : A1 ≠ 0 := fun q => c2 (by unfold sgn; rw [if_pos q])
      have nPb : A2 ≠ 0 := fun q => c2 (by rw [c1]; unfold sgn; rw [if_pos q])
      refine lv_iload_n hx hb rd_M_orderOf_43 rfl (lv_at hl 1 rfl) ?_
      refine lv_aload_n hx hb rd_M_orderOf_44 rfl (lv_at hl 2 rfl) ?_
      refine lv_aload_n hx hb rd_M_orderOf_45 rfl (lv_at hl 3 rfl) ?_
      refine lv_aload_n hx hb rd_M_orderOf_46 rfl (lv_at hl 4 rfl) ?_
      refine ef_callV (As := [.ref (r 3), .ref (r 4)]) (rest := [.int (iv (sgn A1 b1))]) ⟨hx, hb, hml, hown, hts⟩ (r_sizes01 l dC dI ht r hJ kA1 kU1 kA2 kU2 mA1 mU1 mA2 mU2 nPa nPb nQa nQb bPa bQa bPb bQb lea gea leb geb) (cwV 2 hts (ef_goodV rm_418 rm_420 rm_16 rm_24 rm_421) rfl rfl rfl (by decide +kernel) ⟨Nat.le_of_ble_eq_true rfl, Nat.le_of_ble_eq_true rfl⟩) hK hNX hP hD hS 0 rfl rfl rfl rfl hl.1 rfl (Nat.le_of_ble_eq_true rfl) rd_M_orderOf_47 ⟨Nat.zero_le _, Nat.zero_le _⟩ (fun o w1 H locs hq hP hD hS => ?_)
      obtain ⟨Vv_1, Jv_1, pbv_1, pev_1, obv_1, oev_1, hv5, hv6, hob, hoe, rfl, rfl, hJv_1, kA1v_1, kU1v_1, kA2v_1, kU2v_1⟩ := hq
      have hP : va_P (dC, dI) vwCl (rC cI r ((Vv_1 0)) ((Vv_1 1)) ((Vv_1 2)) ((Vv_1 3)) ((Vv_1 4)) ((Vv_1 5)) ((Vv_1 6)) (A1) (U1) (A2) (U2) ((Jv_1 0)) ((Jv_1 1)) ((Jv_1 2)) ((Jv_1 3)) ((Jv_1 4)) ((Jv_1 5)) ((Jv_1 6)) ((Jv_1 7)) ((Jv_1 8)) ((Jv_1 9)) ((Jv_1 10)) (pbv_1) (pev_1) (obv_1) (oev_1) (b1) (e1) (b2) (e2)) H := hP
      have hD : va_D (ef_A (rC cI r ((V 0)) ((V 1)) ((V 2)) ((V 3)) ((V 4)) ((V 5)) ((V 6)) (A1) (U1) (A2) (U2) ((J 0)) ((J 1)) ((J 2)) ((J 3)) ((J 4)) ((J 5)) ((J 6)) ((J 7)) ((J 8)) ((J 9)) ((J 10)) (pb) (pe) (ob) (oe) (b1) (e1) (b2) (e2))) (rC cI r ((Vv_1 0)) ((Vv_1 1)) ((Vv_1 2)) ((Vv_1 3)) ((Vv_1 4)) ((Vv_1 5)) ((Vv_1 6)) (A1) (U1) (A2) (U2) ((Jv_1 0)) ((Jv_1 1)) ((Jv_1 2)) ((Jv_1 3)) ((Jv_1 4)) ((Jv_1 5)) ((Jv_1 6)) ((Jv_1 7)) ((Jv_1 8)) ((Jv_1 9)) ((Jv_1 10)) (pbv_1) (pev_1) (obv_1) (oev_1) (b1) (e1) (b2) (e2)) := hD
      refine W.eq (g2 := F0 m 50 ls [.int (iv (scmp A1 U1 e1 A2 U2 e2)), .int (iv (sgn A1 b1))]) rfl ?_
      refine iw_imul hx hb rd_M_orderOf_50 ?_
      exact ef_iret hx hb hr hlocks hP hD hS rd_M_orderOf_51 (by unfold ccmp; rw [if_neg (by omega), if_neg (by omega), if_neg c2]; exact ⟨fun i => [((Vv_1 0)), ((Vv_1 1)), ((Vv_1 2)), ((Vv_1 3)), ((Vv_1 4)), ((Vv_1 5)), ((Vv_1 6))].getD i 0, fun i => [((Jv_1 0)), ((Jv_1 1)), ((Jv_1 2)), ((Jv_1 3)), ((Jv_1 4)), ((Jv_1 5)), ((Jv_1 6)), ((Jv_1 7)), ((Jv_1 8)), ((Jv_1 9)), ((Jv_1 10))].getD i (fun _ => 0), _, _, _, _, hv5, hv6, hob, hoe, rfl, rfl, rJ_of (hJv_1 0 (by decide)) (hJv_1 1 (by decide)) (hJv_1 2 (by decide)) (hJv_1 3 (by decide)) (hJv_1 4 (by decide)) (hJv_1 5 (by decide)) (hJv_1 6 (by decide)), kA1v_1, kU1v_1, kA2v_1, kU2v_1⟩)
    ·
      refine lv_iload_n hx hb rd_M_orderOf_21 rfl (lv_at hl 1 rfl) ?_
      refine lv_iload hx hb rd_M_orderOf_22 (lv_at hl 0 rfl) ?_
      refine iw_icmp_ge (tgt := 31) hx hb rd_M_orderOf_24 (by decide) (sgn_ir A1 b1) (sgn_ir A2 b2) (fun d1 => ?_) (fun d1 => ?_)
      ·
        refine lv_iload_n hx hb rd_M_orderOf_31 rfl (lv_at hl 1 rfl) ?_
        refine lv_iload hx hb rd_M_orderOf_32 (lv_at hl 0 rfl) ?_
        refine iw_icmp_le (tgt := 41) hx hb rd_M_orderOf_34 (by decide) (sgn_ir A1 b1) (sgn_ir A2 b2) (fun d2 => ?_) (fun d2 => ?_)
        ·
          refine lv_iconst (v := iv (0)) hx hb rd_M_orderOf_41 (by decide) ?_
          exact ef_iret hx hb hr hlocks hP hD hS rd_M_orderOf_42 (by unfold ccmp; rw [if_neg (by omega), if_neg (by omega), if_pos (by omega)]; exact ⟨fun i => [((V 0)), ((V 1)), ((V 2)), ((V 3)), ((V 4)), ((V 5)), ((V 6))].getD i 0, fun i => [((J 0)), ((J 1)), ((J 2)), ((J 3)), ((J 4)), ((J 5)), ((J 6)), ((J 7)), ((J 8)), ((J 9)), ((J 10))].getD i (fun _ => 0), _, _, _, _, rfl, rfl, rfl, rfl, rfl, rfl, rJ_of (hJ 0 (by decide)) (hJ 1 (by decide)) (hJ 2 (by decide)) (hJ 3 (by decide)) (hJ 4 (by decide)) (hJ 5 (by decide)) (hJ 6 (by decide)), kA1, kU1, kA2, kU2⟩)
        ·
          refine lv_iconst (v := iv (1)) hx hb rd_M_orderOf_37 (by decide) ?_
          refine lv_goto (tgt := 42) hx hb rd_M_orderOf_38 (by decide) ?_
          exact ef_iret hx hb hr hlocks hP hD hS rd_M_orderOf_42 (by unfold ccmp; rw [if_neg (by omega), if_pos (by omega)]; exact ⟨fun i => [((V 0)), ((V 1)), ((V 2)), ((V 3)), ((V 4)), ((V 5)), ((V 6))].getD i 0, fun i => [((J 0)), ((J 1)), ((J 2)), ((J 3)), ((J 4)), ((J 5)), ((J 6)), ((J 7)), ((J 8)), ((J 9)), ((J 10))].getD i (fun _ => 0), _, _, _, _, rfl, rfl, rfl, rfl, rfl, rfl, rJ_of (hJ 0 (by decide)) (hJ 1 (by decide)) (hJ 2 (by decide)) (hJ 3 (by decide)) (hJ 4 (by decide)) (hJ 5 (by decide)) (hJ 6 (by decide)), kA1, kU1, kA2, kU2⟩)
      ·
        refine lv_iconst (v := iv (-1)) hx hb rd_M_orderOf_27 (by decide) ?_
        refine lv_goto (tgt := 42) hx hb rd_M_orderOf_28 (by decide) ?_
        exact ef_iret hx hb hr hlocks hP hD hS rd_M_orderOf_42 (by unfold ccmp; rw [if_pos (by omega)]; exact ⟨fun i => [((V 0)), ((V 1)), ((V 2)), ((V 3)), ((V 4)), ((V 5)), ((V 6))].getD i 0, fun i => [((J 0)), ((J 1)), ((J 2)), ((J 3)), ((J 4)), ((J 5)), ((J 6)), ((J 7)), ((J 8)), ((J 9)), ((J 10))].getD i (fun _ => 0), _, _, _, _, rfl, rfl, rfl, rfl, rfl, rfl, rJ_of (hJ 0 (by decide)) (hJ 1 (by decide)) (hJ 2 (by decide)) (hJ 3 (by decide)) (hJ 4 (by decide)) (hJ 5 (by decide)) (hJ 6 (by decide)), kA1, kU1, kA2, kU2⟩)

set_option maxRecDepth 100000 in
set_option maxHeartbeats 4000000 in
/-- orderOf -/
theorem r_orderP0 (l : Launch) (dC : Nat → ClassId) (dI : Nat → Nat → Nat) {cI : ClassId} {tys : List (ClassId × FieldType)} (ht : tys[0]? = some (cI, .int)) (r : Nat → Nat) {V : Nat → Nat} {J : Nat → Nat → Nat} {A1 U1 A2 U2 : Nat} {pb pe ob oe b1 e1 b2 e2 : Int} (hJ : rJ V J) (kA1 : bk A1 (J 7)) (kU1 : bk U1 (J 8)) (kA2 : bk A2 (J 9)) (kU2 : bk U2 (J 10)) (mA1 : dn A1 ≤ 300) (mU1 : dn U1 ≤ 300) (mA2 : dn A2 ≤ 300) (mU2 : dn U2 ≤ 300) (nQa : (V 4) ≠ 0) (nQb : U1 ≠ 0) (bPa : bl (V 3) ≤ 4800) (bQa : bl (V 4) ≤ 4800) (bPb : bl A1 ≤ 4800) (bQb : bl U1 ≤ 4800) (lea : -12000 ≤ pe) (gea : pe ≤ 12000) (leb : -12000 ≤ e1) (geb : e1 ≤ 12000) (hba : pb = 0 ∨ pb = 1) (hbb : b1 = 0 ∨ b1 = 1) : ef_C l ry_M_orderOf rw_M_orderOf ({ frames := 3, cells := 0, slots := 0, locals := 75 } : Room) [.ref (r 0), .ref (r 1), .ref (r 3)] (dC, dI) vwCl tys (rC cI r ((V 0)) ((V 1)) ((V 2)) ((V 3)) ((V 4)) ((V 5)) ((V 6)) (A1) (U1) (A2) (U2) ((J 0)) ((J 1)) ((J 2)) ((J 3)) ((J 4)) ((J 5)) ((J 6)) ((J 7)) ((J 8)) ((J 9)) ((J 10)) (pb) (pe) (ob) (oe) (b1) (e1) (b2) (e2)) (fun o w1 => ∃ (V2 : Nat → Nat) (J2 : Nat → Nat → Nat) (pb2 pe2 ob2 oe2 : Int), V2 5 = V 5 ∧ V2 6 = V 6 ∧ ob2 = ob ∧ oe2 = oe ∧ o = some (.int (iv (ccmp (V 3) (V 4) pb pe A1 U1 b1 e1))) ∧ w1 = rC cI r (V2 0) (V2 1) (V2 2) (V2 3) (V2 4) (V2 5) (V2 6) (A1) (U1) (A2) (U2) (J2 0) (J2 1) (J2 2) (J2 3) (J2 4) (J2 5) (J2 6) (J2 7) (J2 8) (J2 9) (J2 10) (pb2) (pe2) (ob2) (oe2) (b1) (e1) (b2) (e2) ∧ rJ V2 J2 ∧ bk (A1) (J2 7) ∧ bk (U1) (J2 8) ∧ bk (A2) (J2 9) ∧ bk (U2) (J2 10)) := by
  refine ef_C.of (cc := rc_M_orderOf) (maxL := 5) (ret := (some .int)) (by decide) rfl (Nat.le_of_ble_eq_true rfl) ?_
  intro p e s m below meth c ls hx hb hml hr hts hown hlocks hK hNX hP hD hS hl
  have hl : lv_has ls 5 [(0, .ref (r 0)), (1, .ref (r 1)), (2, .ref (r 3))] := hl
  have hown : s.vm.findClass rR5 = some m.cls := hown
  generalize hH : s.heap = H at hP ⊢
  have hS : va_S (ef_A (rC cI r ((V 0)) ((V 1)) ((V 2)) ((V 3)) ((V 4)) ((V 5)) ((V 6)) (A1) (U1) (A2) (U2) ((J 0)) ((J 1)) ((J 2)) ((J 3)) ((J 4)) ((J 5)) ((J 6)) ((J 7)) ((J 8)) ((J 9)) ((J 10)) (pb) (pe) (ob) (oe) (b1) (e1) (b2) (e2))) s.heap H [] := by rw [← hH]; exact hS
  generalize ([] : List Loc) = locs at hS ⊢
  refine lv_aload_n hx hb rd_M_orderOf_0 rfl (lv_at hl 1 rfl) ?_
  refine ef_callV (As := []) (rest := []) ⟨hx, hb, hml, hown, hts⟩ (r_signP l dC dI ht r hJ kA1 kU1 kA2 kU2 mA1 mU1 mA2 mU2 hba) (cwV 0 hts (ef_goodV rm_414 rm_415 rm_416 rm_26 rm_417) rfl rfl rfl (by decide +kernel) ⟨Nat.le_of_ble_eq_true rfl, Nat.le_of_ble_eq_true rfl⟩) hK hNX hP hD hS 1 rfl rfl rfl rfl hl.1 rfl (Nat.le_of_ble_eq_true rfl) rd_M_orderOf_1 ⟨Nat.zero_le _, Nat.zero_le _⟩ (fun o w1 H locs hq hP hD hS => ?_)
  obtain ⟨rfl, e9⟩ := hq
  rw [e9] at hP hD
  refine W.eq (g2 := F0 m 4 ls [.int (iv (sgn (V 3) pb))]) rfl ?_
  refine lv_istore_n (lv' := [(3, .int (iv (sgn (V 3) pb))), (0, .ref (r 0)), (1, .ref (r 1)), (2, .ref (r 3))]) hx hb rd_M_orderOf_4 rfl hl (by decide) rfl (fun ls hl => ?_)
  refine lv_aload_n hx hb rd_M_orderOf_5 rfl (lv_at hl 3 rfl) ?_
  refine ef_callV (As := []) (rest := []) ⟨hx, hb, hml, hown, hts⟩ (r_sign0 l dC dI ht r hJ kA1 kU1 kA2 kU2 mA1 mU1 mA2 mU2 hbb) (cwV 0 hts (ef_goodV rm_414 rm_415 rm_416 rm_26 rm_417) rfl rfl rfl (by decide +kernel) ⟨Nat.le_of_ble_eq_true rfl, Nat.le_of_ble_eq_true rfl⟩) hK hNX hP hD hS 3 rfl rfl rfl rfl hl.1 rfl (Nat.le_of_ble_eq_true rfl) rd_M_orderOf_6 ⟨Nat.zero_le _, Nat.zero_le _⟩ (fun o w1 H locs hq hP hD hS => ?_)
  obtain ⟨rfl, e9⟩ := hq
  rw [e9] at hP hD
  refine W.eq (g2 := F0 m 9 ls [.int (iv (sgn A1 b1))]) rfl ?_
  have r1 := sgn_r (V 3) pb
  have r2 := sgn_r A1 b1
  refine lv_istore (lv' := [(4, .int (iv (sgn A1 b1))), (3, .int (iv (sgn (V 3) pb))), (0, .ref (r 0)), (1, .ref (r 1)), (2, .ref (r 3))]) hx hb rd_M_orderOf_9 hl (by decide) rfl (fun ls hl => ?_)
  refine lv_iload_n hx hb rd_M_orderOf_11 rfl (lv_at hl 1 rfl) ?_
  refine lv_iload hx hb rd_M_orderOf_12 (lv_at hl 0 rfl) ?_
  refine iw_icmp_ne (tgt := 21) hx hb rd_M_orderOf_14 (by decide) (sgn_ir (V 3) pb) (sgn_ir A1 b1) (fun c1 => ?_) (fun c1 => ?_)
  ·
    rcases Int.lt_or_le (sgn (V 3) pb) (sgn A1 b1) with q9 | q9
    ·
      refine lv_iload_n hx hb rd_M_orderOf_21 rfl (lv_at hl 1 rfl) ?_
      refine lv_iload hx hb rd_M_orderOf_22 (lv_at hl 0 rfl) ?_
      refine iw_icmp_ge (tgt := 31) hx hb rd_M_orderOf_24 (by decide) (sgn_ir (V 3) pb) (sgn_ir A1 b1) (fun d1 => ?_) (fun d1 => ?_)
      ·
        exact absurd d1 (by omega)
      ·
        refine lv_iconst (v := iv (-1)) hx hb rd_M_orderOf_27 (by decide) ?_
        refine lv_goto (tgt := 42) hx hb rd_M_orderOf_28 (by decide) ?_
        exact ef_iret hx hb hr hlocks hP hD hS rd_M_orderOf_42 (by unfold ccmp; rw [if_pos (by omega)]; exact ⟨fun i => [((V 0)), ((V 1)), ((V 2)), ((V 3)), ((V 4)), ((V 5)), ((V 6))].getD i 0, fun i => [((J 0)), ((J 1)), ((J 2)), ((J 3)), ((J 4)), ((J 5)), ((J 6)), ((J 7)), ((J 8)), ((J 9)), ((J 10))].getD i (fun _ => 0), _, _, _, _, rfl, rfl, rfl, rfl, rfl, rfl, rJ_of (hJ 0 (by decide)) (hJ 1 (by decide)) (hJ 2 (by decide)) (hJ 3 (by decide)) (hJ 4 (by decide)) (hJ 5 (by decide)) (hJ 6 (by decide)), kA1, kU1, kA2, kU2⟩)
    ·
      refine lv_iload_n hx hb rd_M_orderOf_21 rfl (lv_at hl 1 rfl) ?_
      refine lv_iload hx hb rd_M_orderOf_22 (lv_at hl 0 rfl) ?_
      refine iw_icmp_ge (tgt := 31) hx hb rd_M_orderOf_24 (by decide) (sgn_ir (V 3) pb) (sgn_ir A1 b1) (fun d1 => ?_) (fun d1 => ?_)
      ·
        refine lv_iload_n hx hb rd_M_orderOf_31 rfl (lv_at hl 1 rfl) ?_
        refine lv_iload hx hb rd_M_orderOf_32 (lv_at hl 0 rfl) ?_
        refine iw_icmp_le (tgt := 41) hx hb rd_M_orderOf_34 (by decide) (sgn_ir (V 3) pb) (sgn_ir A1 b1) (fun d2 => ?_) (fun d2 => ?_)
        ·
          exact absurd d2 (by omega)
        ·
          refine lv_iconst (v := iv (1)) hx hb rd_M_orderOf_37 (by decide) ?_
          refine lv_goto (tgt := 42) hx hb rd_M_orderOf_38 (by decide) ?_
          exact ef_iret hx hb hr hlocks hP hD hS rd_M_orderOf_42 (by unfold ccmp; rw [if_neg (by omega), if_pos (by omega)]; exact ⟨fun i => [((V 0)), ((V 1)), ((V 2)), ((V 3)), ((V 4)), ((V 5)), ((V 6))].getD i 0, fun i => [((J 0)), ((J 1)), ((J 2)), ((J 3)), ((J 4)), ((J 5)), ((J 6)), ((J 7)), ((J 8)), ((J 9)), ((J 10))].getD i (fun _ => 0), _, _, _, _, rfl, rfl, rfl, rfl, rfl, rfl, rJ_of (hJ 0 (by decide)) (hJ 1 (by decide)) (hJ 2 (by decide)) (hJ 3 (by decide)) (hJ 4 (by decide)) (hJ 5 (by decide)) (hJ 6 (by decide)), kA1, kU1, kA2, kU2⟩)
      ·
        exact absurd d1 (by omega)
  ·
    refine lv_iload_n hx hb rd_M_orderOf_17 rfl (lv_at hl 1 rfl) ?_
    refine iw_if_ne (tgt := 43) hx hb rd_M_orderOf_18 (by decide) (sgn_ir (V 3) pb) (fun c2 => ?_) (fun c2 => ?_)
    ·
      have nPa : (V 3) ≠ 0 := fun q => c2 (by unfold sgn; rw [if_pos q])
      have nPb : A1 ≠ 0 := fun q => c2 (by rw [c1]; unfold sgn; rw [if_pos q])
      refine lv_iload_n hx hb rd_M_orderOf_43 rfl (lv_at hl 1 rfl) ?_
      refine lv_aload_n hx hb rd_M_orderOf_44 rfl (lv_at hl 2 rfl) ?_
      refine lv_aload_n hx hb rd_M_orderOf_45 rfl (lv_at hl 3 rfl) ?_
      refine lv_aload_n hx hb rd_M_orderOf_46 rfl (lv_at hl 4 rfl) ?_
      refine ef_callV (As := [.ref (r 1), .ref (r 3)]) (rest := [.int (iv (sgn (V 3) pb))]) ⟨hx, hb, hml, hown, hts⟩ (r_sizesP0 l dC dI ht r hJ kA1 kU1 kA2 kU2 mA1 mU1 mA2 mU2 nPa nPb nQa nQb bPa bQa bPb bQb lea gea leb geb) (cwV 2 hts (ef_goodV rm_418 rm_420 rm_16 rm_24 rm_421) rfl rfl rfl (by decide +kernel) ⟨Nat.le_of_ble_eq_true rfl, Nat.le_of_ble_eq_true rfl⟩) hK hNX hP hD hS 0 rfl rfl rfl rfl hl.1 rfl (Nat.le_of_ble_eq_true rfl) rd_M_orderOf_47 ⟨Nat.zero_le _, Nat.zero_le _⟩ (fun o w1 H locs hq hP hD hS => ?_)
      obtain ⟨Vv_1, Jv_1, pbv_1, pev_1, obv_1, oev_1, hv5, hv6, hob, hoe, rfl, rfl, hJv_1, kA1v_1, kU1v_1, kA2v_1, kU2v_1⟩ := hq
      have hP : va_P (dC, dI) vwCl (rC cI r ((Vv_1 0)) ((Vv_1 1)) ((Vv_1 2)) ((Vv_1 3)) ((Vv_1 4)) ((Vv_1 5)) ((Vv_1 6)) (A1) (U1) (A2) (U2) ((Jv_1 0)) ((Jv_1 1)) ((Jv_1 2)) ((Jv_1 3)) ((Jv_1 4)) ((Jv_1 5)) ((Jv_1 6)) ((Jv_1 7)) ((Jv_1 8)) ((Jv_1 9)) ((Jv_1 10)) (pbv_1) (pev_1) (obv_1) (oev_1) (b1) (e1) (b2) (e2)) H := hP
      have hD : va_D (ef_A (rC cI r ((V 0)) ((V 1)) ((V 2)) ((V 3)) ((V 4)) ((V 5)) ((V 6)) (A1) (U1) (A2) (U2) ((J 0)) ((J 1)) ((J 2)) ((J 3)) ((J 4)) ((J 5)) ((J 6)) ((J 7)) ((J 8)) ((J 9)) ((J 10)) (pb) (pe) (ob) (oe) (b1) (e1) (b2) (e2))) (rC cI r ((Vv_1 0)) ((Vv_1 1)) ((Vv_1 2)) ((Vv_1 3)) ((Vv_1 4)) ((Vv_1 5)) ((Vv_1 6)) (A1) (U1) (A2) (U2) ((Jv_1 0)) ((Jv_1 1)) ((Jv_1 2)) ((Jv_1 3)) ((Jv_1 4)) ((Jv_1 5)) ((Jv_1 6)) ((Jv_1 7)) ((Jv_1 8)) ((Jv_1 9)) ((Jv_1 10)) (pbv_1) (pev_1) (obv_1) (oev_1) (b1) (e1) (b2) (e2)) := hD
      refine W.eq (g2 := F0 m 50 ls [.int (iv (scmp (V 3) (V 4) pe A1 U1 e1)), .int (iv (sgn (V 3) pb))]) rfl ?_
      refine iw_imul hx hb rd_M_orderOf_50 ?_
      exact ef_iret hx hb hr hlocks hP hD hS rd_M_orderOf_51 (by unfold ccmp; rw [if_neg (by omega), if_neg (by omega), if_neg c2]; exact ⟨fun i => [((Vv_1 0)), ((Vv_1 1)), ((Vv_1 2)), ((Vv_1 3)), ((Vv_1 4)), ((Vv_1 5)), ((Vv_1 6))].getD i 0, fun i => [((Jv_1 0)), ((Jv_1 1)), ((Jv_1 2)), ((Jv_1 3)), ((Jv_1 4)), ((Jv_1 5)), ((Jv_1 6)), ((Jv_1 7)), ((Jv_1 8)), ((Jv_1 9)), ((Jv_1 10))].getD i (fun _ => 0), _, _, _, _, hv5, hv6, hob, hoe, rfl, rfl, rJ_of (hJv_1 0 (by decide)) (hJv_1 1 (by decide)) (hJv_1 2 (by decide)) (hJv_1 3 (by decide)) (hJv_1 4 (by decide)) (hJv_1 5 (by decide)) (hJv_1 6 (by decide)), kA1v_1, kU1v_1, kA2v_1, kU2v_1⟩)
    ·
      refine lv_iload_n hx hb rd_M_orderOf_21 rfl (lv_at hl 1 rfl) ?_
      refine lv_iload hx hb rd_M_orderOf_22 (lv_at hl 0 rfl) ?_
      refine iw_icmp_ge (tgt := 31) hx hb rd_M_orderOf_24 (by decide) (sgn_ir (V 3) pb) (sgn_ir A1 b1) (fun d1 => ?_) (fun d1 => ?_)
      ·
        refine lv_iload_n hx hb rd_M_orderOf_31 rfl (lv_at hl 1 rfl) ?_
        refine lv_iload hx hb rd_M_orderOf_32 (lv_at hl 0 rfl) ?_
        refine iw_icmp_le (tgt := 41) hx hb rd_M_orderOf_34 (by decide) (sgn_ir (V 3) pb) (sgn_ir A1 b1) (fun d2 => ?_) (fun d2 => ?_)
        ·
          refine lv_iconst (v := iv (0)) hx hb rd_M_orderOf_41 (by decide) ?_
          exact ef_iret hx hb hr hlocks hP hD hS rd_M_orderOf_42 (by unfold ccmp; rw [if_neg (by omega), if_neg (by omega), if_pos (by omega)]; exact ⟨fun i => [((V 0)), ((V 1)), ((V 2)), ((V 3)), ((V 4)), ((V 5)), ((V 6))].getD i 0, fun i => [((J 0)), ((J 1)), ((J 2)), ((J 3)), ((J 4)), ((J 5)), ((J 6)), ((J 7)), ((J 8)), ((J 9)), ((J 10))].getD i (fun _ => 0), _, _, _, _, rfl, rfl, rfl, rfl, rfl, rfl, rJ_of (hJ 0 (by decide)) (hJ 1 (by decide)) (hJ 2 (by decide)) (hJ 3 (by decide)) (hJ 4 (by decide)) (hJ 5 (by decide)) (hJ 6 (by decide)), kA1, kU1, kA2, kU2⟩)
        ·
          refine lv_iconst (v := iv (1)) hx hb rd_M_orderOf_37 (by decide) ?_
          refine lv_goto (tgt := 42) hx hb rd_M_orderOf_38 (by decide) ?_
          exact ef_iret hx hb hr hlocks hP hD hS rd_M_orderOf_42 (by unfold ccmp; rw [if_neg (by omega), if_pos (by omega)]; exact ⟨fun i => [((V 0)), ((V 1)), ((V 2)), ((V 3)), ((V 4)), ((V 5)), ((V 6))].getD i 0, fun i => [((J 0)), ((J 1)), ((J 2)), ((J 3)), ((J 4)), ((J 5)), ((J 6)), ((J 7)), ((J 8)), ((J 9)), ((J 10))].getD i (fun _ => 0), _, _, _, _, rfl, rfl, rfl, rfl, rfl, rfl, rJ_of (hJ 0 (by decide)) (hJ 1 (by decide)) (hJ 2 (by decide)) (hJ 3 (by decide)) (hJ 4 (by decide)) (hJ 5 (by decide)) (hJ 6 (by decide)), kA1, kU1, kA2, kU2⟩)
      ·
        refine lv_iconst (v := iv (-1)) hx hb rd_M_orderOf_27 (by decide) ?_
        refine lv_goto (tgt := 42) hx hb rd_M_orderOf_28 (by decide) ?_
        exact ef_iret hx hb hr hlocks hP hD hS rd_M_orderOf_42 (by unfold ccmp; rw [if_pos (by omega)]; exact ⟨fun i => [((V 0)), ((V 1)), ((V 2)), ((V 3)), ((V 4)), ((V 5)), ((V 6))].getD i 0, fun i => [((J 0)), ((J 1)), ((J 2)), ((J 3)), ((J 4)), ((J 5)), ((J 6)), ((J 7)), ((J 8)), ((J 9)), ((J 10))].getD i (fun _ => 0), _, _, _, _, rfl, rfl, rfl, rfl, rfl, rfl, rJ_of (hJ 0 (by decide)) (hJ 1 (by decide)) (hJ 2 (by decide)) (hJ 3 (by decide)) (hJ 4 (by decide)) (hJ 5 (by decide)) (hJ 6 (by decide)), kA1, kU1, kA2, kU2⟩)

set_option maxRecDepth 100000 in
set_option maxHeartbeats 4000000 in
/-- orderOf -/
theorem r_orderP1 (l : Launch) (dC : Nat → ClassId) (dI : Nat → Nat → Nat) {cI : ClassId} {tys : List (ClassId × FieldType)} (ht : tys[0]? = some (cI, .int)) (r : Nat → Nat) {V : Nat → Nat} {J : Nat → Nat → Nat} {A1 U1 A2 U2 : Nat} {pb pe ob oe b1 e1 b2 e2 : Int} (hJ : rJ V J) (kA1 : bk A1 (J 7)) (kU1 : bk U1 (J 8)) (kA2 : bk A2 (J 9)) (kU2 : bk U2 (J 10)) (mA1 : dn A1 ≤ 300) (mU1 : dn U1 ≤ 300) (mA2 : dn A2 ≤ 300) (mU2 : dn U2 ≤ 300) (nQa : (V 4) ≠ 0) (nQb : U2 ≠ 0) (bPa : bl (V 3) ≤ 4800) (bQa : bl (V 4) ≤ 4800) (bPb : bl A2 ≤ 4800) (bQb : bl U2 ≤ 4800) (lea : -12000 ≤ pe) (gea : pe ≤ 12000) (leb : -12000 ≤ e2) (geb : e2 ≤ 12000) (hba : pb = 0 ∨ pb = 1) (hbb : b2 = 0 ∨ b2 = 1) : ef_C l ry_M_orderOf rw_M_orderOf ({ frames := 3, cells := 0, slots := 0, locals := 75 } : Room) [.ref (r 0), .ref (r 1), .ref (r 4)] (dC, dI) vwCl tys (rC cI r ((V 0)) ((V 1)) ((V 2)) ((V 3)) ((V 4)) ((V 5)) ((V 6)) (A1) (U1) (A2) (U2) ((J 0)) ((J 1)) ((J 2)) ((J 3)) ((J 4)) ((J 5)) ((J 6)) ((J 7)) ((J 8)) ((J 9)) ((J 10)) (pb) (pe) (ob) (oe) (b1) (e1) (b2) (e2)) (fun o w1 => ∃ (V2 : Nat → Nat) (J2 : Nat → Nat → Nat) (pb2 pe2 ob2 oe2 : Int), V2 5 = V 5 ∧ V2 6 = V 6 ∧ ob2 = ob ∧ oe2 = oe ∧ o = some (.int (iv (ccmp (V 3) (V 4) pb pe A2 U2 b2 e2))) ∧ w1 = rC cI r (V2 0) (V2 1) (V2 2) (V2 3) (V2 4) (V2 5) (V2 6) (A1) (U1) (A2) (U2) (J2 0) (J2 1) (J2 2) (J2 3) (J2 4) (J2 5) (J2 6) (J2 7) (J2 8) (J2 9) (J2 10) (pb2) (pe2) (ob2) (oe2) (b1) (e1) (b2) (e2) ∧ rJ V2 J2 ∧ bk (A1) (J2 7) ∧ bk (U1) (J2 8) ∧ bk (A2) (J2 9) ∧ bk (U2) (J2 10)) := by
  refine ef_C.of (cc := rc_M_orderOf) (maxL := 5) (ret := (some .int)) (by decide) rfl (Nat.le_of_ble_eq_true rfl) ?_
  intro p e s m below meth c ls hx hb hml hr hts hown hlocks hK hNX hP hD hS hl
  have hl : lv_has ls 5 [(0, .ref (r 0)), (1, .ref (r 1)), (2, .ref (r 4))] := hl
  have hown : s.vm.findClass rR5 = some m.cls := hown
  generalize hH : s.heap = H at hP ⊢
  have hS : va_S (ef_A (rC cI r ((V 0)) ((V 1)) ((V 2)) ((V 3)) ((V 4)) ((V 5)) ((V 6)) (A1) (U1) (A2) (U2) ((J 0)) ((J 1)) ((J 2)) ((J 3)) ((J 4)) ((J 5)) ((J 6)) ((J 7)) ((J 8)) ((J 9)) ((J 10)) (pb) (pe) (ob) (oe) (b1) (e1) (b2) (e2))) s.heap H [] := by rw [← hH]; exact hS
  generalize ([] : List Loc) = locs at hS ⊢
  refine lv_aload_n hx hb rd_M_orderOf_0 rfl (lv_at hl 1 rfl) ?_
  refine ef_callV (As := []) (rest := []) ⟨hx, hb, hml, hown, hts⟩ (r_signP l dC dI ht r hJ kA1 kU1 kA2 kU2 mA1 mU1 mA2 mU2 hba) (cwV 0 hts (ef_goodV rm_414 rm_415 rm_416 rm_26 rm_417) rfl rfl rfl (by decide +kernel) ⟨Nat.le_of_ble_eq_true rfl, Nat.le_of_ble_eq_true rfl⟩) hK hNX hP hD hS 1 rfl rfl rfl rfl hl.1 rfl (Nat.le_of_ble_eq_true rfl) rd_M_orderOf_1 ⟨Nat.zero_le _, Nat.zero_le _⟩ (fun o w1 H locs hq hP hD hS => ?_)
  obtain ⟨rfl, e9⟩ := hq
  rw [e9] at hP hD
  refine W.eq (g2 := F0 m 4 ls [.int (iv (sgn (V 3) pb))]) rfl ?_
  refine lv_istore_n (lv' := [(3, .int (iv (sgn (V 3) pb))), (0, .ref (r 0)), (1, .ref (r 1)), (2, .ref (r 4))]) hx hb rd_M_orderOf_4 rfl hl (by decide) rfl (fun ls hl => ?_)
  refine lv_aload_n hx hb rd_M_orderOf_5 rfl (lv_at hl 3 rfl) ?_
  refine ef_callV (As := []) (rest := []) ⟨hx, hb, hml, hown, hts⟩ (r_sign1 l dC dI ht r hJ kA1 kU1 kA2 kU2 mA1 mU1 mA2 mU2 hbb) (cwV 0 hts (ef_goodV rm_414 rm_415 rm_416 rm_26 rm_417) rfl rfl rfl (by decide +kernel) ⟨Nat.le_of_ble_eq_true rfl, Nat.le_of_ble_eq_true rfl⟩) hK hNX hP hD hS 4 rfl rfl rfl rfl hl.1 rfl (Nat.le_of_ble_eq_true rfl) rd_M_orderOf_6 ⟨Nat.zero_le _, Nat.zero_le _⟩ (fun o w1 H locs hq hP hD hS => ?_)
  obtain ⟨rfl, e9⟩ := hq
  rw [e9] at hP hD
  refine W.eq (g2 := F0 m 9 ls [.int (iv (sgn A2 b2))]) rfl ?_
  have r1 := sgn_r (V 3) pb
  have r2 := sgn_r A2 b2
  refine lv_istore (lv' := [(4, .int (iv (sgn A2 b2))), (3, .int (iv (sgn (V 3) pb))), (0, .ref (r 0)), (1, .ref (r 1)), (2, .ref (r 4))]) hx hb rd_M_orderOf_9 hl (by decide) rfl (fun ls hl => ?_)
  refine lv_iload_n hx hb rd_M_orderOf_11 rfl (lv_at hl 1 rfl) ?_
  refine lv_iload hx hb rd_M_orderOf_12 (lv_at hl 0 rfl) ?_
  refine iw_icmp_ne (tgt := 21) hx hb rd_M_orderOf_14 (by decide) (sgn_ir (V 3) pb) (sgn_ir A2 b2) (fun c1 => ?_) (fun c1 => ?_)
  ·
    rcases Int.lt_or_le (sgn (V 3) pb) (sgn A2 b2) with q9 | q9
    ·
      refine lv_iload_n hx hb rd_M_orderOf_21 rfl (lv_at hl 1 rfl) ?_
      refine lv_iload hx hb rd_M_orderOf_22 (lv_at hl 0 rfl) ?_
      refine iw_icmp_ge (tgt := 31) hx hb rd_M_orderOf_24 (by decide) (sgn_ir (V 3) pb) (sgn_ir A2 b2) (fun d1 => ?_) (fun d1 => ?_)
      ·
        exact absurd d1 (by omega)
      ·
        refine lv_iconst (v := iv (-1)) hx hb rd_M_orderOf_27 (by decide) ?_
        refine lv_goto (tgt := 42) hx hb rd_M_orderOf_28 (by decide) ?_
        exact ef_iret hx hb hr hlocks hP hD hS rd_M_orderOf_42 (by unfold ccmp; rw [if_pos (by omega)]; exact ⟨fun i => [((V 0)), ((V 1)), ((V 2)), ((V 3)), ((V 4)), ((V 5)), ((V 6))].getD i 0, fun i => [((J 0)), ((J 1)), ((J 2)), ((J 3)), ((J 4)), ((J 5)), ((J 6)), ((J 7)), ((J 8)), ((J 9)), ((J 10))].getD i (fun _ => 0), _, _, _, _, rfl, rfl, rfl, rfl, rfl, rfl, rJ_of (hJ 0 (by decide)) (hJ 1 (by decide)) (hJ 2 (by decide)) (hJ 3 (by decide)) (hJ 4 (by decide)) (hJ 5 (by decide)) (hJ 6 (by decide)), kA1, kU1, kA2, kU2⟩)
    ·
      refine lv_iload_n hx hb rd_M_orderOf_21 rfl (lv_at hl 1 rfl) ?_
      refine lv_iload hx hb rd_M_orderOf_22 (lv_at hl 0 rfl) ?_
      refine iw_icmp_ge (tgt := 31) hx hb rd_M_orderOf_24 (by decide) (sgn_ir (V 3) pb) (sgn_ir A2 b2) (fun d1 => ?_) (fun d1 => ?_)
      ·
        refine lv_iload_n hx hb rd_M_orderOf_31 rfl (lv_at hl 1 rfl) ?_
        refine lv_iload hx hb rd_M_orderOf_32 (lv_at hl 0 rfl) ?_
        refine iw_icmp_le (tgt := 41) hx hb rd_M_orderOf_34 (by decide) (sgn_ir (V 3) pb) (sgn_ir A2 b2) (fun d2 => ?_) (fun d2 => ?_)
        ·
          exact absurd d2 (by omega)
        ·
          refine lv_iconst (v := iv (1)) hx hb rd_M_orderOf_37 (by decide) ?_
          refine lv_goto (tgt := 42) hx hb rd_M_orderOf_38 (by decide) ?_
          exact ef_iret hx hb hr hlocks hP hD hS rd_M_orderOf_42 (by unfold ccmp; rw [if_neg (by omega), if_pos (by omega)]; exact ⟨fun i => [((V 0)), ((V 1)), ((V 2)), ((V 3)), ((V 4)), ((V 5)), ((V 6))].getD i 0, fun i => [((J 0)), ((J 1)), ((J 2)), ((J 3)), ((J 4)), ((J 5)), ((J 6)), ((J 7)), ((J 8)), ((J 9)), ((J 10))].getD i (fun _ => 0), _, _, _, _, rfl, rfl, rfl, rfl, rfl, rfl, rJ_of (hJ 0 (by decide)) (hJ 1 (by decide)) (hJ 2 (by decide)) (hJ 3 (by decide)) (hJ 4 (by decide)) (hJ 5 (by decide)) (hJ 6 (by decide)), kA1, kU1, kA2, kU2⟩)
      ·
        exact absurd d1 (by omega)
  ·
    refine lv_iload_n hx hb rd_M_orderOf_17 rfl (lv_at hl 1 rfl) ?_
    refine iw_if_ne (tgt := 43) hx hb rd_M_orderOf_18 (by decide) (sgn_ir (V 3) pb) (fun c2 => ?_) (fun c2 => ?_)
    ·
      have nPa : (V 3) ≠ 0 := fun q => c2 (by unfold sgn; rw [if_pos q])
      have nPb : A2 ≠ 0 := fun q => c2 (by rw [c1]; unfold sgn; rw [if_pos q])
      refine lv_iload_n hx hb rd_M_orderOf_43 rfl (lv_at hl 1 rfl) ?_
      refine lv_aload_n hx hb rd_M_orderOf_44 rfl (lv_at hl 2 rfl) ?_
      refine lv_aload_n hx hb rd_M_orderOf_45 rfl (lv_at hl 3 rfl) ?_
      refine lv_aload_n hx hb rd_M_orderOf_46 rfl (lv_at hl 4 rfl) ?_
      refine ef_callV (As := [.ref (r 1), .ref (r 4)]) (rest := [.int (iv (sgn (V 3) pb))]) ⟨hx, hb, hml, hown, hts⟩ (r_sizesP1 l dC dI ht r hJ kA1 kU1 kA2 kU2 mA1 mU1 mA2 mU2 nPa nPb nQa nQb bPa bQa bPb bQb lea gea leb geb) (cwV 2 hts (ef_goodV rm_418 rm_420 rm_16 rm_24 rm_421) rfl rfl rfl (by decide +kernel) ⟨Nat.le_of_ble_eq_true rfl, Nat.le_of_ble_eq_true rfl⟩) hK hNX hP hD hS 0 rfl rfl rfl rfl hl.1 rfl (Nat.le_of_ble_eq_true rfl) rd_M_orderOf_47 ⟨Nat.zero_le _, Nat.zero_le _⟩ (fun o w1 H locs hq hP hD hS => ?_)
      obtain ⟨Vv_1, Jv_1, pbv_1, pev_1, obv_1, oev_1, hv5, hv6, hob, hoe, rfl, rfl, hJv_1, kA1v_1, kU1v_1, kA2v_1, kU2v_1⟩ := hq
      have hP : va_P (dC, dI) vwCl (rC cI r ((Vv_1 0)) ((Vv_1 1)) ((Vv_1 2)) ((Vv_1 3)) ((Vv_1 4)) ((Vv_1 5)) ((Vv_1 6)) (A1) (U1) (A2) (U2) ((Jv_1 0)) ((Jv_1 1)) ((Jv_1 2)) ((Jv_1 3)) ((Jv_1 4)) ((Jv_1 5)) ((Jv_1 6)) ((Jv_1 7)) ((Jv_1 8)) ((Jv_1 9)) ((Jv_1 10)) (pbv_1) (pev_1) (obv_1) (oev_1) (b1) (e1) (b2) (e2)) H := hP
      have hD : va_D (ef_A (rC cI r ((V 0)) ((V 1)) ((V 2)) ((V 3)) ((V 4)) ((V 5)) ((V 6)) (A1) (U1) (A2) (U2) ((J 0)) ((J 1)) ((J 2)) ((J 3)) ((J 4)) ((J 5)) ((J 6)) ((J 7)) ((J 8)) ((J 9)) ((J 10)) (pb) (pe) (ob) (oe) (b1) (e1) (b2) (e2))) (rC cI r ((Vv_1 0)) ((Vv_1 1)) ((Vv_1 2)) ((Vv_1 3)) ((Vv_1 4)) ((Vv_1 5)) ((Vv_1 6)) (A1) (U1) (A2) (U2) ((Jv_1 0)) ((Jv_1 1)) ((Jv_1 2)) ((Jv_1 3)) ((Jv_1 4)) ((Jv_1 5)) ((Jv_1 6)) ((Jv_1 7)) ((Jv_1 8)) ((Jv_1 9)) ((Jv_1 10)) (pbv_1) (pev_1) (obv_1) (oev_1) (b1) (e1) (b2) (e2)) := hD
      refine W.eq (g2 := F0 m 50 ls [.int (iv (scmp (V 3) (V 4) pe A2 U2 e2)), .int (iv (sgn (V 3) pb))]) rfl ?_
      refine iw_imul hx hb rd_M_orderOf_50 ?_
      exact ef_iret hx hb hr hlocks hP hD hS rd_M_orderOf_51 (by unfold ccmp; rw [if_neg (by omega), if_neg (by omega), if_neg c2]; exact ⟨fun i => [((Vv_1 0)), ((Vv_1 1)), ((Vv_1 2)), ((Vv_1 3)), ((Vv_1 4)), ((Vv_1 5)), ((Vv_1 6))].getD i 0, fun i => [((Jv_1 0)), ((Jv_1 1)), ((Jv_1 2)), ((Jv_1 3)), ((Jv_1 4)), ((Jv_1 5)), ((Jv_1 6)), ((Jv_1 7)), ((Jv_1 8)), ((Jv_1 9)), ((Jv_1 10))].getD i (fun _ => 0), _, _, _, _, hv5, hv6, hob, hoe, rfl, rfl, rJ_of (hJv_1 0 (by decide)) (hJv_1 1 (by decide)) (hJv_1 2 (by decide)) (hJv_1 3 (by decide)) (hJv_1 4 (by decide)) (hJv_1 5 (by decide)) (hJv_1 6 (by decide)), kA1v_1, kU1v_1, kA2v_1, kU2v_1⟩)
    ·
      refine lv_iload_n hx hb rd_M_orderOf_21 rfl (lv_at hl 1 rfl) ?_
      refine lv_iload hx hb rd_M_orderOf_22 (lv_at hl 0 rfl) ?_
      refine iw_icmp_ge (tgt := 31) hx hb rd_M_orderOf_24 (by decide) (sgn_ir (V 3) pb) (sgn_ir A2 b2) (fun d1 => ?_) (fun d1 => ?_)
      ·
        refine lv_iload_n hx hb rd_M_orderOf_31 rfl (lv_at hl 1 rfl) ?_
        refine lv_iload hx hb rd_M_orderOf_32 (lv_at hl 0 rfl) ?_
        refine iw_icmp_le (tgt := 41) hx hb rd_M_orderOf_34 (by decide) (sgn_ir (V 3) pb) (sgn_ir A2 b2) (fun d2 => ?_) (fun d2 => ?_)
        ·
          refine lv_iconst (v := iv (0)) hx hb rd_M_orderOf_41 (by decide) ?_
          exact ef_iret hx hb hr hlocks hP hD hS rd_M_orderOf_42 (by unfold ccmp; rw [if_neg (by omega), if_neg (by omega), if_pos (by omega)]; exact ⟨fun i => [((V 0)), ((V 1)), ((V 2)), ((V 3)), ((V 4)), ((V 5)), ((V 6))].getD i 0, fun i => [((J 0)), ((J 1)), ((J 2)), ((J 3)), ((J 4)), ((J 5)), ((J 6)), ((J 7)), ((J 8)), ((J 9)), ((J 10))].getD i (fun _ => 0), _, _, _, _, rfl, rfl, rfl, rfl, rfl, rfl, rJ_of (hJ 0 (by decide)) (hJ 1 (by decide)) (hJ 2 (by decide)) (hJ 3 (by decide)) (hJ 4 (by decide)) (hJ 5 (by decide)) (hJ 6 (by decide)), kA1, kU1, kA2, kU2⟩)
        ·
          refine lv_iconst (v := iv (1)) hx hb rd_M_orderOf_37 (by decide) ?_
          refine lv_goto (tgt := 42) hx hb rd_M_orderOf_38 (by decide) ?_
          exact ef_iret hx hb hr hlocks hP hD hS rd_M_orderOf_42 (by unfold ccmp; rw [if_neg (by omega), if_pos (by omega)]; exact ⟨fun i => [((V 0)), ((V 1)), ((V 2)), ((V 3)), ((V 4)), ((V 5)), ((V 6))].getD i 0, fun i => [((J 0)), ((J 1)), ((J 2)), ((J 3)), ((J 4)), ((J 5)), ((J 6)), ((J 7)), ((J 8)), ((J 9)), ((J 10))].getD i (fun _ => 0), _, _, _, _, rfl, rfl, rfl, rfl, rfl, rfl, rJ_of (hJ 0 (by decide)) (hJ 1 (by decide)) (hJ 2 (by decide)) (hJ 3 (by decide)) (hJ 4 (by decide)) (hJ 5 (by decide)) (hJ 6 (by decide)), kA1, kU1, kA2, kU2⟩)
      ·
        refine lv_iconst (v := iv (-1)) hx hb rd_M_orderOf_27 (by decide) ?_
        refine lv_goto (tgt := 42) hx hb rd_M_orderOf_28 (by decide) ?_
        exact ef_iret hx hb hr hlocks hP hD hS rd_M_orderOf_42 (by unfold ccmp; rw [if_pos (by omega)]; exact ⟨fun i => [((V 0)), ((V 1)), ((V 2)), ((V 3)), ((V 4)), ((V 5)), ((V 6))].getD i 0, fun i => [((J 0)), ((J 1)), ((J 2)), ((J 3)), ((J 4)), ((J 5)), ((J 6)), ((J 7)), ((J 8)), ((J 9)), ((J 10))].getD i (fun _ => 0), _, _, _, _, rfl, rfl, rfl, rfl, rfl, rfl, rJ_of (hJ 0 (by decide)) (hJ 1 (by decide)) (hJ 2 (by decide)) (hJ 3 (by decide)) (hJ 4 (by decide)) (hJ 5 (by decide)) (hJ 6 (by decide)), kA1, kU1, kA2, kU2⟩)

set_option maxRecDepth 100000 in
set_option maxHeartbeats 4000000 in
/-- orderOf -/
theorem r_orderPO (l : Launch) (dC : Nat → ClassId) (dI : Nat → Nat → Nat) {cI : ClassId} {tys : List (ClassId × FieldType)} (ht : tys[0]? = some (cI, .int)) (r : Nat → Nat) {V : Nat → Nat} {J : Nat → Nat → Nat} {A1 U1 A2 U2 : Nat} {pb pe ob oe b1 e1 b2 e2 : Int} (hJ : rJ V J) (kA1 : bk A1 (J 7)) (kU1 : bk U1 (J 8)) (kA2 : bk A2 (J 9)) (kU2 : bk U2 (J 10)) (mA1 : dn A1 ≤ 300) (mU1 : dn U1 ≤ 300) (mA2 : dn A2 ≤ 300) (mU2 : dn U2 ≤ 300) (nQa : (V 4) ≠ 0) (nQb : (V 6) ≠ 0) (bPa : bl (V 3) ≤ 4800) (bQa : bl (V 4) ≤ 4800) (bPb : bl (V 5) ≤ 4800) (bQb : bl (V 6) ≤ 4800) (lea : -12000 ≤ pe) (gea : pe ≤ 12000) (leb : -12000 ≤ oe) (geb : oe ≤ 12000) (hba : pb = 0 ∨ pb = 1) (hbb : ob = 0 ∨ ob = 1) : ef_C l ry_M_orderOf rw_M_orderOf ({ frames := 3, cells := 0, slots := 0, locals := 75 } : Room) [.ref (r 0), .ref (r 1), .ref (r 2)] (dC, dI) vwCl tys (rC cI r ((V 0)) ((V 1)) ((V 2)) ((V 3)) ((V 4)) ((V 5)) ((V 6)) (A1) (U1) (A2) (U2) ((J 0)) ((J 1)) ((J 2)) ((J 3)) ((J 4)) ((J 5)) ((J 6)) ((J 7)) ((J 8)) ((J 9)) ((J 10)) (pb) (pe) (ob) (oe) (b1) (e1) (b2) (e2)) (fun o w1 => ∃ (V2 : Nat → Nat) (J2 : Nat → Nat → Nat) (pb2 pe2 ob2 oe2 : Int), V2 5 = V 5 ∧ V2 6 = V 6 ∧ ob2 = ob ∧ oe2 = oe ∧ o = some (.int (iv (ccmp (V 3) (V 4) pb pe (V 5) (V 6) ob oe))) ∧ w1 = rC cI r (V2 0) (V2 1) (V2 2) (V2 3) (V2 4) (V2 5) (V2 6) (A1) (U1) (A2) (U2) (J2 0) (J2 1) (J2 2) (J2 3) (J2 4) (J2 5) (J2 6) (J2 7) (J2 8) (J2 9) (J2 10) (pb2) (pe2) (ob2) (oe2) (b1) (e1) (b2) (e2) ∧ rJ V2 J2 ∧ bk (A1) (J2 7) ∧ bk (U1) (J2 8) ∧ bk (A2) (J2 9) ∧ bk (U2) (J2 10)) := by
  refine ef_C.of (cc := rc_M_orderOf) (maxL := 5) (ret := (some .int)) (by decide) rfl (Nat.le_of_ble_eq_true rfl) ?_
  intro p e s m below meth c ls hx hb hml hr hts hown hlocks hK hNX hP hD hS hl
  have hl : lv_has ls 5 [(0, .ref (r 0)), (1, .ref (r 1)), (2, .ref (r 2))] := hl
  have hown : s.vm.findClass rR5 = some m.cls := hown
  generalize hH : s.heap = H at hP ⊢
  have hS : va_S (ef_A (rC cI r ((V 0)) ((V 1)) ((V 2)) ((V 3)) ((V 4)) ((V 5)) ((V 6)) (A1) (U1) (A2) (U2) ((J 0)) ((J 1)) ((J 2)) ((J 3)) ((J 4)) ((J 5)) ((J 6)) ((J 7)) ((J 8)) ((J 9)) ((J 10)) (pb) (pe) (ob) (oe) (b1) (e1) (b2) (e2))) s.heap H [] := by rw [← hH]; exact hS
  generalize ([] : List Loc) = locs at hS ⊢
  refine lv_aload_n hx hb rd_M_orderOf_0 rfl (lv_at hl 1 rfl) ?_
  refine ef_callV (As := []) (rest := []) ⟨hx, hb, hml, hown, hts⟩ (r_signP l dC dI ht r hJ kA1 kU1 kA2 kU2 mA1 mU1 mA2 mU2 hba) (cwV 0 hts (ef_goodV rm_414 rm_415 rm_416 rm_26 rm_417) rfl rfl rfl (by decide +kernel) ⟨Nat.le_of_ble_eq_true rfl, Nat.le_of_ble_eq_true rfl⟩) hK hNX hP hD hS 1 rfl rfl rfl rfl hl.1 rfl (Nat.le_of_ble_eq_true rfl) rd_M_orderOf_1 ⟨Nat.zero_le _, Nat.zero_le _⟩ (fun o w1 H locs hq hP hD hS => ?_)
  obtain ⟨rfl, e9⟩ := hq
  rw [e9] at hP hD
  refine W.eq (g2 := F0 m 4 ls [.int (iv (sgn (V 3) pb))]) rfl ?_
  refine lv_istore_n (lv' := [(3, .int (iv (sgn (V 3) pb))), (0, .ref (r 0)), (1, .ref (r 1)), (2, .ref (r 2))]) hx hb rd_M_orderOf_4 rfl hl (by decide) rfl (fun ls hl => ?_)
  refine lv_aload_n hx hb rd_M_orderOf_5 rfl (lv_at hl 3 rfl) ?_
  refine ef_callV (As := []) (rest := []) ⟨hx, hb, hml, hown, hts⟩ (r_signO l dC dI ht r hJ kA1 kU1 kA2 kU2 mA1 mU1 mA2 mU2 hbb) (cwV 0 hts (ef_goodV rm_414 rm_415 rm_416 rm_26 rm_417) rfl rfl rfl (by decide +kernel) ⟨Nat.le_of_ble_eq_true rfl, Nat.le_of_ble_eq_true rfl⟩) hK hNX hP hD hS 2 rfl rfl rfl rfl hl.1 rfl (Nat.le_of_ble_eq_true rfl) rd_M_orderOf_6 ⟨Nat.zero_le _, Nat.zero_le _⟩ (fun o w1 H locs hq hP hD hS => ?_)
  obtain ⟨rfl, e9⟩ := hq
  rw [e9] at hP hD
  refine W.eq (g2 := F0 m 9 ls [.int (iv (sgn (V 5) ob))]) rfl ?_
  have r1 := sgn_r (V 3) pb
  have r2 := sgn_r (V 5) ob
  refine lv_istore (lv' := [(4, .int (iv (sgn (V 5) ob))), (3, .int (iv (sgn (V 3) pb))), (0, .ref (r 0)), (1, .ref (r 1)), (2, .ref (r 2))]) hx hb rd_M_orderOf_9 hl (by decide) rfl (fun ls hl => ?_)
  refine lv_iload_n hx hb rd_M_orderOf_11 rfl (lv_at hl 1 rfl) ?_
  refine lv_iload hx hb rd_M_orderOf_12 (lv_at hl 0 rfl) ?_
  refine iw_icmp_ne (tgt := 21) hx hb rd_M_orderOf_14 (by decide) (sgn_ir (V 3) pb) (sgn_ir (V 5) ob) (fun c1 => ?_) (fun c1 => ?_)
  ·
    rcases Int.lt_or_le (sgn (V 3) pb) (sgn (V 5) ob) with q9 | q9
    ·
      refine lv_iload_n hx hb rd_M_orderOf_21 rfl (lv_at hl 1 rfl) ?_
      refine lv_iload hx hb rd_M_orderOf_22 (lv_at hl 0 rfl) ?_
      refine iw_icmp_ge (tgt := 31) hx hb rd_M_orderOf_24 (by decide) (sgn_ir (V 3) pb) (sgn_ir (V 5) ob) (fun d1 => ?_) (fun d1 => ?_)
      ·
        exact absurd d1 (by omega)
      ·
        refine lv_iconst (v := iv (-1)) hx hb rd_M_orderOf_27 (by decide) ?_
        refine lv_goto (tgt := 42) hx hb rd_M_orderOf_28 (by decide) ?_
        exact ef_iret hx hb hr hlocks hP hD hS rd_M_orderOf_42 (by unfold ccmp; rw [if_pos (by omega)]; exact ⟨fun i => [((V 0)), ((V 1)), ((V 2)), ((V 3)), ((V 4)), ((V 5)), ((V 6))].getD i 0, fun i => [((J 0)), ((J 1)), ((J 2)), ((J 3)), ((J 4)), ((J 5)), ((J 6)), ((J 7)), ((J 8)), ((J 9)), ((J 10))].getD i (fun _ => 0), _, _, _, _, rfl, rfl, rfl, rfl, rfl, rfl, rJ_of (hJ 0 (by decide)) (hJ 1 (by decide)) (hJ 2 (by decide)) (hJ 3 (by decide)) (hJ 4 (by decide)) (hJ 5 (by decide)) (hJ 6 (by decide)), kA1, kU1, kA2, kU2⟩)
    ·
      refine lv_iload_n hx hb rd_M_orderOf_21 rfl (lv_at hl 1 rfl) ?_
      refine lv_iload hx hb rd_M_orderOf_22 (lv_at hl 0 rfl) ?_
      refine iw_icmp_ge (tgt := 31) hx hb rd_M_orderOf_24 (by decide) (sgn_ir (V 3) pb) (sgn_ir (V 5) ob) (fun d1 => ?_) (fun d1 => ?_)
      ·
        refine lv_iload_n hx hb rd_M_orderOf_31 rfl (lv_at hl 1 rfl) ?_
        refine lv_iload hx hb rd_M_orderOf_32 (lv_at hl 0 rfl) ?_
        refine iw_icmp_le (tgt := 41) hx hb rd_M_orderOf_34 (by decide) (sgn_ir (V 3) pb) (sgn_ir (V 5) ob) (fun d2 => ?_) (fun d2 => ?_)
        ·
          exact absurd d2 (by omega)
        ·
          refine lv_iconst (v := iv (1)) hx hb rd_M_orderOf_37 (by decide) ?_
          refine lv_goto (tgt := 42) hx hb rd_M_orderOf_38 (by decide) ?_
          exact ef_iret hx hb hr hlocks hP hD hS rd_M_orderOf_42 (by unfold ccmp; rw [if_neg (by omega), if_pos (by omega)]; exact ⟨fun i => [((V 0)), ((V 1)), ((V 2)), ((V 3)), ((V 4)), ((V 5)), ((V 6))].getD i 0, fun i => [((J 0)), ((J 1)), ((J 2)), ((J 3)), ((J 4)), ((J 5)), ((J 6)), ((J 7)), ((J 8)), ((J 9)), ((J 10))].getD i (fun _ => 0), _, _, _, _, rfl, rfl, rfl, rfl, rfl, rfl, rJ_of (hJ 0 (by decide)) (hJ 1 (by decide)) (hJ 2 (by decide)) (hJ 3 (by decide)) (hJ 4 (by decide)) (hJ 5 (by decide)) (hJ 6 (by decide)), kA1, kU1, kA2, kU2⟩)
      ·
        exact absurd d1 (by omega)
  ·
    refine lv_iload_n hx hb rd_M_orderOf_17 rfl (lv_at hl 1 rfl) ?_
    refine iw_if_ne (tgt := 43) hx hb rd_M_orderOf_18 (by decide) (sgn_ir (V 3) pb) (fun c2 => ?_) (fun c2 => ?_)
    ·
      have nPa : (V 3) ≠ 0 := fun q => c2 (by unfold sgn; rw [if_pos q])
      have nPb : (V 5) ≠ 0 := fun q => c2 (by rw [c1]; unfold sgn; rw [if_pos q])
      refine lv_iload_n hx hb rd_M_orderOf_43 rfl (lv_at hl 1 rfl) ?_
      refine lv_aload_n hx hb rd_M_orderOf_44 rfl (lv_at hl 2 rfl) ?_
      refine lv_aload_n hx hb rd_M_orderOf_45 rfl (lv_at hl 3 rfl) ?_
      refine lv_aload_n hx hb rd_M_orderOf_46 rfl (lv_at hl 4 rfl) ?_
      refine ef_callV (As := [.ref (r 1), .ref (r 2)]) (rest := [.int (iv (sgn (V 3) pb))]) ⟨hx, hb, hml, hown, hts⟩ (r_sizesPO l dC dI ht r hJ kA1 kU1 kA2 kU2 mA1 mU1 mA2 mU2 nPa nPb nQa nQb bPa bQa bPb bQb lea gea leb geb) (cwV 2 hts (ef_goodV rm_418 rm_420 rm_16 rm_24 rm_421) rfl rfl rfl (by decide +kernel) ⟨Nat.le_of_ble_eq_true rfl, Nat.le_of_ble_eq_true rfl⟩) hK hNX hP hD hS 0 rfl rfl rfl rfl hl.1 rfl (Nat.le_of_ble_eq_true rfl) rd_M_orderOf_47 ⟨Nat.zero_le _, Nat.zero_le _⟩ (fun o w1 H locs hq hP hD hS => ?_)
      obtain ⟨Vv_1, Jv_1, pbv_1, pev_1, obv_1, oev_1, hv5, hv6, hob, hoe, rfl, rfl, hJv_1, kA1v_1, kU1v_1, kA2v_1, kU2v_1⟩ := hq
      have hP : va_P (dC, dI) vwCl (rC cI r ((Vv_1 0)) ((Vv_1 1)) ((Vv_1 2)) ((Vv_1 3)) ((Vv_1 4)) ((Vv_1 5)) ((Vv_1 6)) (A1) (U1) (A2) (U2) ((Jv_1 0)) ((Jv_1 1)) ((Jv_1 2)) ((Jv_1 3)) ((Jv_1 4)) ((Jv_1 5)) ((Jv_1 6)) ((Jv_1 7)) ((Jv_1 8)) ((Jv_1 9)) ((Jv_1 10)) (pbv_1) (pev_1) (obv_1) (oev_1) (b1) (e1) (b2) (e2)) H := hP
      have hD : va_D (ef_A (rC cI r ((V 0)) ((V 1)) ((V 2)) ((V 3)) ((V 4)) ((V 5)) ((V 6)) (A1) (U1) (A2) (U2) ((J 0)) ((J 1)) ((J 2)) ((J 3)) ((J 4)) ((J 5)) ((J 6)) ((J 7)) ((J 8)) ((J 9)) ((J 10)) (pb) (pe) (ob) (oe) (b1) (e1) (b2) (e2))) (rC cI r ((Vv_1 0)) ((Vv_1 1)) ((Vv_1 2)) ((Vv_1 3)) ((Vv_1 4)) ((Vv_1 5)) ((Vv_1 6)) (A1) (U1) (A2) (U2) ((Jv_1 0)) ((Jv_1 1)) ((Jv_1 2)) ((Jv_1 3)) ((Jv_1 4)) ((Jv_1 5)) ((Jv_1 6)) ((Jv_1 7)) ((Jv_1 8)) ((Jv_1 9)) ((Jv_1 10)) (pbv_1) (pev_1) (obv_1) (oev_1) (b1) (e1) (b2) (e2)) := hD
      refine W.eq (g2 := F0 m 50 ls [.int (iv (scmp (V 3) (V 4) pe (V 5) (V 6) oe)), .int (iv (sgn (V 3) pb))]) rfl ?_
      refine iw_imul hx hb rd_M_orderOf_50 ?_
      exact ef_iret hx hb hr hlocks hP hD hS rd_M_orderOf_51 (by unfold ccmp; rw [if_neg (by omega), if_neg (by omega), if_neg c2]; exact ⟨fun i => [((Vv_1 0)), ((Vv_1 1)), ((Vv_1 2)), ((Vv_1 3)), ((Vv_1 4)), ((Vv_1 5)), ((Vv_1 6))].getD i 0, fun i => [((Jv_1 0)), ((Jv_1 1)), ((Jv_1 2)), ((Jv_1 3)), ((Jv_1 4)), ((Jv_1 5)), ((Jv_1 6)), ((Jv_1 7)), ((Jv_1 8)), ((Jv_1 9)), ((Jv_1 10))].getD i (fun _ => 0), _, _, _, _, hv5, hv6, hob, hoe, rfl, rfl, rJ_of (hJv_1 0 (by decide)) (hJv_1 1 (by decide)) (hJv_1 2 (by decide)) (hJv_1 3 (by decide)) (hJv_1 4 (by decide)) (hJv_1 5 (by decide)) (hJv_1 6 (by decide)), kA1v_1, kU1v_1, kA2v_1, kU2v_1⟩)
    ·
      refine lv_iload_n hx hb rd_M_orderOf_21 rfl (lv_at hl 1 rfl) ?_
      refine lv_iload hx hb rd_M_orderOf_22 (lv_at hl 0 rfl) ?_
      refine iw_icmp_ge (tgt := 31) hx hb rd_M_orderOf_24 (by decide) (sgn_ir (V 3) pb) (sgn_ir (V 5) ob) (fun d1 => ?_) (fun d1 => ?_)
      ·
        refine lv_iload_n hx hb rd_M_orderOf_31 rfl (lv_at hl 1 rfl) ?_
        refine lv_iload hx hb rd_M_orderOf_32 (lv_at hl 0 rfl) ?_
        refine iw_icmp_le (tgt := 41) hx hb rd_M_orderOf_34 (by decide) (sgn_ir (V 3) pb) (sgn_ir (V 5) ob) (fun d2 => ?_) (fun d2 => ?_)
        ·
          refine lv_iconst (v := iv (0)) hx hb rd_M_orderOf_41 (by decide) ?_
          exact ef_iret hx hb hr hlocks hP hD hS rd_M_orderOf_42 (by unfold ccmp; rw [if_neg (by omega), if_neg (by omega), if_pos (by omega)]; exact ⟨fun i => [((V 0)), ((V 1)), ((V 2)), ((V 3)), ((V 4)), ((V 5)), ((V 6))].getD i 0, fun i => [((J 0)), ((J 1)), ((J 2)), ((J 3)), ((J 4)), ((J 5)), ((J 6)), ((J 7)), ((J 8)), ((J 9)), ((J 10))].getD i (fun _ => 0), _, _, _, _, rfl, rfl, rfl, rfl, rfl, rfl, rJ_of (hJ 0 (by decide)) (hJ 1 (by decide)) (hJ 2 (by decide)) (hJ 3 (by decide)) (hJ 4 (by decide)) (hJ 5 (by decide)) (hJ 6 (by decide)), kA1, kU1, kA2, kU2⟩)
        ·
          refine lv_iconst (v := iv (1)) hx hb rd_M_orderOf_37 (by decide) ?_
          refine lv_goto (tgt := 42) hx hb rd_M_orderOf_38 (by decide) ?_
          exact ef_iret hx hb hr hlocks hP hD hS rd_M_orderOf_42 (by unfold ccmp; rw [if_neg (by omega), if_pos (by omega)]; exact ⟨fun i => [((V 0)), ((V 1)), ((V 2)), ((V 3)), ((V 4)), ((V 5)), ((V 6))].getD i 0, fun i => [((J 0)), ((J 1)), ((J 2)), ((J 3)), ((J 4)), ((J 5)), ((J 6)), ((J 7)), ((J 8)), ((J 9)), ((J 10))].getD i (fun _ => 0), _, _, _, _, rfl, rfl, rfl, rfl, rfl, rfl, rJ_of (hJ 0 (by decide)) (hJ 1 (by decide)) (hJ 2 (by decide)) (hJ 3 (by decide)) (hJ 4 (by decide)) (hJ 5 (by decide)) (hJ 6 (by decide)), kA1, kU1, kA2, kU2⟩)
      ·
        refine lv_iconst (v := iv (-1)) hx hb rd_M_orderOf_27 (by decide) ?_
        refine lv_goto (tgt := 42) hx hb rd_M_orderOf_28 (by decide) ?_
        exact ef_iret hx hb hr hlocks hP hD hS rd_M_orderOf_42 (by unfold ccmp; rw [if_pos (by omega)]; exact ⟨fun i => [((V 0)), ((V 1)), ((V 2)), ((V 3)), ((V 4)), ((V 5)), ((V 6))].getD i 0, fun i => [((J 0)), ((J 1)), ((J 2)), ((J 3)), ((J 4)), ((J 5)), ((J 6)), ((J 7)), ((J 8)), ((J 9)), ((J 10))].getD i (fun _ => 0), _, _, _, _, rfl, rfl, rfl, rfl, rfl, rfl, rJ_of (hJ 0 (by decide)) (hJ 1 (by decide)) (hJ 2 (by decide)) (hJ 3 (by decide)) (hJ 4 (by decide)) (hJ 5 (by decide)) (hJ 6 (by decide)), kA1, kU1, kA2, kU2⟩)

set_option maxRecDepth 100000 in
set_option maxHeartbeats 4000000 in
/-- compare -/
theorem r_compare (l : Launch) (dC : Nat → ClassId) (dI : Nat → Nat → Nat) {cI : ClassId} {tys : List (ClassId × FieldType)} (ht : tys[0]? = some (cI, .int)) (r : Nat → Nat) {V : Nat → Nat} {J : Nat → Nat → Nat} {A1 U1 A2 U2 : Nat} {pb pe ob oe b1 e1 b2 e2 : Int} (hJ : rJ V J) (kA1 : bk A1 (J 7)) (kU1 : bk U1 (J 8)) (kA2 : bk A2 (J 9)) (kU2 : bk U2 (J 10)) (mA1 : dn A1 ≤ 300) (mU1 : dn U1 ≤ 300) (mA2 : dn A2 ≤ 300) (mU2 : dn U2 ≤ 300) (nQa : U1 ≠ 0) (nQb : U2 ≠ 0) (bPa : bl A1 ≤ 4800) (bQa : bl U1 ≤ 4800) (bPb : bl A2 ≤ 4800) (bQb : bl U2 ≤ 4800) (lea : -12000 ≤ e1) (gea : e1 ≤ 12000) (leb : -12000 ≤ e2) (geb : e2 ≤ 12000) (hba : b1 = 0 ∨ b1 = 1) (hbb : b2 = 0 ∨ b2 = 1) : ef_C l ry_M_compare rw_M_compare ({ frames := 4, cells := 0, slots := 0, locals := 99 } : Room) [.ref (r 0)] (dC, dI) vwCl tys (rC cI r ((V 0)) ((V 1)) ((V 2)) ((V 3)) ((V 4)) ((V 5)) ((V 6)) (A1) (U1) (A2) (U2) ((J 0)) ((J 1)) ((J 2)) ((J 3)) ((J 4)) ((J 5)) ((J 6)) ((J 7)) ((J 8)) ((J 9)) ((J 10)) (pb) (pe) (ob) (oe) (b1) (e1) (b2) (e2)) (fun o w1 => ∃ (V2 : Nat → Nat) (J2 : Nat → Nat → Nat) (pb2 pe2 ob2 oe2 : Int), o = some (.int (iv (ccmp A1 U1 b1 e1 A2 U2 b2 e2))) ∧ w1 = rC cI r (V2 0) (V2 1) (V2 2) (V2 3) (V2 4) (V2 5) (V2 6) (A1) (U1) (A2) (U2) (J2 0) (J2 1) (J2 2) (J2 3) (J2 4) (J2 5) (J2 6) (J2 7) (J2 8) (J2 9) (J2 10) (pb2) (pe2) (ob2) (oe2) (b1) (e1) (b2) (e2) ∧ rJ V2 J2 ∧ bk (A1) (J2 7) ∧ bk (U1) (J2 8) ∧ bk (A2) (J2 9) ∧ bk (U2) (J2 10)) := by
  refine ef_C.of (cc := rc_M_compare) (maxL := 1) (ret := (some .int)) (by decide) rfl (Nat.le_of_ble_eq_true rfl) ?_
  intro p e s m below meth c ls hx hb hml hr hts hown hlocks hK hNX hP hD hS hl
  have hl : lv_has ls 1 [(0, .ref (r 0))] := hl
  have hown : s.vm.findClass rR5 = some m.cls := hown
  generalize hH : s.heap = H at hP ⊢
  have hS : va_S (ef_A (rC cI r ((V 0)) ((V 1)) ((V 2)) ((V 3)) ((V 4)) ((V 5)) ((V 6)) (A1) (U1) (A2) (U2) ((J 0)) ((J 1)) ((J 2)) ((J 3)) ((J 4)) ((J 5)) ((J 6)) ((J 7)) ((J 8)) ((J 9)) ((J 10)) (pb) (pe) (ob) (oe) (b1) (e1) (b2) (e2))) s.heap H [] := by rw [← hH]; exact hS
  generalize ([] : List Loc) = locs at hS ⊢
  refine lv_aload_n hx hb rd_M_compare_0 rfl (lv_at hl 0 rfl) ?_
  refine lv_aload_n hx hb rd_M_compare_1 rfl (lv_at hl 0 rfl) ?_
  refine va_get (D := (dC, dI)) (ci := 5) (v := .ref (r 3)) (C := rR5) (T := rT5) (N := 7) hx hb hts (fun w h => List.mem_cons_of_mem _ (rin5 w h)) hown hK hP 0 rfl rfl 4 (by decide) (hts _ (List.mem_cons_of_mem _ rm_314)) (fun _ h9 => h9) rfl rd_M_compare_2 ?_
  refine lv_aload_n hx hb rd_M_compare_5 rfl (lv_at hl 0 rfl) ?_
  refine va_get (D := (dC, dI)) (ci := 5) (v := .ref (r 4)) (C := rR5) (T := rT5) (N := 7) hx hb hts (fun w h => List.mem_cons_of_mem _ (rin5 w h)) hown hK hP 0 rfl rfl 5 (by decide) (hts _ (List.mem_cons_of_mem _ rm_315)) (fun _ h9 => h9) rfl rd_M_compare_6 ?_
  refine ef_callV (As := [.ref (r 3), .ref (r 4)]) (rest := []) ⟨hx, hb, hml, hown, hts⟩ (r_order01 l dC dI ht r hJ kA1 kU1 kA2 kU2 mA1 mU1 mA2 mU2 nQa nQb bPa bQa bPb bQb lea gea leb geb hba hbb) (cwV 2 hts (ef_goodV rm_410 rm_412 rm_15 rm_24 rm_413) rfl rfl rfl (by decide +kernel) ⟨Nat.le_of_ble_eq_true rfl, Nat.le_of_ble_eq_true rfl⟩) hK hNX hP hD hS 0 rfl rfl rfl rfl hl.1 rfl (Nat.le_of_ble_eq_true rfl) rd_M_compare_9 ⟨Nat.zero_le _, Nat.zero_le _⟩ (fun o w1 H locs hq hP hD hS => ?_)
  obtain ⟨Vv_1, Jv_1, pbv_1, pev_1, obv_1, oev_1, hv5, hv6, hob, hoe, rfl, rfl, hJv_1, kA1v_1, kU1v_1, kA2v_1, kU2v_1⟩ := hq
  have hP : va_P (dC, dI) vwCl (rC cI r ((Vv_1 0)) ((Vv_1 1)) ((Vv_1 2)) ((Vv_1 3)) ((Vv_1 4)) ((Vv_1 5)) ((Vv_1 6)) (A1) (U1) (A2) (U2) ((Jv_1 0)) ((Jv_1 1)) ((Jv_1 2)) ((Jv_1 3)) ((Jv_1 4)) ((Jv_1 5)) ((Jv_1 6)) ((Jv_1 7)) ((Jv_1 8)) ((Jv_1 9)) ((Jv_1 10)) (pbv_1) (pev_1) (obv_1) (oev_1) (b1) (e1) (b2) (e2)) H := hP
  have hD : va_D (ef_A (rC cI r ((V 0)) ((V 1)) ((V 2)) ((V 3)) ((V 4)) ((V 5)) ((V 6)) (A1) (U1) (A2) (U2) ((J 0)) ((J 1)) ((J 2)) ((J 3)) ((J 4)) ((J 5)) ((J 6)) ((J 7)) ((J 8)) ((J 9)) ((J 10)) (pb) (pe) (ob) (oe) (b1) (e1) (b2) (e2))) (rC cI r ((Vv_1 0)) ((Vv_1 1)) ((Vv_1 2)) ((Vv_1 3)) ((Vv_1 4)) ((Vv_1 5)) ((Vv_1 6)) (A1) (U1) (A2) (U2) ((Jv_1 0)) ((Jv_1 1)) ((Jv_1 2)) ((Jv_1 3)) ((Jv_1 4)) ((Jv_1 5)) ((Jv_1 6)) ((Jv_1 7)) ((Jv_1 8)) ((Jv_1 9)) ((Jv_1 10)) (pbv_1) (pev_1) (obv_1) (oev_1) (b1) (e1) (b2) (e2)) := hD
  refine W.eq (g2 := F0 m 12 ls [.int (iv (ccmp A1 U1 b1 e1 A2 U2 b2 e2))]) rfl ?_
  exact ef_iret hx hb hr hlocks hP hD hS rd_M_compare_12 (⟨fun i => [((Vv_1 0)), ((Vv_1 1)), ((Vv_1 2)), ((Vv_1 3)), ((Vv_1 4)), ((Vv_1 5)), ((Vv_1 6))].getD i 0, fun i => [((Jv_1 0)), ((Jv_1 1)), ((Jv_1 2)), ((Jv_1 3)), ((Jv_1 4)), ((Jv_1 5)), ((Jv_1 6)), ((Jv_1 7)), ((Jv_1 8)), ((Jv_1 9)), ((Jv_1 10))].getD i (fun _ => 0), _, _, _, _, rfl, rfl, rJ_of (hJv_1 0 (by decide)) (hJv_1 1 (by decide)) (hJv_1 2 (by decide)) (hJv_1 3 (by decide)) (hJv_1 4 (by decide)) (hJv_1 5 (by decide)) (hJv_1 6 (by decide)), kA1v_1, kU1v_1, kA2v_1, kU2v_1⟩)
