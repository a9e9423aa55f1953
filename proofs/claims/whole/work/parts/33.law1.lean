set_option maxRecDepth 100000 in
set_option maxHeartbeats 4000000 in
/-- begin in the law -/
theorem lc_begin {p : Program} {l : Launch} {e : Env} {s : State} {m : MethodId} {b : Nat} {below : List Frame} {meth : Method} {c : Code} {dC : Nat → ClassId} {dI : Nat → Nat → Nat} {cI : ClassId} {L0 : Nat} {xs : Nat → Int32} (C0 : lw_At p s m meth c b L0 xs) (hK : va_K (dC, dI) vwCl [(cI, .int)] s) (hNX : ef_X s) (hL0 : L0 ≤ 2560) {i : Nat} (hi : i + 5 ≤ L0) (next : lw_G p l e s m b below meth c dC dI cI 507 i) : lw_G p l e s m b below meth c dC dI cI 88 i := by
  obtain ⟨hx, hb, hr, hml, hown, hts, hX, hbl, hlocks, hgv⟩ := id C0
  have hbA : ¬ lwA s b := Nat.not_le.mpr hbl
  intro q r A1 U1 b1 e1 A2 U2 b2 e2 L R V J pb pe ob oe H locs ls W1 W2 hL hR hJ k7 k8 k9 k10 hP hD hS hl
  obtain ⟨v, A1n, U1n, b1n, e1n, A2n, U2n, b2n, e2n, ⟨a, rfl⟩, Y1, Y2, hc, hd⟩ := lp_begin l dC dI cI q r W1 W2 ((xs (i + 1)).toInt) (ir_of _)
  refine lv_aload_n hx hb dL_law_88 rfl (lv_at hl 1 rfl) ?_
  refine lv_aload_n hx hb dL_law_89 rfl (lv_at hl 0 rfl) ?_
  refine lv_iload_n hx hb dL_law_90 rfl (lv_at hl 3 rfl) ?_
  refine lv_iconst (v := iv (1)) hx hb dL_law_91 (by decide) ?_
  refine iw_iadd hx hb dL_law_92 ?_
  refine lw_sld hx hb hX hbl hbA hS (i + 1) (by omega) (by omega) hL0 dL_law_93 ?_
  refine ef_callV (As := [.int (iv ((xs (i + 1)).toInt))]) (rest := []) ⟨hx, hb, hml, hown, hts⟩ ((hc L R hL hR).fr (lwRW cI r V J pb pe ob oe A1 U1 b1 e1 A2 U2 b2 e2)) (cwV 1 hts gL_begin rfl rfl rfl (by decide +kernel) ⟨Nat.le_of_ble_eq_true rfl, Nat.le_of_ble_eq_true rfl⟩) hK hNX hP hD hS 0 rfl rfl rfl rfl hl.1 rfl (Nat.le_of_ble_eq_true rfl) dL_law_94 ⟨Nat.le_of_ble_eq_true rfl, Nat.le_of_ble_eq_true rfl⟩ (fun o w1 H locs hq hP hD hS => ?_)
  obtain ⟨w2, ⟨q2, L2, R2, rfl, hq2, rfl, hL2, hR2⟩, rfl⟩ := hq
  refine W.eq (g2 := F0 m 97 ls [.int (a)]) rfl ?_
  rw [← hq2] at hl
  refine lv_aload_n hx hb dL_law_97 rfl (lv_at hl 2 rfl) ?_
  refine lv_aload_n hx hb dL_law_98 rfl (lv_at hl 0 rfl) ?_
  refine lv_iload_n hx hb dL_law_99 rfl (lv_at hl 3 rfl) ?_
  refine lv_iconst (v := iv (1)) hx hb dL_law_100 (by decide) ?_
  refine iw_iadd hx hb dL_law_101 ?_
  refine lw_sld hx hb hX hbl hbA hS (i + 1) (by omega) (by omega) hL0 dL_law_102 ?_
  refine ef_callV (As := [.int (iv ((xs (i + 1)).toInt))]) (rest := [.int (a)]) ⟨hx, hb, hml, hown, hts⟩ ((hd V J pb pe ob oe hJ k7 k8 k9 k10).fl (lwCW cI q2 A1n U1n b1n e1n A2n U2n b2n e2n L2 R2)) (cwV 1 hts rgL_begin rfl rfl rfl (by decide +kernel) ⟨Nat.le_of_ble_eq_true rfl, Nat.le_of_ble_eq_true rfl⟩) hK hNX hP hD hS 15 rfl rfl rfl rfl hl.1 rfl (Nat.le_of_ble_eq_true rfl) dL_law_103 ⟨Nat.le_of_ble_eq_true rfl, Nat.le_of_ble_eq_true rfl⟩ (fun o w1 H locs hq hP hD hS => ?_)
  obtain ⟨w2, ⟨V2, J2, pb2, pe2, ob2, oe2, rfl, rfl, hJ2, j7, j8, j9, j10⟩, rfl⟩ := hq
  refine W.eq (g2 := F0 m 106 ls [.int (a), .int (a)]) rfl ?_
  refine lv_icmp_eq (tgt := 507) hx hb dL_law_106 (by decide) (fun _ => ?_) (fun h => absurd rfl h)
  exact next q2 r A1n U1n b1n e1n A2n U2n b2n e2n L2 R2 V2 J2 pb2 pe2 ob2 oe2 H locs ls Y1 Y2 hL2 hR2 hJ2 j7 j8 j9 j10 hP hD hS hl

set_option maxRecDepth 100000 in
set_option maxHeartbeats 4000000 in
/-- digit in the law -/
theorem lc_digit {p : Program} {l : Launch} {e : Env} {s : State} {m : MethodId} {b : Nat} {below : List Frame} {meth : Method} {c : Code} {dC : Nat → ClassId} {dI : Nat → Nat → Nat} {cI : ClassId} {L0 : Nat} {xs : Nat → Int32} (C0 : lw_At p s m meth c b L0 xs) (hK : va_K (dC, dI) vwCl [(cI, .int)] s) (hNX : ef_X s) (hL0 : L0 ≤ 2560) {i : Nat} (hi : i + 5 ≤ L0) (next : lw_G p l e s m b below meth c dC dI cI 507 i) : lw_G p l e s m b below meth c dC dI cI 111 i := by
  obtain ⟨hx, hb, hr, hml, hown, hts, hX, hbl, hlocks, hgv⟩ := id C0
  have hbA : ¬ lwA s b := Nat.not_le.mpr hbl
  intro q r A1 U1 b1 e1 A2 U2 b2 e2 L R V J pb pe ob oe H locs ls W1 W2 hL hR hJ k7 k8 k9 k10 hP hD hS hl
  obtain ⟨v, A1n, U1n, b1n, e1n, A2n, U2n, b2n, e2n, ⟨a, rfl⟩, Y1, Y2, hc, hd⟩ := lp_digit l dC dI cI q r W1 W2 ((xs (i + 1)).toInt) ((xs (i + 2)).toInt) ((xs (i + 3)).toInt) ((xs (i + 4)).toInt) (ir_of _) (ir_of _) (ir_of _) (ir_of _)
  refine lv_aload_n hx hb dL_law_111 rfl (lv_at hl 1 rfl) ?_
  refine lv_aload_n hx hb dL_law_112 rfl (lv_at hl 0 rfl) ?_
  refine lv_iload_n hx hb dL_law_113 rfl (lv_at hl 3 rfl) ?_
  refine lv_iconst (v := iv (1)) hx hb dL_law_114 (by decide) ?_
  refine iw_iadd hx hb dL_law_115 ?_
  refine lw_sld hx hb hX hbl hbA hS (i + 1) (by omega) (by omega) hL0 dL_law_116 ?_
  refine lv_aload_n hx hb dL_law_117 rfl (lv_at hl 0 rfl) ?_
  refine lv_iload_n hx hb dL_law_118 rfl (lv_at hl 3 rfl) ?_
  refine lv_iconst (v := iv (2)) hx hb dL_law_119 (by decide) ?_
  refine iw_iadd hx hb dL_law_120 ?_
  refine lw_sld hx hb hX hbl hbA hS (i + 2) (by omega) (by omega) hL0 dL_law_121 ?_
  refine lv_aload_n hx hb dL_law_122 rfl (lv_at hl 0 rfl) ?_
  refine lv_iload_n hx hb dL_law_123 rfl (lv_at hl 3 rfl) ?_
  refine lv_iconst (v := iv (3)) hx hb dL_law_124 (by decide) ?_
  refine iw_iadd hx hb dL_law_125 ?_
  refine lw_sld hx hb hX hbl hbA hS (i + 3) (by omega) (by omega) hL0 dL_law_126 ?_
  refine lv_aload_n hx hb dL_law_127 rfl (lv_at hl 0 rfl) ?_
  refine lv_iload_n hx hb dL_law_128 rfl (lv_at hl 3 rfl) ?_
  refine lv_iconst (v := iv (4)) hx hb dL_law_129 (by decide) ?_
  refine iw_iadd hx hb dL_law_130 ?_
  refine lw_sld hx hb hX hbl hbA hS (i + 4) (by omega) (by omega) hL0 dL_law_131 ?_
  refine ef_callV (As := [.int (iv ((xs (i + 1)).toInt)), .int (iv ((xs (i + 2)).toInt)), .int (iv ((xs (i + 3)).toInt)), .int (iv ((xs (i + 4)).toInt))]) (rest := []) ⟨hx, hb, hml, hown, hts⟩ ((hc L R hL hR).fr (lwRW cI r V J pb pe ob oe A1 U1 b1 e1 A2 U2 b2 e2)) (cwV 4 hts gL_digit rfl rfl rfl (by decide +kernel) ⟨Nat.le_of_ble_eq_true rfl, Nat.le_of_ble_eq_true rfl⟩) hK hNX hP hD hS 0 rfl rfl rfl rfl hl.1 rfl (Nat.le_of_ble_eq_true rfl) dL_law_132 ⟨Nat.le_of_ble_eq_true rfl, Nat.le_of_ble_eq_true rfl⟩ (fun o w1 H locs hq hP hD hS => ?_)
  obtain ⟨w2, ⟨q2, L2, R2, rfl, hq2, rfl, hL2, hR2⟩, rfl⟩ := hq
  refine W.eq (g2 := F0 m 135 ls [.int (a)]) rfl ?_
  rw [← hq2] at hl
  refine lv_aload_n hx hb dL_law_135 rfl (lv_at hl 2 rfl) ?_
  refine lv_aload_n hx hb dL_law_136 rfl (lv_at hl 0 rfl) ?_
  refine lv_iload_n hx hb dL_law_137 rfl (lv_at hl 3 rfl) ?_
  refine lv_iconst (v := iv (1)) hx hb dL_law_138 (by decide) ?_
  refine iw_iadd hx hb dL_law_139 ?_
  refine lw_sld hx hb hX hbl hbA hS (i + 1) (by omega) (by omega) hL0 dL_law_140 ?_
  refine lv_aload_n hx hb dL_law_141 rfl (lv_at hl 0 rfl) ?_
  refine lv_iload_n hx hb dL_law_142 rfl (lv_at hl 3 rfl) ?_
  refine lv_iconst (v := iv (2)) hx hb dL_law_143 (by decide) ?_
  refine iw_iadd hx hb dL_law_144 ?_
  refine lw_sld hx hb hX hbl hbA hS (i + 2) (by omega) (by omega) hL0 dL_law_145 ?_
  refine lv_aload_n hx hb dL_law_146 rfl (lv_at hl 0 rfl) ?_
  refine lv_iload_n hx hb dL_law_147 rfl (lv_at hl 3 rfl) ?_
  refine lv_iconst (v := iv (3)) hx hb dL_law_148 (by decide) ?_
  refine iw_iadd hx hb dL_law_149 ?_
  refine lw_sld hx hb hX hbl hbA hS (i + 3) (by omega) (by omega) hL0 dL_law_150 ?_
  refine lv_aload_n hx hb dL_law_151 rfl (lv_at hl 0 rfl) ?_
  refine lv_iload_n hx hb dL_law_152 rfl (lv_at hl 3 rfl) ?_
  refine lv_iconst (v := iv (4)) hx hb dL_law_153 (by decide) ?_
  refine iw_iadd hx hb dL_law_154 ?_
  refine lw_sld hx hb hX hbl hbA hS (i + 4) (by omega) (by omega) hL0 dL_law_155 ?_
  refine ef_callV (As := [.int (iv ((xs (i + 1)).toInt)), .int (iv ((xs (i + 2)).toInt)), .int (iv ((xs (i + 3)).toInt)), .int (iv ((xs (i + 4)).toInt))]) (rest := [.int (a)]) ⟨hx, hb, hml, hown, hts⟩ ((hd V J pb pe ob oe hJ k7 k8 k9 k10).fl (lwCW cI q2 A1n U1n b1n e1n A2n U2n b2n e2n L2 R2)) (cwV 4 hts rgL_digit rfl rfl rfl (by decide +kernel) ⟨Nat.le_of_ble_eq_true rfl, Nat.le_of_ble_eq_true rfl⟩) hK hNX hP hD hS 15 rfl rfl rfl rfl hl.1 rfl (Nat.le_of_ble_eq_true rfl) dL_law_156 ⟨Nat.le_of_ble_eq_true rfl, Nat.le_of_ble_eq_true rfl⟩ (fun o w1 H locs hq hP hD hS => ?_)
  obtain ⟨w2, ⟨V2, J2, pb2, pe2, ob2, oe2, rfl, rfl, hJ2, j7, j8, j9, j10⟩, rfl⟩ := hq
  refine W.eq (g2 := F0 m 159 ls [.int (a), .int (a)]) rfl ?_
  refine lv_icmp_eq (tgt := 507) hx hb dL_law_159 (by decide) (fun _ => ?_) (fun h => absurd rfl h)
  exact next q2 r A1n U1n b1n e1n A2n U2n b2n e2n L2 R2 V2 J2 pb2 pe2 ob2 oe2 H locs ls Y1 Y2 hL2 hR2 hJ2 j7 j8 j9 j10 hP hD hS hl

set_option maxRecDepth 100000 in
set_option maxHeartbeats 4000000 in
/-- set in the law -/
theorem lc_set {p : Program} {l : Launch} {e : Env} {s : State} {m : MethodId} {b : Nat} {below : List Frame} {meth : Method} {c : Code} {dC : Nat → ClassId} {dI : Nat → Nat → Nat} {cI : ClassId} {L0 : Nat} {xs : Nat → Int32} (C0 : lw_At p s m meth c b L0 xs) (hK : va_K (dC, dI) vwCl [(cI, .int)] s) (hNX : ef_X s) (hL0 : L0 ≤ 2560) {i : Nat} (hi : i + 5 ≤ L0) (next : lw_G p l e s m b below meth c dC dI cI 507 i) : lw_G p l e s m b below meth c dC dI cI 164 i := by
  obtain ⟨hx, hb, hr, hml, hown, hts, hX, hbl, hlocks, hgv⟩ := id C0
  have hbA : ¬ lwA s b := Nat.not_le.mpr hbl
  intro q r A1 U1 b1 e1 A2 U2 b2 e2 L R V J pb pe ob oe H locs ls W1 W2 hL hR hJ k7 k8 k9 k10 hP hD hS hl
  obtain ⟨v0, hv0, ev0⟩ := jv_un (jv (((xs (i + 3)).toInt)) <<< ((iv (32)).toInt64 &&& 63) ||| jv ((((xs (i + 4)).toInt)) % 4294967296))
  obtain ⟨v, A1n, U1n, b1n, e1n, A2n, U2n, b2n, e2n, ⟨a, rfl⟩, Y1, Y2, hc, hd⟩ := lp_set l dC dI cI q r W1 W2 ((xs (i + 1)).toInt) ((xs (i + 2)).toInt) v0 (ir_of _) (ir_of _) hv0
  refine lv_aload_n hx hb dL_law_164 rfl (lv_at hl 1 rfl) ?_
  refine lv_aload_n hx hb dL_law_165 rfl (lv_at hl 0 rfl) ?_
  refine lv_iload_n hx hb dL_law_166 rfl (lv_at hl 3 rfl) ?_
  refine lv_iconst (v := iv (1)) hx hb dL_law_167 (by decide) ?_
  refine iw_iadd hx hb dL_law_168 ?_
  refine lw_sld hx hb hX hbl hbA hS (i + 1) (by omega) (by omega) hL0 dL_law_169 ?_
  refine lv_aload_n hx hb dL_law_170 rfl (lv_at hl 0 rfl) ?_
  refine lv_iload_n hx hb dL_law_171 rfl (lv_at hl 3 rfl) ?_
  refine lv_iconst (v := iv (2)) hx hb dL_law_172 (by decide) ?_
  refine iw_iadd hx hb dL_law_173 ?_
  refine lw_sld hx hb hX hbl hbA hS (i + 2) (by omega) (by omega) hL0 dL_law_174 ?_
  refine lv_aload_n hx hb dL_law_175 rfl (lv_at hl 0 rfl) ?_
  refine lv_iload_n hx hb dL_law_176 rfl (lv_at hl 3 rfl) ?_
  refine lv_iconst (v := iv (3)) hx hb dL_law_177 (by decide) ?_
  refine iw_iadd hx hb dL_law_178 ?_
  refine lw_sld hx hb hX hbl hbA hS (i + 3) (by omega) (by omega) hL0 dL_law_179 ?_
  refine iw_i2l hx hb (ir_of _) dL_law_180 ?_
  refine lv_bipush (v := iv (32)) hx hb dL_law_181 (by decide) ?_
  refine lv_lshl hx hb dL_law_183 rfl ?_
  refine lv_aload_n hx hb dL_law_184 rfl (lv_at hl 0 rfl) ?_
  refine lv_iload_n hx hb dL_law_185 rfl (lv_at hl 3 rfl) ?_
  refine lv_iconst (v := iv (4)) hx hb dL_law_186 (by decide) ?_
  refine iw_iadd hx hb dL_law_187 ?_
  refine lw_sld hx hb hX hbl hbA hS (i + 4) (by omega) (by omega) hL0 dL_law_188 ?_
  refine iw_i2l hx hb (ir_of _) dL_law_189 ?_
  refine lv_ldc2 (v := 4294967295) hx hb hown (hts (.constantLong R_law 23 (4294967295)) (by decide +kernel)) dL_law_190 ?_
  refine iw_land hx hb dL_law_193 ?_
  refine lv_lor hx hb dL_law_194 ?_
  refine iw_topl (y := jv (v0 : Int)) ev0 ?_
  refine ef_callV (As := [.int (iv ((xs (i + 1)).toInt)), .int (iv ((xs (i + 2)).toInt)), .long (jv ((v0 : Int)))]) (rest := []) ⟨hx, hb, hml, hown, hts⟩ ((hc L R hL hR).fr (lwRW cI r V J pb pe ob oe A1 U1 b1 e1 A2 U2 b2 e2)) (cwV 3 hts gL_set rfl rfl rfl (by decide +kernel) ⟨Nat.le_of_ble_eq_true rfl, Nat.le_of_ble_eq_true rfl⟩) hK hNX hP hD hS 0 rfl rfl rfl rfl hl.1 rfl (Nat.le_of_ble_eq_true rfl) dL_law_195 ⟨Nat.le_of_ble_eq_true rfl, Nat.le_of_ble_eq_true rfl⟩ (fun o w1 H locs hq hP hD hS => ?_)
  obtain ⟨w2, ⟨q2, L2, R2, rfl, hq2, rfl, hL2, hR2⟩, rfl⟩ := hq
  refine W.eq (g2 := F0 m 198 ls [.int (a)]) rfl ?_
  rw [← hq2] at hl
  refine lv_aload_n hx hb dL_law_198 rfl (lv_at hl 2 rfl) ?_
  refine lv_aload_n hx hb dL_law_199 rfl (lv_at hl 0 rfl) ?_
  refine lv_iload_n hx hb dL_law_200 rfl (lv_at hl 3 rfl) ?_
  refine lv_iconst (v := iv (1)) hx hb dL_law_201 (by decide) ?_
  refine iw_iadd hx hb dL_law_202 ?_
  refine lw_sld hx hb hX hbl hbA hS (i + 1) (by omega) (by omega) hL0 dL_law_203 ?_
  refine lv_aload_n hx hb dL_law_204 rfl (lv_at hl 0 rfl) ?_
  refine lv_iload_n hx hb dL_law_205 rfl (lv_at hl 3 rfl) ?_
  refine lv_iconst (v := iv (2)) hx hb dL_law_206 (by decide) ?_
  refine iw_iadd hx hb dL_law_207 ?_
  refine lw_sld hx hb hX hbl hbA hS (i + 2) (by omega) (by omega) hL0 dL_law_208 ?_
  refine lv_aload_n hx hb dL_law_209 rfl (lv_at hl 0 rfl) ?_
  refine lv_iload_n hx hb dL_law_210 rfl (lv_at hl 3 rfl) ?_
  refine lv_iconst (v := iv (3)) hx hb dL_law_211 (by decide) ?_
  refine iw_iadd hx hb dL_law_212 ?_
  refine lw_sld hx hb hX hbl hbA hS (i + 3) (by omega) (by omega) hL0 dL_law_213 ?_
  refine iw_i2l hx hb (ir_of _) dL_law_214 ?_
  refine lv_bipush (v := iv (32)) hx hb dL_law_215 (by decide) ?_
  refine lv_lshl hx hb dL_law_217 rfl ?_
  refine lv_aload_n hx hb dL_law_218 rfl (lv_at hl 0 rfl) ?_
  refine lv_iload_n hx hb dL_law_219 rfl (lv_at hl 3 rfl) ?_
  refine lv_iconst (v := iv (4)) hx hb dL_law_220 (by decide) ?_
  refine iw_iadd hx hb dL_law_221 ?_
  refine lw_sld hx hb hX hbl hbA hS (i + 4) (by omega) (by omega) hL0 dL_law_222 ?_
  refine iw_i2l hx hb (ir_of _) dL_law_223 ?_
  refine lv_ldc2 (v := 4294967295) hx hb hown (hts (.constantLong R_law 23 (4294967295)) (by decide +kernel)) dL_law_224 ?_
  refine iw_land hx hb dL_law_227 ?_
  refine lv_lor hx hb dL_law_228 ?_
  refine iw_topl (y := jv (v0 : Int)) ev0 ?_
  refine ef_callV (As := [.int (iv ((xs (i + 1)).toInt)), .int (iv ((xs (i + 2)).toInt)), .long (jv ((v0 : Int)))]) (rest := [.int (a)]) ⟨hx, hb, hml, hown, hts⟩ ((hd V J pb pe ob oe hJ k7 k8 k9 k10).fl (lwCW cI q2 A1n U1n b1n e1n A2n U2n b2n e2n L2 R2)) (cwV 3 hts rgL_set rfl rfl rfl (by decide +kernel) ⟨Nat.le_of_ble_eq_true rfl, Nat.le_of_ble_eq_true rfl⟩) hK hNX hP hD hS 15 rfl rfl rfl rfl hl.1 rfl (Nat.le_of_ble_eq_true rfl) dL_law_229 ⟨Nat.le_of_ble_eq_true rfl, Nat.le_of_ble_eq_true rfl⟩ (fun o w1 H locs hq hP hD hS => ?_)
  obtain ⟨w2, ⟨V2, J2, pb2, pe2, ob2, oe2, rfl, rfl, hJ2, j7, j8, j9, j10⟩, rfl⟩ := hq
  refine W.eq (g2 := F0 m 232 ls [.int (a), .int (a)]) rfl ?_
  refine lv_icmp_eq (tgt := 507) hx hb dL_law_232 (by decide) (fun _ => ?_) (fun h => absurd rfl h)
  exact next q2 r A1n U1n b1n e1n A2n U2n b2n e2n L2 R2 V2 J2 pb2 pe2 ob2 oe2 H locs ls Y1 Y2 hL2 hR2 hJ2 j7 j8 j9 j10 hP hD hS hl

set_option maxRecDepth 100000 in
set_option maxHeartbeats 4000000 in
/-- scale in the law -/
theorem lc_scale {p : Program} {l : Launch} {e : Env} {s : State} {m : MethodId} {b : Nat} {below : List Frame} {meth : Method} {c : Code} {dC : Nat → ClassId} {dI : Nat → Nat → Nat} {cI : ClassId} {L0 : Nat} {xs : Nat → Int32} (C0 : lw_At p s m meth c b L0 xs) (hK : va_K (dC, dI) vwCl [(cI, .int)] s) (hNX : ef_X s) (hL0 : L0 ≤ 2560) {i : Nat} (hi : i + 5 ≤ L0) (next : lw_G p l e s m b below meth c dC dI cI 507 i) : lw_G p l e s m b below meth c dC dI cI 237 i := by
  obtain ⟨hx, hb, hr, hml, hown, hts, hX, hbl, hlocks, hgv⟩ := id C0
  have hbA : ¬ lwA s b := Nat.not_le.mpr hbl
  intro q r A1 U1 b1 e1 A2 U2 b2 e2 L R V J pb pe ob oe H locs ls W1 W2 hL hR hJ k7 k8 k9 k10 hP hD hS hl
  obtain ⟨v, A1n, U1n, b1n, e1n, A2n, U2n, b2n, e2n, ⟨a, rfl⟩, Y1, Y2, hc, hd⟩ := lp_scale l dC dI cI q r W1 W2 ((xs (i + 1)).toInt) (if (xs (i + 2)).toInt = 0 then 0 else 1) ((xs (i + 3)).toInt) (ir_of _) (flag2 _) (ir_of _)
  refine lv_aload_n hx hb dL_law_237 rfl (lv_at hl 1 rfl) ?_
  refine lv_aload_n hx hb dL_law_238 rfl (lv_at hl 0 rfl) ?_
  refine lv_iload_n hx hb dL_law_239 rfl (lv_at hl 3 rfl) ?_
  refine lv_iconst (v := iv (1)) hx hb dL_law_240 (by decide) ?_
  refine iw_iadd hx hb dL_law_241 ?_
  refine lw_sld hx hb hX hbl hbA hS (i + 1) (by omega) (by omega) hL0 dL_law_242 ?_
  refine lv_aload_n hx hb dL_law_243 rfl (lv_at hl 0 rfl) ?_
  refine lv_iload_n hx hb dL_law_244 rfl (lv_at hl 3 rfl) ?_
  refine lv_iconst (v := iv (2)) hx hb dL_law_245 (by decide) ?_
  refine iw_iadd hx hb dL_law_246 ?_
  refine lw_sld hx hb hX hbl hbA hS (i + 2) (by omega) (by omega) hL0 dL_law_247 ?_
  refine lw_nz hx hb (ir_of _) dL_law_248 dL_law_251 dL_law_252 dL_law_255 ?_
  refine W.eq (g2 := F0 m 256 ls [.int (iv (if (xs (i + 2)).toInt = 0 then 0 else 1)), .int (iv ((xs (i + 1)).toInt)), .ref (q 0)]) rfl ?_
  refine lv_aload_n hx hb dL_law_256 rfl (lv_at hl 0 rfl) ?_
  refine lv_iload_n hx hb dL_law_257 rfl (lv_at hl 3 rfl) ?_
  refine lv_iconst (v := iv (3)) hx hb dL_law_258 (by decide) ?_
  refine iw_iadd hx hb dL_law_259 ?_
  refine lw_sld hx hb hX hbl hbA hS (i + 3) (by omega) (by omega) hL0 dL_law_260 ?_
  refine ef_callV (As := [.int (iv ((xs (i + 1)).toInt)), .int (iv (if (xs (i + 2)).toInt = 0 then 0 else 1)), .int (iv ((xs (i + 3)).toInt))]) (rest := []) ⟨hx, hb, hml, hown, hts⟩ ((hc L R hL hR).fr (lwRW cI r V J pb pe ob oe A1 U1 b1 e1 A2 U2 b2 e2)) (cwV 3 hts gL_scale rfl rfl rfl (by decide +kernel) ⟨Nat.le_of_ble_eq_true rfl, Nat.le_of_ble_eq_true rfl⟩) hK hNX hP hD hS 0 rfl rfl rfl rfl hl.1 rfl (Nat.le_of_ble_eq_true rfl) dL_law_261 ⟨Nat.le_of_ble_eq_true rfl, Nat.le_of_ble_eq_true rfl⟩ (fun o w1 H locs hq hP hD hS => ?_)
  obtain ⟨w2, ⟨q2, L2, R2, rfl, hq2, rfl, hL2, hR2⟩, rfl⟩ := hq
  refine W.eq (g2 := F0 m 264 ls [.int (a)]) rfl ?_
  rw [← hq2] at hl
  refine lv_aload_n hx hb dL_law_264 rfl (lv_at hl 2 rfl) ?_
  refine lv_aload_n hx hb dL_law_265 rfl (lv_at hl 0 rfl) ?_
  refine lv_iload_n hx hb dL_law_266 rfl (lv_at hl 3 rfl) ?_
  refine lv_iconst (v := iv (1)) hx hb dL_law_267 (by decide) ?_
  refine iw_iadd hx hb dL_law_268 ?_
  refine lw_sld hx hb hX hbl hbA hS (i + 1) (by omega) (by omega) hL0 dL_law_269 ?_
  refine lv_aload_n hx hb dL_law_270 rfl (lv_at hl 0 rfl) ?_
  refine lv_iload_n hx hb dL_law_271 rfl (lv_at hl 3 rfl) ?_
  refine lv_iconst (v := iv (2)) hx hb dL_law_272 (by decide) ?_
  refine iw_iadd hx hb dL_law_273 ?_
  refine lw_sld hx hb hX hbl hbA hS (i + 2) (by omega) (by omega) hL0 dL_law_274 ?_
  refine lw_nz hx hb (ir_of _) dL_law_275 dL_law_278 dL_law_279 dL_law_282 ?_
  refine W.eq (g2 := F0 m 283 ls [.int (iv (if (xs (i + 2)).toInt = 0 then 0 else 1)), .int (iv ((xs (i + 1)).toInt)), .ref (r 0), .int (a)]) rfl ?_
  refine lv_aload_n hx hb dL_law_283 rfl (lv_at hl 0 rfl) ?_
  refine lv_iload_n hx hb dL_law_284 rfl (lv_at hl 3 rfl) ?_
  refine lv_iconst (v := iv (3)) hx hb dL_law_285 (by decide) ?_
  refine iw_iadd hx hb dL_law_286 ?_
  refine lw_sld hx hb hX hbl hbA hS (i + 3) (by omega) (by omega) hL0 dL_law_287 ?_
  refine ef_callV (As := [.int (iv ((xs (i + 1)).toInt)), .int (iv (if (xs (i + 2)).toInt = 0 then 0 else 1)), .int (iv ((xs (i + 3)).toInt))]) (rest := [.int (a)]) ⟨hx, hb, hml, hown, hts⟩ ((hd V J pb pe ob oe hJ k7 k8 k9 k10).fl (lwCW cI q2 A1n U1n b1n e1n A2n U2n b2n e2n L2 R2)) (cwV 3 hts rgL_scale rfl rfl rfl (by decide +kernel) ⟨Nat.le_of_ble_eq_true rfl, Nat.le_of_ble_eq_true rfl⟩) hK hNX hP hD hS 15 rfl rfl rfl rfl hl.1 rfl (Nat.le_of_ble_eq_true rfl) dL_law_288 ⟨Nat.le_of_ble_eq_true rfl, Nat.le_of_ble_eq_true rfl⟩ (fun o w1 H locs hq hP hD hS => ?_)
  obtain ⟨w2, ⟨V2, J2, pb2, pe2, ob2, oe2, rfl, rfl, hJ2, j7, j8, j9, j10⟩, rfl⟩ := hq
  refine W.eq (g2 := F0 m 291 ls [.int (a), .int (a)]) rfl ?_
  refine lv_icmp_eq (tgt := 507) hx hb dL_law_291 (by decide) (fun _ => ?_) (fun h => absurd rfl h)
  exact next q2 r A1n U1n b1n e1n A2n U2n b2n e2n L2 R2 V2 J2 pb2 pe2 ob2 oe2 H locs ls Y1 Y2 hL2 hR2 hJ2 j7 j8 j9 j10 hP hD hS hl

set_option maxRecDepth 100000 in
set_option maxHeartbeats 4000000 in
/-- turn in the law -/
theorem lc_turn {p : Program} {l : Launch} {e : Env} {s : State} {m : MethodId} {b : Nat} {below : List Frame} {meth : Method} {c : Code} {dC : Nat → ClassId} {dI : Nat → Nat → Nat} {cI : ClassId} {L0 : Nat} {xs : Nat → Int32} (C0 : lw_At p s m meth c b L0 xs) (hK : va_K (dC, dI) vwCl [(cI, .int)] s) (hNX : ef_X s) (hL0 : L0 ≤ 2560) {i : Nat} (hi : i + 5 ≤ L0) (next : lw_G p l e s m b below meth c dC dI cI 507 i) : lw_G p l e s m b below meth c dC dI cI 296 i := by
  obtain ⟨hx, hb, hr, hml, hown, hts, hX, hbl, hlocks, hgv⟩ := id C0
  have hbA : ¬ lwA s b := Nat.not_le.mpr hbl
  intro q r A1 U1 b1 e1 A2 U2 b2 e2 L R V J pb pe ob oe H locs ls W1 W2 hL hR hJ k7 k8 k9 k10 hP hD hS hl
  obtain ⟨v, A1n, U1n, b1n, e1n, A2n, U2n, b2n, e2n, ⟨a, rfl⟩, Y1, Y2, hc, hd⟩ := lp_turn l dC dI cI q r W1 W2 ((xs (i + 1)).toInt) (ir_of _)
  refine lv_aload_n hx hb dL_law_296 rfl (lv_at hl 1 rfl) ?_
  refine lv_aload_n hx hb dL_law_297 rfl (lv_at hl 0 rfl) ?_
  refine lv_iload_n hx hb dL_law_298 rfl (lv_at hl 3 rfl) ?_
  refine lv_iconst (v := iv (1)) hx hb dL_law_299 (by decide) ?_
  refine iw_iadd hx hb dL_law_300 ?_
  refine lw_sld hx hb hX hbl hbA hS (i + 1) (by omega) (by omega) hL0 dL_law_301 ?_
  refine ef_callV (As := [.int (iv ((xs (i + 1)).toInt))]) (rest := []) ⟨hx, hb, hml, hown, hts⟩ ((hc L R hL hR).fr (lwRW cI r V J pb pe ob oe A1 U1 b1 e1 A2 U2 b2 e2)) (cwV 1 hts gL_turn rfl rfl rfl (by decide +kernel) ⟨Nat.le_of_ble_eq_true rfl, Nat.le_of_ble_eq_true rfl⟩) hK hNX hP hD hS 0 rfl rfl rfl rfl hl.1 rfl (Nat.le_of_ble_eq_true rfl) dL_law_302 ⟨Nat.le_of_ble_eq_true rfl, Nat.le_of_ble_eq_true rfl⟩ (fun o w1 H locs hq hP hD hS => ?_)
  obtain ⟨w2, ⟨q2, L2, R2, rfl, hq2, rfl, hL2, hR2⟩, rfl⟩ := hq
  refine W.eq (g2 := F0 m 305 ls [.int (a)]) rfl ?_
  rw [← hq2] at hl
  refine lv_aload_n hx hb dL_law_305 rfl (lv_at hl 2 rfl) ?_
  refine lv_aload_n hx hb dL_law_306 rfl (lv_at hl 0 rfl) ?_
  refine lv_iload_n hx hb dL_law_307 rfl (lv_at hl 3 rfl) ?_
  refine lv_iconst (v := iv (1)) hx hb dL_law_308 (by decide) ?_
  refine iw_iadd hx hb dL_law_309 ?_
  refine lw_sld hx hb hX hbl hbA hS (i + 1) (by omega) (by omega) hL0 dL_law_310 ?_
  refine ef_callV (As := [.int (iv ((xs (i + 1)).toInt))]) (rest := [.int (a)]) ⟨hx, hb, hml, hown, hts⟩ ((hd V J pb pe ob oe hJ k7 k8 k9 k10).fl (lwCW cI q2 A1n U1n b1n e1n A2n U2n b2n e2n L2 R2)) (cwV 1 hts rgL_turn rfl rfl rfl (by decide +kernel) ⟨Nat.le_of_ble_eq_true rfl, Nat.le_of_ble_eq_true rfl⟩) hK hNX hP hD hS 15 rfl rfl rfl rfl hl.1 rfl (Nat.le_of_ble_eq_true rfl) dL_law_311 ⟨Nat.le_of_ble_eq_true rfl, Nat.le_of_ble_eq_true rfl⟩ (fun o w1 H locs hq hP hD hS => ?_)
  obtain ⟨w2, ⟨V2, J2, pb2, pe2, ob2, oe2, rfl, rfl, hJ2, j7, j8, j9, j10⟩, rfl⟩ := hq
  refine W.eq (g2 := F0 m 314 ls [.int (a), .int (a)]) rfl ?_
  refine lv_icmp_eq (tgt := 507) hx hb dL_law_314 (by decide) (fun _ => ?_) (fun h => absurd rfl h)
  exact next q2 r A1n U1n b1n e1n A2n U2n b2n e2n L2 R2 V2 J2 pb2 pe2 ob2 oe2 H locs ls Y1 Y2 hL2 hR2 hJ2 j7 j8 j9 j10 hP hD hS hl
