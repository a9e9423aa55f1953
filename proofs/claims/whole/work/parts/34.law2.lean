theorem lw_lc (a : Int64) : lg_cmp a a = 0 := by simp [lg_cmp]

set_option maxRecDepth 100000 in
set_option maxHeartbeats 4000000 in
/-- move in the law -/
theorem lc_move {p : Program} {l : Launch} {e : Env} {s : State} {m : MethodId} {b : Nat} {below : List Frame} {meth : Method} {c : Code} {dC : Nat → ClassId} {dI : Nat → Nat → Nat} {cI : ClassId} {L0 : Nat} {xs : Nat → Int32} (C0 : lw_At p s m meth c b L0 xs) (hK : va_K (dC, dI) vwCl [(cI, .int)] s) (hNX : ef_X s) (hL0 : L0 ≤ 2560) {i : Nat} (hi : i + 5 ≤ L0) (next : lw_G p l e s m b below meth c dC dI cI 507 i) : lw_G p l e s m b below meth c dC dI cI 319 i := by
  obtain ⟨hx, hb, hr, hml, hown, hts, hX, hbl, hlocks, hgv⟩ := id C0
  have hbA : ¬ lwA s b := Nat.not_le.mpr hbl
  intro q r A1 U1 b1 e1 A2 U2 b2 e2 L R V J pb pe ob oe H locs ls W1 W2 hL hR hJ k7 k8 k9 k10 hP hD hS hl
  obtain ⟨v, A1n, U1n, b1n, e1n, A2n, U2n, b2n, e2n, ⟨a, rfl⟩, Y1, Y2, hc, hd⟩ := lp_move l dC dI cI q r W1 W2 ((xs (i + 1)).toInt) (if (xs (i + 2)).toInt = 0 then 0 else 1) (ir_of _) (flag2 _)
  refine lv_aload_n hx hb dL_law_319 rfl (lv_at hl 1 rfl) ?_
  refine lv_aload_n hx hb dL_law_320 rfl (lv_at hl 0 rfl) ?_
  refine lv_iload_n hx hb dL_law_321 rfl (lv_at hl 3 rfl) ?_
  refine lv_iconst (v := iv (1)) hx hb dL_law_322 (by decide) ?_
  refine iw_iadd hx hb dL_law_323 ?_
  refine lw_sld hx hb hX hbl hbA hS (i + 1) (by omega) (by omega) hL0 dL_law_324 ?_
  refine lv_aload_n hx hb dL_law_325 rfl (lv_at hl 0 rfl) ?_
  refine lv_iload_n hx hb dL_law_326 rfl (lv_at hl 3 rfl) ?_
  refine lv_iconst (v := iv (2)) hx hb dL_law_327 (by decide) ?_
  refine iw_iadd hx hb dL_law_328 ?_
  refine lw_sld hx hb hX hbl hbA hS (i + 2) (by omega) (by omega) hL0 dL_law_329 ?_
  refine lw_nz hx hb (ir_of _) dL_law_330 dL_law_333 dL_law_334 dL_law_337 ?_
  refine W.eq (g2 := F0 m 338 ls [.int (iv (if (xs (i + 2)).toInt = 0 then 0 else 1)), .int (iv ((xs (i + 1)).toInt)), .ref (q 0)]) rfl ?_
  refine ef_callV (As := [.int (iv ((xs (i + 1)).toInt)), .int (iv (if (xs (i + 2)).toInt = 0 then 0 else 1))]) (rest := []) ⟨hx, hb, hml, hown, hts⟩ ((hc L R hL hR).fr (lwRW cI r V J pb pe ob oe A1 U1 b1 e1 A2 U2 b2 e2)) (cwV 2 hts gL_move rfl rfl rfl (by decide +kernel) ⟨Nat.le_of_ble_eq_true rfl, Nat.le_of_ble_eq_true rfl⟩) hK hNX hP hD hS 0 rfl rfl rfl rfl hl.1 rfl (Nat.le_of_ble_eq_true rfl) dL_law_338 ⟨Nat.le_of_ble_eq_true rfl, Nat.le_of_ble_eq_true rfl⟩ (fun o w1 H locs hq hP hD hS => ?_)
  obtain ⟨w2, ⟨q2, L2, R2, rfl, hq2, rfl, hL2, hR2⟩, rfl⟩ := hq
  refine W.eq (g2 := F0 m 341 ls [.int (a)]) rfl ?_
  rw [← hq2] at hl
  refine lv_aload_n hx hb dL_law_341 rfl (lv_at hl 2 rfl) ?_
  refine lv_aload_n hx hb dL_law_342 rfl (lv_at hl 0 rfl) ?_
  refine lv_iload_n hx hb dL_law_343 rfl (lv_at hl 3 rfl) ?_
  refine lv_iconst (v := iv (1)) hx hb dL_law_344 (by decide) ?_
  refine iw_iadd hx hb dL_law_345 ?_
  refine lw_sld hx hb hX hbl hbA hS (i + 1) (by omega) (by omega) hL0 dL_law_346 ?_
  refine lv_aload_n hx hb dL_law_347 rfl (lv_at hl 0 rfl) ?_
  refine lv_iload_n hx hb dL_law_348 rfl (lv_at hl 3 rfl) ?_
  refine lv_iconst (v := iv (2)) hx hb dL_law_349 (by decide) ?_
  refine iw_iadd hx hb dL_law_350 ?_
  refine lw_sld hx hb hX hbl hbA hS (i + 2) (by omega) (by omega) hL0 dL_law_351 ?_
  refine lw_nz hx hb (ir_of _) dL_law_352 dL_law_355 dL_law_356 dL_law_359 ?_
  refine W.eq (g2 := F0 m 360 ls [.int (iv (if (xs (i + 2)).toInt = 0 then 0 else 1)), .int (iv ((xs (i + 1)).toInt)), .ref (r 0), .int (a)]) rfl ?_
  refine ef_callV (As := [.int (iv ((xs (i + 1)).toInt)), .int (iv (if (xs (i + 2)).toInt = 0 then 0 else 1))]) (rest := [.int (a)]) ⟨hx, hb, hml, hown, hts⟩ ((hd V J pb pe ob oe hJ k7 k8 k9 k10).fl (lwCW cI q2 A1n U1n b1n e1n A2n U2n b2n e2n L2 R2)) (cwV 2 hts rgL_move rfl rfl rfl (by decide +kernel) ⟨Nat.le_of_ble_eq_true rfl, Nat.le_of_ble_eq_true rfl⟩) hK hNX hP hD hS 15 rfl rfl rfl rfl hl.1 rfl (Nat.le_of_ble_eq_true rfl) dL_law_360 ⟨Nat.le_of_ble_eq_true rfl, Nat.le_of_ble_eq_true rfl⟩ (fun o w1 H locs hq hP hD hS => ?_)
  obtain ⟨w2, ⟨V2, J2, pb2, pe2, ob2, oe2, rfl, rfl, hJ2, j7, j8, j9, j10⟩, rfl⟩ := hq
  refine W.eq (g2 := F0 m 363 ls [.int (a), .int (a)]) rfl ?_
  refine lv_icmp_eq (tgt := 507) hx hb dL_law_363 (by decide) (fun _ => ?_) (fun h => absurd rfl h)
  exact next q2 r A1n U1n b1n e1n A2n U2n b2n e2n L2 R2 V2 J2 pb2 pe2 ob2 oe2 H locs ls Y1 Y2 hL2 hR2 hJ2 j7 j8 j9 j10 hP hD hS hl

set_option maxRecDepth 100000 in
set_option maxHeartbeats 4000000 in
/-- bits in the law -/
theorem lc_bits {p : Program} {l : Launch} {e : Env} {s : State} {m : MethodId} {b : Nat} {below : List Frame} {meth : Method} {c : Code} {dC : Nat → ClassId} {dI : Nat → Nat → Nat} {cI : ClassId} {L0 : Nat} {xs : Nat → Int32} (C0 : lw_At p s m meth c b L0 xs) (hK : va_K (dC, dI) vwCl [(cI, .int)] s) (hNX : ef_X s) (hL0 : L0 ≤ 2560) {i : Nat} (hi : i + 5 ≤ L0) (next : lw_G p l e s m b below meth c dC dI cI 507 i) : lw_G p l e s m b below meth c dC dI cI 368 i := by
  obtain ⟨hx, hb, hr, hml, hown, hts, hX, hbl, hlocks, hgv⟩ := id C0
  have hbA : ¬ lwA s b := Nat.not_le.mpr hbl
  intro q r A1 U1 b1 e1 A2 U2 b2 e2 L R V J pb pe ob oe H locs ls W1 W2 hL hR hJ k7 k8 k9 k10 hP hD hS hl
  obtain ⟨v, A1n, U1n, b1n, e1n, A2n, U2n, b2n, e2n, ⟨a, rfl⟩, Y1, Y2, hc, hd⟩ := lp_bits l dC dI cI q r W1 W2 ((xs (i + 1)).toInt) ((xs (i + 2)).toInt) (ir_of _) (ir_of _)
  refine lv_aload_n hx hb dL_law_368 rfl (lv_at hl 1 rfl) ?_
  refine lv_aload_n hx hb dL_law_369 rfl (lv_at hl 0 rfl) ?_
  refine lv_iload_n hx hb dL_law_370 rfl (lv_at hl 3 rfl) ?_
  refine lv_iconst (v := iv (1)) hx hb dL_law_371 (by decide) ?_
  refine iw_iadd hx hb dL_law_372 ?_
  refine lw_sld hx hb hX hbl hbA hS (i + 1) (by omega) (by omega) hL0 dL_law_373 ?_
  refine lv_aload_n hx hb dL_law_374 rfl (lv_at hl 0 rfl) ?_
  refine lv_iload_n hx hb dL_law_375 rfl (lv_at hl 3 rfl) ?_
  refine lv_iconst (v := iv (2)) hx hb dL_law_376 (by decide) ?_
  refine iw_iadd hx hb dL_law_377 ?_
  refine lw_sld hx hb hX hbl hbA hS (i + 2) (by omega) (by omega) hL0 dL_law_378 ?_
  refine ef_callV (As := [.int (iv ((xs (i + 1)).toInt)), .int (iv ((xs (i + 2)).toInt))]) (rest := []) ⟨hx, hb, hml, hown, hts⟩ ((hc L R hL hR).fr (lwRW cI r V J pb pe ob oe A1 U1 b1 e1 A2 U2 b2 e2)) (cwV 2 hts gL_bits rfl rfl rfl (by decide +kernel) ⟨Nat.le_of_ble_eq_true rfl, Nat.le_of_ble_eq_true rfl⟩) hK hNX hP hD hS 0 rfl rfl rfl rfl hl.1 rfl (Nat.le_of_ble_eq_true rfl) dL_law_379 ⟨Nat.le_of_ble_eq_true rfl, Nat.le_of_ble_eq_true rfl⟩ (fun o w1 H locs hq hP hD hS => ?_)
  obtain ⟨w2, ⟨q2, L2, R2, rfl, hq2, rfl, hL2, hR2⟩, rfl⟩ := hq
  refine W.eq (g2 := F0 m 382 ls [.int (a)]) rfl ?_
  rw [← hq2] at hl
  refine lv_aload_n hx hb dL_law_382 rfl (lv_at hl 2 rfl) ?_
  refine lv_aload_n hx hb dL_law_383 rfl (lv_at hl 0 rfl) ?_
  refine lv_iload_n hx hb dL_law_384 rfl (lv_at hl 3 rfl) ?_
  refine lv_iconst (v := iv (1)) hx hb dL_law_385 (by decide) ?_
  refine iw_iadd hx hb dL_law_386 ?_
  refine lw_sld hx hb hX hbl hbA hS (i + 1) (by omega) (by omega) hL0 dL_law_387 ?_
  refine lv_aload_n hx hb dL_law_388 rfl (lv_at hl 0 rfl) ?_
  refine lv_iload_n hx hb dL_law_389 rfl (lv_at hl 3 rfl) ?_
  refine lv_iconst (v := iv (2)) hx hb dL_law_390 (by decide) ?_
  refine iw_iadd hx hb dL_law_391 ?_
  refine lw_sld hx hb hX hbl hbA hS (i + 2) (by omega) (by omega) hL0 dL_law_392 ?_
  refine ef_callV (As := [.int (iv ((xs (i + 1)).toInt)), .int (iv ((xs (i + 2)).toInt))]) (rest := [.int (a)]) ⟨hx, hb, hml, hown, hts⟩ ((hd V J pb pe ob oe hJ k7 k8 k9 k10).fl (lwCW cI q2 A1n U1n b1n e1n A2n U2n b2n e2n L2 R2)) (cwV 2 hts rgL_bits rfl rfl rfl (by decide +kernel) ⟨Nat.le_of_ble_eq_true rfl, Nat.le_of_ble_eq_true rfl⟩) hK hNX hP hD hS 15 rfl rfl rfl rfl hl.1 rfl (Nat.le_of_ble_eq_true rfl) dL_law_393 ⟨Nat.le_of_ble_eq_true rfl, Nat.le_of_ble_eq_true rfl⟩ (fun o w1 H locs hq hP hD hS => ?_)
  obtain ⟨w2, ⟨V2, J2, pb2, pe2, ob2, oe2, rfl, rfl, hJ2, j7, j8, j9, j10⟩, rfl⟩ := hq
  refine W.eq (g2 := F0 m 396 ls [.int (a), .int (a)]) rfl ?_
  refine lv_icmp_eq (tgt := 507) hx hb dL_law_396 (by decide) (fun _ => ?_) (fun h => absurd rfl h)
  exact next q2 r A1n U1n b1n e1n A2n U2n b2n e2n L2 R2 V2 J2 pb2 pe2 ob2 oe2 H locs ls Y1 Y2 hL2 hR2 hJ2 j7 j8 j9 j10 hP hD hS hl

set_option maxRecDepth 100000 in
set_option maxHeartbeats 4000000 in
/-- word in the law -/
theorem lc_word {p : Program} {l : Launch} {e : Env} {s : State} {m : MethodId} {b : Nat} {below : List Frame} {meth : Method} {c : Code} {dC : Nat → ClassId} {dI : Nat → Nat → Nat} {cI : ClassId} {L0 : Nat} {xs : Nat → Int32} (C0 : lw_At p s m meth c b L0 xs) (hK : va_K (dC, dI) vwCl [(cI, .int)] s) (hNX : ef_X s) (hL0 : L0 ≤ 2560) {i : Nat} (hi : i + 5 ≤ L0) (next : lw_G p l e s m b below meth c dC dI cI 507 i) : lw_G p l e s m b below meth c dC dI cI 401 i := by
  obtain ⟨hx, hb, hr, hml, hown, hts, hX, hbl, hlocks, hgv⟩ := id C0
  have hbA : ¬ lwA s b := Nat.not_le.mpr hbl
  intro q r A1 U1 b1 e1 A2 U2 b2 e2 L R V J pb pe ob oe H locs ls W1 W2 hL hR hJ k7 k8 k9 k10 hP hD hS hl
  obtain ⟨v, A1n, U1n, b1n, e1n, A2n, U2n, b2n, e2n, ⟨a, rfl⟩, Y1, Y2, hc, hd⟩ := lp_word l dC dI cI q r W1 W2 ((xs (i + 1)).toInt) ((xs (i + 2)).toInt) ((xs (i + 3)).toInt) (ir_of _) (ir_of _) (ir_of _)
  refine lv_aload_n hx hb dL_law_401 rfl (lv_at hl 1 rfl) ?_
  refine lv_aload_n hx hb dL_law_402 rfl (lv_at hl 0 rfl) ?_
  refine lv_iload_n hx hb dL_law_403 rfl (lv_at hl 3 rfl) ?_
  refine lv_iconst (v := iv (1)) hx hb dL_law_404 (by decide) ?_
  refine iw_iadd hx hb dL_law_405 ?_
  refine lw_sld hx hb hX hbl hbA hS (i + 1) (by omega) (by omega) hL0 dL_law_406 ?_
  refine lv_aload_n hx hb dL_law_407 rfl (lv_at hl 0 rfl) ?_
  refine lv_iload_n hx hb dL_law_408 rfl (lv_at hl 3 rfl) ?_
  refine lv_iconst (v := iv (2)) hx hb dL_law_409 (by decide) ?_
  refine iw_iadd hx hb dL_law_410 ?_
  refine lw_sld hx hb hX hbl hbA hS (i + 2) (by omega) (by omega) hL0 dL_law_411 ?_
  refine lv_aload_n hx hb dL_law_412 rfl (lv_at hl 0 rfl) ?_
  refine lv_iload_n hx hb dL_law_413 rfl (lv_at hl 3 rfl) ?_
  refine lv_iconst (v := iv (3)) hx hb dL_law_414 (by decide) ?_
  refine iw_iadd hx hb dL_law_415 ?_
  refine lw_sld hx hb hX hbl hbA hS (i + 3) (by omega) (by omega) hL0 dL_law_416 ?_
  refine ef_callV (As := [.int (iv ((xs (i + 1)).toInt)), .int (iv ((xs (i + 2)).toInt)), .int (iv ((xs (i + 3)).toInt))]) (rest := []) ⟨hx, hb, hml, hown, hts⟩ ((hc L R hL hR).fr (lwRW cI r V J pb pe ob oe A1 U1 b1 e1 A2 U2 b2 e2)) (cwV 3 hts gL_word rfl rfl rfl (by decide +kernel) ⟨Nat.le_of_ble_eq_true rfl, Nat.le_of_ble_eq_true rfl⟩) hK hNX hP hD hS 0 rfl rfl rfl rfl hl.1 rfl (Nat.le_of_ble_eq_true rfl) dL_law_417 ⟨Nat.le_of_ble_eq_true rfl, Nat.le_of_ble_eq_true rfl⟩ (fun o w1 H locs hq hP hD hS => ?_)
  obtain ⟨w2, ⟨q2, L2, R2, rfl, hq2, rfl, hL2, hR2⟩, rfl⟩ := hq
  refine W.eq (g2 := F0 m 420 ls [.int (a)]) rfl ?_
  rw [← hq2] at hl
  refine lv_aload_n hx hb dL_law_420 rfl (lv_at hl 2 rfl) ?_
  refine lv_aload_n hx hb dL_law_421 rfl (lv_at hl 0 rfl) ?_
  refine lv_iload_n hx hb dL_law_422 rfl (lv_at hl 3 rfl) ?_
  refine lv_iconst (v := iv (1)) hx hb dL_law_423 (by decide) ?_
  refine iw_iadd hx hb dL_law_424 ?_
  refine lw_sld hx hb hX hbl hbA hS (i + 1) (by omega) (by omega) hL0 dL_law_425 ?_
  refine lv_aload_n hx hb dL_law_426 rfl (lv_at hl 0 rfl) ?_
  refine lv_iload_n hx hb dL_law_427 rfl (lv_at hl 3 rfl) ?_
  refine lv_iconst (v := iv (2)) hx hb dL_law_428 (by decide) ?_
  refine iw_iadd hx hb dL_law_429 ?_
  refine lw_sld hx hb hX hbl hbA hS (i + 2) (by omega) (by omega) hL0 dL_law_430 ?_
  refine lv_aload_n hx hb dL_law_431 rfl (lv_at hl 0 rfl) ?_
  refine lv_iload_n hx hb dL_law_432 rfl (lv_at hl 3 rfl) ?_
  refine lv_iconst (v := iv (3)) hx hb dL_law_433 (by decide) ?_
  refine iw_iadd hx hb dL_law_434 ?_
  refine lw_sld hx hb hX hbl hbA hS (i + 3) (by omega) (by omega) hL0 dL_law_435 ?_
  refine ef_callV (As := [.int (iv ((xs (i + 1)).toInt)), .int (iv ((xs (i + 2)).toInt)), .int (iv ((xs (i + 3)).toInt))]) (rest := [.int (a)]) ⟨hx, hb, hml, hown, hts⟩ ((hd V J pb pe ob oe hJ k7 k8 k9 k10).fl (lwCW cI q2 A1n U1n b1n e1n A2n U2n b2n e2n L2 R2)) (cwV 3 hts rgL_word rfl rfl rfl (by decide +kernel) ⟨Nat.le_of_ble_eq_true rfl, Nat.le_of_ble_eq_true rfl⟩) hK hNX hP hD hS 15 rfl rfl rfl rfl hl.1 rfl (Nat.le_of_ble_eq_true rfl) dL_law_436 ⟨Nat.le_of_ble_eq_true rfl, Nat.le_of_ble_eq_true rfl⟩ (fun o w1 H locs hq hP hD hS => ?_)
  obtain ⟨w2, ⟨V2, J2, pb2, pe2, ob2, oe2, rfl, rfl, hJ2, j7, j8, j9, j10⟩, rfl⟩ := hq
  refine W.eq (g2 := F0 m 439 ls [.int (a), .int (a)]) rfl ?_
  refine lv_icmp_eq (tgt := 507) hx hb dL_law_439 (by decide) (fun _ => ?_) (fun h => absurd rfl h)
  exact next q2 r A1n U1n b1n e1n A2n U2n b2n e2n L2 R2 V2 J2 pb2 pe2 ob2 oe2 H locs ls Y1 Y2 hL2 hR2 hJ2 j7 j8 j9 j10 hP hD hS hl

set_option maxRecDepth 100000 in
set_option maxHeartbeats 4000000 in
/-- compare in the law -/
theorem lc_compare {p : Program} {l : Launch} {e : Env} {s : State} {m : MethodId} {b : Nat} {below : List Frame} {meth : Method} {c : Code} {dC : Nat → ClassId} {dI : Nat → Nat → Nat} {cI : ClassId} {L0 : Nat} {xs : Nat → Int32} (C0 : lw_At p s m meth c b L0 xs) (hK : va_K (dC, dI) vwCl [(cI, .int)] s) (hNX : ef_X s) (hL0 : L0 ≤ 2560) {i : Nat} (hi : i + 5 ≤ L0) (next : lw_G p l e s m b below meth c dC dI cI 507 i) : lw_G p l e s m b below meth c dC dI cI 444 i := by
  obtain ⟨hx, hb, hr, hml, hown, hts, hX, hbl, hlocks, hgv⟩ := id C0
  have hbA : ¬ lwA s b := Nat.not_le.mpr hbl
  intro q r A1 U1 b1 e1 A2 U2 b2 e2 L R V J pb pe ob oe H locs ls W1 W2 hL hR hJ k7 k8 k9 k10 hP hD hS hl
  obtain ⟨v, A1n, U1n, b1n, e1n, A2n, U2n, b2n, e2n, ⟨a, rfl⟩, Y1, Y2, hc, hd⟩ := lp_compare l dC dI cI q r W1 W2 
  refine lv_aload_n hx hb dL_law_444 rfl (lv_at hl 1 rfl) ?_
  refine ef_callV (As := []) (rest := []) ⟨hx, hb, hml, hown, hts⟩ ((hc L R hL hR).fr (lwRW cI r V J pb pe ob oe A1 U1 b1 e1 A2 U2 b2 e2)) (cwV 0 hts gL_compare rfl rfl rfl (by decide +kernel) ⟨Nat.le_of_ble_eq_true rfl, Nat.le_of_ble_eq_true rfl⟩) hK hNX hP hD hS 0 rfl rfl rfl rfl hl.1 rfl (Nat.le_of_ble_eq_true rfl) dL_law_445 ⟨Nat.le_of_ble_eq_true rfl, Nat.le_of_ble_eq_true rfl⟩ (fun o w1 H locs hq hP hD hS => ?_)
  obtain ⟨w2, ⟨q2, L2, R2, rfl, hq2, rfl, hL2, hR2⟩, rfl⟩ := hq
  refine W.eq (g2 := F0 m 448 ls [.int (a)]) rfl ?_
  rw [← hq2] at hl
  refine lv_aload_n hx hb dL_law_448 rfl (lv_at hl 2 rfl) ?_
  refine ef_callV (As := []) (rest := [.int (a)]) ⟨hx, hb, hml, hown, hts⟩ ((hd V J pb pe ob oe hJ k7 k8 k9 k10).fl (lwCW cI q2 A1n U1n b1n e1n A2n U2n b2n e2n L2 R2)) (cwV 0 hts rgL_compare rfl rfl rfl (by decide +kernel) ⟨Nat.le_of_ble_eq_true rfl, Nat.le_of_ble_eq_true rfl⟩) hK hNX hP hD hS 15 rfl rfl rfl rfl hl.1 rfl (Nat.le_of_ble_eq_true rfl) dL_law_449 ⟨Nat.le_of_ble_eq_true rfl, Nat.le_of_ble_eq_true rfl⟩ (fun o w1 H locs hq hP hD hS => ?_)
  obtain ⟨w2, ⟨V2, J2, pb2, pe2, ob2, oe2, rfl, rfl, hJ2, j7, j8, j9, j10⟩, rfl⟩ := hq
  refine W.eq (g2 := F0 m 452 ls [.int (a), .int (a)]) rfl ?_
  refine lv_icmp_eq (tgt := 507) hx hb dL_law_452 (by decide) (fun _ => ?_) (fun h => absurd rfl h)
  exact next q2 r A1n U1n b1n e1n A2n U2n b2n e2n L2 R2 V2 J2 pb2 pe2 ob2 oe2 H locs ls Y1 Y2 hL2 hR2 hJ2 j7 j8 j9 j10 hP hD hS hl

set_option maxRecDepth 100000 in
set_option maxHeartbeats 4000000 in
/-- round in the law -/
theorem lc_round {p : Program} {l : Launch} {e : Env} {s : State} {m : MethodId} {b : Nat} {below : List Frame} {meth : Method} {c : Code} {dC : Nat → ClassId} {dI : Nat → Nat → Nat} {cI : ClassId} {L0 : Nat} {xs : Nat → Int32} (C0 : lw_At p s m meth c b L0 xs) (hK : va_K (dC, dI) vwCl [(cI, .int)] s) (hNX : ef_X s) (hL0 : L0 ≤ 2560) {i : Nat} (hi : i + 5 ≤ L0) (next : lw_G p l e s m b below meth c dC dI cI 507 i) : lw_G p l e s m b below meth c dC dI cI 457 i := by
  obtain ⟨hx, hb, hr, hml, hown, hts, hX, hbl, hlocks, hgv⟩ := id C0
  have hbA : ¬ lwA s b := Nat.not_le.mpr hbl
  intro q r A1 U1 b1 e1 A2 U2 b2 e2 L R V J pb pe ob oe H locs ls W1 W2 hL hR hJ k7 k8 k9 k10 hP hD hS hl
  obtain ⟨v, A1n, U1n, b1n, e1n, A2n, U2n, b2n, e2n, ⟨a, rfl⟩, Y1, Y2, hc, hd⟩ := lp_round l dC dI cI q r W1 W2 ((xs (i + 1)).toInt) (if (xs (i + 2)).toInt = 0 then 0 else 1) (ir_of _) (flag2 _)
  refine lv_aload_n hx hb dL_law_457 rfl (lv_at hl 1 rfl) ?_
  refine lv_aload_n hx hb dL_law_458 rfl (lv_at hl 0 rfl) ?_
  refine lv_iload_n hx hb dL_law_459 rfl (lv_at hl 3 rfl) ?_
  refine lv_iconst (v := iv (1)) hx hb dL_law_460 (by decide) ?_
  refine iw_iadd hx hb dL_law_461 ?_
  refine lw_sld hx hb hX hbl hbA hS (i + 1) (by omega) (by omega) hL0 dL_law_462 ?_
  refine lv_aload_n hx hb dL_law_463 rfl (lv_at hl 0 rfl) ?_
  refine lv_iload_n hx hb dL_law_464 rfl (lv_at hl 3 rfl) ?_
  refine lv_iconst (v := iv (2)) hx hb dL_law_465 (by decide) ?_
  refine iw_iadd hx hb dL_law_466 ?_
  refine lw_sld hx hb hX hbl hbA hS (i + 2) (by omega) (by omega) hL0 dL_law_467 ?_
  refine lw_nz hx hb (ir_of _) dL_law_468 dL_law_471 dL_law_472 dL_law_475 ?_
  refine W.eq (g2 := F0 m 476 ls [.int (iv (if (xs (i + 2)).toInt = 0 then 0 else 1)), .int (iv ((xs (i + 1)).toInt)), .ref (q 0)]) rfl ?_
  refine ef_callV (As := [.int (iv ((xs (i + 1)).toInt)), .int (iv (if (xs (i + 2)).toInt = 0 then 0 else 1))]) (rest := []) ⟨hx, hb, hml, hown, hts⟩ ((hc L R hL hR).fr (lwRW cI r V J pb pe ob oe A1 U1 b1 e1 A2 U2 b2 e2)) (cwV 2 hts gL_round rfl rfl rfl (by decide +kernel) ⟨Nat.le_of_ble_eq_true rfl, Nat.le_of_ble_eq_true rfl⟩) hK hNX hP hD hS 0 rfl rfl rfl rfl hl.1 rfl (Nat.le_of_ble_eq_true rfl) dL_law_476 ⟨Nat.le_of_ble_eq_true rfl, Nat.le_of_ble_eq_true rfl⟩ (fun o w1 H locs hq hP hD hS => ?_)
  obtain ⟨w2, ⟨q2, L2, R2, rfl, hq2, rfl, hL2, hR2⟩, rfl⟩ := hq
  refine W.eq (g2 := F0 m 479 ls [.long (a)]) rfl ?_
  rw [← hq2] at hl
  refine lv_aload_n hx hb dL_law_479 rfl (lv_at hl 2 rfl) ?_
  refine lv_aload_n hx hb dL_law_480 rfl (lv_at hl 0 rfl) ?_
  refine lv_iload_n hx hb dL_law_481 rfl (lv_at hl 3 rfl) ?_
  refine lv_iconst (v := iv (1)) hx hb dL_law_482 (by decide) ?_
  refine iw_iadd hx hb dL_law_483 ?_
  refine lw_sld hx hb hX hbl hbA hS (i + 1) (by omega) (by omega) hL0 dL_law_484 ?_
  refine lv_aload_n hx hb dL_law_485 rfl (lv_at hl 0 rfl) ?_
  refine lv_iload_n hx hb dL_law_486 rfl (lv_at hl 3 rfl) ?_
  refine lv_iconst (v := iv (2)) hx hb dL_law_487 (by decide) ?_
  refine iw_iadd hx hb dL_law_488 ?_
  refine lw_sld hx hb hX hbl hbA hS (i + 2) (by omega) (by omega) hL0 dL_law_489 ?_
  refine lw_nz hx hb (ir_of _) dL_law_490 dL_law_493 dL_law_494 dL_law_497 ?_
  refine W.eq (g2 := F0 m 498 ls [.int (iv (if (xs (i + 2)).toInt = 0 then 0 else 1)), .int (iv ((xs (i + 1)).toInt)), .ref (r 0), .long (a)]) rfl ?_
  refine ef_callV (As := [.int (iv ((xs (i + 1)).toInt)), .int (iv (if (xs (i + 2)).toInt = 0 then 0 else 1))]) (rest := [.long (a)]) ⟨hx, hb, hml, hown, hts⟩ ((hd V J pb pe ob oe hJ k7 k8 k9 k10).fl (lwCW cI q2 A1n U1n b1n e1n A2n U2n b2n e2n L2 R2)) (cwV 2 hts rgL_round rfl rfl rfl (by decide +kernel) ⟨Nat.le_of_ble_eq_true rfl, Nat.le_of_ble_eq_true rfl⟩) hK hNX hP hD hS 15 rfl rfl rfl rfl hl.1 rfl (Nat.le_of_ble_eq_true rfl) dL_law_498 ⟨Nat.le_of_ble_eq_true rfl, Nat.le_of_ble_eq_true rfl⟩ (fun o w1 H locs hq hP hD hS => ?_)
  obtain ⟨w2, ⟨V2, J2, pb2, pe2, ob2, oe2, rfl, rfl, hJ2, j7, j8, j9, j10⟩, rfl⟩ := hq
  refine W.eq (g2 := F0 m 501 ls [.long (a), .long (a)]) rfl ?_
  refine W.lcmp hx hb dL_law_501 ?_
  refine lv_if_eq (tgt := 507) hx hb dL_law_502 (by decide) (fun _ => ?_) (fun h => ?_)
  · exact next q2 r A1n U1n b1n e1n A2n U2n b2n e2n L2 R2 V2 J2 pb2 pe2 ob2 oe2 H locs ls Y1 Y2 hL2 hR2 hJ2 j7 j8 j9 j10 hP hD hS hl
  · exact absurd (lw_lc a) h
