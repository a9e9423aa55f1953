set_option maxRecDepth 100000 in
set_option maxHeartbeats 4000000 in
/-- on to the next call -/
theorem lc_next {p : Program} {l : Launch} {e : Env} {s : State} {m : MethodId} {b : Nat} {below : List Frame} {meth : Method} {c : Code} {dC : Nat → ClassId} {dI : Nat → Nat → Nat} {cI : ClassId} {L0 : Nat} {xs : Nat → Int32} (C0 : lw_At p s m meth c b L0 xs) (hK : va_K (dC, dI) vwCl [(cI, .int)] s) (hNX : ef_X s) (hL0 : L0 ≤ 2560) {i : Nat} (hi : i + 5 ≤ L0) (next : lw_G p l e s m b below meth c dC dI cI 18 (i + 5)) : lw_G p l e s m b below meth c dC dI cI 507 i := by
  obtain ⟨hx, hb, hr, hml, hown, hts, hX, hbl, hlocks, hgv⟩ := id C0
  have hbA : ¬ lwA s b := Nat.not_le.mpr hbl
  intro q r A1 U1 b1 e1 A2 U2 b2 e2 L R V J pb pe ob oe H locs ls W1 W2 hL hR hJ k7 k8 k9 k10 hP hD hS hl
  refine lv_iinc (v := iv (((i + 5 : Nat) : Int))) (lv' := [(3, .int (iv (((i + 5 : Nat) : Int)))), (0, .ref b), (1, .ref (q 0)), (2, .ref (r 0))]) hx hb dL_law_507 hl (k := 3) rfl (by rw [show ((i + 5 : Nat) : Int) = (i : Int) + 5 by omega, ← iv_add]; rfl) (by decide) rfl (fun ls hl => ?_)
  refine lv_goto (tgt := 18) hx hb dL_law_510 (by decide) ?_
  exact next q r A1 U1 b1 e1 A2 U2 b2 e2 L R V J pb pe ob oe H locs ls W1 W2 hL hR hJ k7 k8 k9 k10 hP hD hS (lv_sub hl [1, 2, 3, 0] rfl)

set_option maxRecDepth 100000 in
set_option maxHeartbeats 4000000 in
/-- the head of the loop -/
theorem lc_head {p : Program} {l : Launch} {e : Env} {s : State} {m : MethodId} {b : Nat} {below : List Frame} {meth : Method} {c : Code} {dC : Nat → ClassId} {dI : Nat → Nat → Nat} {cI : ClassId} {L0 : Nat} {xs : Nat → Int32} (C0 : lw_At p s m meth c b L0 xs) (hK : va_K (dC, dI) vwCl [(cI, .int)] s) (hNX : ef_X s) (hL0 : L0 ≤ 2560) {i : Nat} (hi : i ≤ L0 + 5) (next : i + 5 ≤ L0 → lw_G p l e s m b below meth c dC dI cI 507 i) : lw_G p l e s m b below meth c dC dI cI 18 i := by
  obtain ⟨hx, hb, hr, hml, hown, hts, hX, hbl, hlocks, hgv⟩ := id C0
  have hbA : ¬ lwA s b := Nat.not_le.mpr hbl
  intro q r A1 U1 b1 e1 A2 U2 b2 e2 L R V J pb pe ob oe H locs ls W1 W2 hL hR hJ k7 k8 k9 k10 hP hD hS hl
  refine lv_iload_n hx hb dL_law_18 rfl (lv_at hl 3 rfl) ?_
  refine lv_aload_n hx hb dL_law_19 rfl (lv_at hl 0 rfl) ?_
  refine va_slen hx hb hX hbl hbA hS dL_law_20 ?_
  refine iw_topi (y := iv (L0 : Int)) (iv_nI L0).symm ?_
  refine lv_iconst (v := iv (5)) hx hb dL_law_21 (by decide) ?_
  refine iw_isub hx hb dL_law_22 ?_
  refine iw_icmp_gt (tgt := 513) hx hb dL_law_23 (by decide) ⟨by omega, by omega⟩ ⟨by omega, by omega⟩ (fun c1 => ?_) (fun c1 => ?_)
  ·
    refine lv_iconst (v := 1) hx hb dL_law_513 (by decide) ?_
    refine va_forget hS.2.2 ?_
    exact lw_ret hx hb hr hlocks dL_law_514
  ·
    have hi5 : i + 5 ≤ L0 := by omega
    have nx := next hi5
    refine lv_aload_n hx hb dL_law_26 rfl (lv_at hl 0 rfl) ?_
    refine lv_iload_n hx hb dL_law_27 rfl (lv_at hl 3 rfl) ?_
    refine lw_sld hx hb hX hbl hbA hS (i + 0) (by omega) (by omega) hL0 dL_law_28 ?_
    refine lv_bipush (v := iv (15)) hx hb dL_law_29 (by decide) ?_
    refine lv_iand hx hb dL_law_31 ?_
    generalize (iv ((xs (i + 0)).toInt) &&& iv (15)) = x
    by_cases hout : x.toInt < 0 ∨ 9 < x.toInt
    · refine lv_tableOut (tgt := 507) hx hb dL_law_32 hout (by decide) ?_
      exact nx q r A1 U1 b1 e1 A2 U2 b2 e2 L R V J pb pe ob oe H locs ls W1 W2 hL hR hJ k7 k8 k9 k10 hP hD hS hl
    · have h10 : x.toInt = 0 ∨ x.toInt = 1 ∨ x.toInt = 2 ∨ x.toInt = 3 ∨ x.toInt = 4 ∨ x.toInt = 5 ∨ x.toInt = 6 ∨ x.toInt = 7 ∨ x.toInt = 8 ∨ x.toInt = 9 := by omega
      rcases h10 with h | h | h | h | h | h | h | h | h | h
      · refine lv_tableIn (tgt := 88) (off := 56) hx hb dL_law_32 (by omega) (by omega) (by rw [h]; rfl) (by decide) ?_
        exact lc_begin C0 hK hNX hL0 hi5 nx q r A1 U1 b1 e1 A2 U2 b2 e2 L R V J pb pe ob oe H locs ls W1 W2 hL hR hJ k7 k8 k9 k10 hP hD hS hl
      · refine lv_tableIn (tgt := 111) (off := 79) hx hb dL_law_32 (by omega) (by omega) (by rw [h]; rfl) (by decide) ?_
        exact lc_digit C0 hK hNX hL0 hi5 nx q r A1 U1 b1 e1 A2 U2 b2 e2 L R V J pb pe ob oe H locs ls W1 W2 hL hR hJ k7 k8 k9 k10 hP hD hS hl
      · refine lv_tableIn (tgt := 164) (off := 132) hx hb dL_law_32 (by omega) (by omega) (by rw [h]; rfl) (by decide) ?_
        exact lc_set C0 hK hNX hL0 hi5 nx q r A1 U1 b1 e1 A2 U2 b2 e2 L R V J pb pe ob oe H locs ls W1 W2 hL hR hJ k7 k8 k9 k10 hP hD hS hl
      · refine lv_tableIn (tgt := 237) (off := 205) hx hb dL_law_32 (by omega) (by omega) (by rw [h]; rfl) (by decide) ?_
        exact lc_scale C0 hK hNX hL0 hi5 nx q r A1 U1 b1 e1 A2 U2 b2 e2 L R V J pb pe ob oe H locs ls W1 W2 hL hR hJ k7 k8 k9 k10 hP hD hS hl
      · refine lv_tableIn (tgt := 296) (off := 264) hx hb dL_law_32 (by omega) (by omega) (by rw [h]; rfl) (by decide) ?_
        exact lc_turn C0 hK hNX hL0 hi5 nx q r A1 U1 b1 e1 A2 U2 b2 e2 L R V J pb pe ob oe H locs ls W1 W2 hL hR hJ k7 k8 k9 k10 hP hD hS hl
      · refine lv_tableIn (tgt := 319) (off := 287) hx hb dL_law_32 (by omega) (by omega) (by rw [h]; rfl) (by decide) ?_
        exact lc_move C0 hK hNX hL0 hi5 nx q r A1 U1 b1 e1 A2 U2 b2 e2 L R V J pb pe ob oe H locs ls W1 W2 hL hR hJ k7 k8 k9 k10 hP hD hS hl
      · refine lv_tableIn (tgt := 368) (off := 336) hx hb dL_law_32 (by omega) (by omega) (by rw [h]; rfl) (by decide) ?_
        exact lc_bits C0 hK hNX hL0 hi5 nx q r A1 U1 b1 e1 A2 U2 b2 e2 L R V J pb pe ob oe H locs ls W1 W2 hL hR hJ k7 k8 k9 k10 hP hD hS hl
      · refine lv_tableIn (tgt := 401) (off := 369) hx hb dL_law_32 (by omega) (by omega) (by rw [h]; rfl) (by decide) ?_
        exact lc_word C0 hK hNX hL0 hi5 nx q r A1 U1 b1 e1 A2 U2 b2 e2 L R V J pb pe ob oe H locs ls W1 W2 hL hR hJ k7 k8 k9 k10 hP hD hS hl
      · refine lv_tableIn (tgt := 444) (off := 412) hx hb dL_law_32 (by omega) (by omega) (by rw [h]; rfl) (by decide) ?_
        exact lc_compare C0 hK hNX hL0 hi5 nx q r A1 U1 b1 e1 A2 U2 b2 e2 L R V J pb pe ob oe H locs ls W1 W2 hL hR hJ k7 k8 k9 k10 hP hD hS hl
      · refine lv_tableIn (tgt := 457) (off := 425) hx hb dL_law_32 (by omega) (by omega) (by rw [h]; rfl) (by decide) ?_
        exact lc_round C0 hK hNX hL0 hi5 nx q r A1 U1 b1 e1 A2 U2 b2 e2 L R V J pb pe ob oe H locs ls W1 W2 hL hR hJ k7 k8 k9 k10 hP hD hS hl
/-- the loop -/
theorem lw_loop {p : Program} {l : Launch} {e : Env} {s : State} {m : MethodId} {b : Nat} {below : List Frame} {meth : Method} {c : Code} {dC : Nat → ClassId} {dI : Nat → Nat → Nat} {cI : ClassId} {L0 : Nat} {xs : Nat → Int32} (C0 : lw_At p s m meth c b L0 xs) (hK : va_K (dC, dI) vwCl [(cI, .int)] s) (hNX : ef_X s) (hL0 : L0 ≤ 2560) : ∀ fuel i : Nat, i ≤ L0 + 5 → L0 + 5 < i + fuel → lw_G p l e s m b below meth c dC dI cI 18 i := by
  intro fuel
  induction fuel with
  | zero => intro i h1 h2; omega
  | succ fuel ih =>
    intro i h1 h2
    exact lc_head C0 hK hNX hL0 h1 (fun h5 => lc_next C0 hK hNX hL0 h5 (ih (i + 5) (by omega) (by omega)))
