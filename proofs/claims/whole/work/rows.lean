section
-- ===== PART A: goes FIRST, ahead of the names: the tables' words, and 'selects' of the private methods out of them =====
/-- a private method of a class that the tables say can be made, by its rows of tables_1 -/
def lw_okq (q : MethodName × Nat) : Prop := (q.1.cls ≠ "java/lang/invoke/MethodHandle" ∧ q.1.cls ≠ "java/lang/invoke/VarHandle") ∧ Cond.instantiable q.1.cls q.2 ∈ tables_1 ∧ Cond.privateMethod q.1 ∈ tables_1 ∧ Cond.instanceMethod q.1 ∈ tables_1
theorem lw_p0 : lw_okq (⟨"ExactFractions$Whole", "put", "(IJ)V"⟩, 2) := ⟨⟨by decide +kernel, by decide +kernel⟩, List.mem_of_getElem? (i := 23) (by decide +kernel), List.mem_of_getElem? (i := 45) (by decide +kernel), List.mem_of_getElem? (i := 46) (by decide +kernel)⟩
theorem lw_p1 : lw_okq (⟨"ExactFractions$Whole", "settle", "(I)V"⟩, 2) := ⟨⟨by decide +kernel, by decide +kernel⟩, List.mem_of_getElem? (i := 23) (by decide +kernel), List.mem_of_getElem? (i := 49) (by decide +kernel), List.mem_of_getElem? (i := 50) (by decide +kernel)⟩
theorem lw_p2 : lw_okq (⟨"ExactFractions", "numberOf", "(I)LExactFractions$Fraction;"⟩, 4) := ⟨⟨by decide +kernel, by decide +kernel⟩, List.mem_of_getElem? (i := 9) (by decide +kernel), List.mem_of_getElem? (i := 96) (by decide +kernel), List.mem_of_getElem? (i := 97) (by decide +kernel)⟩
theorem lw_p3 : lw_okq (⟨"ExactFractions", "partOf", "(II)LExactFractions$Whole;"⟩, 4) := ⟨⟨by decide +kernel, by decide +kernel⟩, List.mem_of_getElem? (i := 9) (by decide +kernel), List.mem_of_getElem? (i := 105) (by decide +kernel), List.mem_of_getElem? (i := 106) (by decide +kernel)⟩
theorem lw_p4 : lw_okq (⟨"ExactFractions$Whole", "valueAt", "(I)J"⟩, 2) := ⟨⟨by decide +kernel, by decide +kernel⟩, List.mem_of_getElem? (i := 23) (by decide +kernel), List.mem_of_getElem? (i := 114) (by decide +kernel), List.mem_of_getElem? (i := 115) (by decide +kernel)⟩
theorem lw_p5 : lw_okq (⟨"ExactFractions", "keepLeftIn", "(LExactFractions$Whole;)I"⟩, 4) := ⟨⟨by decide +kernel, by decide +kernel⟩, List.mem_of_getElem? (i := 9) (by decide +kernel), List.mem_of_getElem? (i := 119) (by decide +kernel), List.mem_of_getElem? (i := 120) (by decide +kernel)⟩
theorem lw_p6 : lw_okq (⟨"ExactFractions", "orderOfSizes", "()I"⟩, 4) := ⟨⟨by decide +kernel, by decide +kernel⟩, List.mem_of_getElem? (i := 9) (by decide +kernel), List.mem_of_getElem? (i := 190) (by decide +kernel), List.mem_of_getElem? (i := 191) (by decide +kernel)⟩
theorem lw_p7 : lw_okq (⟨"ExactFractions$Whole", "addMultiple", "(LExactFractions$Whole;JI)V"⟩, 2) := ⟨⟨by decide +kernel, by decide +kernel⟩, List.mem_of_getElem? (i := 23) (by decide +kernel), List.mem_of_getElem? (i := 203) (by decide +kernel), List.mem_of_getElem? (i := 204) (by decide +kernel)⟩
theorem lw_p8 : lw_okq (⟨"ExactFractions", "alignTops", "(I)V"⟩, 4) := ⟨⟨by decide +kernel, by decide +kernel⟩, List.mem_of_getElem? (i := 9) (by decide +kernel), List.mem_of_getElem? (i := 207) (by decide +kernel), List.mem_of_getElem? (i := 208) (by decide +kernel)⟩
theorem lw_p9 : lw_okq (⟨"ExactFractions", "roundedSize", "(LExactFractions$Fraction;Z)J"⟩, 4) := ⟨⟨by decide +kernel, by decide +kernel⟩, List.mem_of_getElem? (i := 9) (by decide +kernel), List.mem_of_getElem? (i := 220) (by decide +kernel), List.mem_of_getElem? (i := 221) (by decide +kernel)⟩
theorem lw_p10 : lw_okq (⟨"ExactFractions", "layOut", "(LExactFractions$Fraction;)I"⟩, 4) := ⟨⟨by decide +kernel, by decide +kernel⟩, List.mem_of_getElem? (i := 9) (by decide +kernel), List.mem_of_getElem? (i := 224) (by decide +kernel), List.mem_of_getElem? (i := 225) (by decide +kernel)⟩
theorem lw_p11 : lw_okq (⟨"ExactFractions", "quotient", "(I)J"⟩, 4) := ⟨⟨by decide +kernel, by decide +kernel⟩, List.mem_of_getElem? (i := 9) (by decide +kernel), List.mem_of_getElem? (i := 231) (by decide +kernel), List.mem_of_getElem? (i := 232) (by decide +kernel)⟩
theorem lw_p12 : lw_okq (⟨"ExactFractionsModel", "numberOf", "(I)LExactFractionsModel$Num;"⟩, 7) := ⟨⟨by decide +kernel, by decide +kernel⟩, List.mem_of_getElem? (i := 236) (by decide +kernel), List.mem_of_getElem? (i := 321) (by decide +kernel), List.mem_of_getElem? (i := 322) (by decide +kernel)⟩
theorem lw_p13 : lw_okq (⟨"ExactFractionsModel", "partOf", "(II)LExactFractionsModel$Big;"⟩, 7) := ⟨⟨by decide +kernel, by decide +kernel⟩, List.mem_of_getElem? (i := 236) (by decide +kernel), List.mem_of_getElem? (i := 330) (by decide +kernel), List.mem_of_getElem? (i := 331) (by decide +kernel)⟩
theorem lw_p14 : lw_okq (⟨"ExactFractionsModel$Big", "trim", "()V"⟩, 2) := ⟨⟨by decide +kernel, by decide +kernel⟩, List.mem_of_getElem? (i := 242) (by decide +kernel), List.mem_of_getElem? (i := 376) (by decide +kernel), List.mem_of_getElem? (i := 377) (by decide +kernel)⟩
theorem lw_p15 : lw_okq (⟨"ExactFractionsModel", "orderOf", "(LExactFractionsModel$Num;LExactFractionsModel$Num;)I"⟩, 7) := ⟨⟨by decide +kernel, by decide +kernel⟩, List.mem_of_getElem? (i := 236) (by decide +kernel), List.mem_of_getElem? (i := 392) (by decide +kernel), List.mem_of_getElem? (i := 393) (by decide +kernel)⟩
def lw_privs_1 : List (MethodName × Nat) := [(⟨"ExactFractions$Whole", "put", "(IJ)V"⟩, 2), (⟨"ExactFractions$Whole", "settle", "(I)V"⟩, 2), (⟨"ExactFractions", "numberOf", "(I)LExactFractions$Fraction;"⟩, 4), (⟨"ExactFractions", "partOf", "(II)LExactFractions$Whole;"⟩, 4), (⟨"ExactFractions$Whole", "valueAt", "(I)J"⟩, 2), (⟨"ExactFractions", "keepLeftIn", "(LExactFractions$Whole;)I"⟩, 4), (⟨"ExactFractions", "orderOfSizes", "()I"⟩, 4), (⟨"ExactFractions$Whole", "addMultiple", "(LExactFractions$Whole;JI)V"⟩, 2), (⟨"ExactFractions", "alignTops", "(I)V"⟩, 4), (⟨"ExactFractions", "roundedSize", "(LExactFractions$Fraction;Z)J"⟩, 4), (⟨"ExactFractions", "layOut", "(LExactFractions$Fraction;)I"⟩, 4), (⟨"ExactFractions", "quotient", "(I)J"⟩, 4), (⟨"ExactFractionsModel", "numberOf", "(I)LExactFractionsModel$Num;"⟩, 7), (⟨"ExactFractionsModel", "partOf", "(II)LExactFractionsModel$Big;"⟩, 7), (⟨"ExactFractionsModel$Big", "trim", "()V"⟩, 2), (⟨"ExactFractionsModel", "orderOf", "(LExactFractionsModel$Num;LExactFractionsModel$Num;)I"⟩, 7)]
theorem lw_r1 : ∀ q ∈ lw_privs_1, lw_okq q := List.forall_mem_cons.mpr ⟨lw_p0, List.forall_mem_cons.mpr ⟨lw_p1, List.forall_mem_cons.mpr ⟨lw_p2, List.forall_mem_cons.mpr ⟨lw_p3, List.forall_mem_cons.mpr ⟨lw_p4, List.forall_mem_cons.mpr ⟨lw_p5, List.forall_mem_cons.mpr ⟨lw_p6, List.forall_mem_cons.mpr ⟨lw_p7, List.forall_mem_cons.mpr ⟨lw_p8, List.forall_mem_cons.mpr ⟨lw_p9, List.forall_mem_cons.mpr ⟨lw_p10, List.forall_mem_cons.mpr ⟨lw_p11, List.forall_mem_cons.mpr ⟨lw_p12, List.forall_mem_cons.mpr ⟨lw_p13, List.forall_mem_cons.mpr ⟨lw_p14, List.forall_mem_cons.mpr ⟨lw_p15, fun _ h => absurd h List.not_mem_nil⟩⟩⟩⟩⟩⟩⟩⟩⟩⟩⟩⟩⟩⟩⟩⟩
theorem lw_p16 : lw_okq (⟨"ExactFractionsModel", "compareSizes", "(LExactFractionsModel$Num;LExactFractionsModel$Num;)I"⟩, 7) := ⟨⟨by decide +kernel, by decide +kernel⟩, List.mem_of_getElem? (i := 236) (by decide +kernel), List.mem_of_getElem? (i := 400) (by decide +kernel), List.mem_of_getElem? (i := 401) (by decide +kernel)⟩
theorem lw_p17 : lw_okq (⟨"ExactFractionsModel", "up", "(LExactFractionsModel$Num;)J"⟩, 7) := ⟨⟨by decide +kernel, by decide +kernel⟩, List.mem_of_getElem? (i := 236) (by decide +kernel), List.mem_of_getElem? (i := 422) (by decide +kernel), List.mem_of_getElem? (i := 423) (by decide +kernel)⟩
theorem lw_p18 : lw_okq (⟨"ExactFractionsModel", "down", "(LExactFractionsModel$Num;)J"⟩, 7) := ⟨⟨by decide +kernel, by decide +kernel⟩, List.mem_of_getElem? (i := 236) (by decide +kernel), List.mem_of_getElem? (i := 431) (by decide +kernel), List.mem_of_getElem? (i := 432) (by decide +kernel)⟩
def lw_privs_2 : List (MethodName × Nat) := [(⟨"ExactFractionsModel", "compareSizes", "(LExactFractionsModel$Num;LExactFractionsModel$Num;)I"⟩, 7), (⟨"ExactFractionsModel", "up", "(LExactFractionsModel$Num;)J"⟩, 7), (⟨"ExactFractionsModel", "down", "(LExactFractionsModel$Num;)J"⟩, 7)]
theorem lw_r2 : ∀ q ∈ lw_privs_2, lw_okq q := List.forall_mem_cons.mpr ⟨lw_p16, List.forall_mem_cons.mpr ⟨lw_p17, List.forall_mem_cons.mpr ⟨lw_p18, fun _ h => absurd h List.not_mem_nil⟩⟩⟩
def lw_privs : List (MethodName × Nat) := lw_privs_1 ++ (lw_privs_2)
def lw_tbl : List Cond := k2_sels lw_privs ++ tables_1
theorem lw_privs_ok : ∀ q ∈ lw_privs, lw_okq q := by
  show ∀ q ∈ lw_privs_1 ++ (lw_privs_2), lw_okq q
  exact List.forall_mem_append.mpr ⟨lw_r1, lw_r2⟩
end
section
/-! ===== BEGIN words of one list among another's, by their places ===== -/
theorem goodIn_r {big : List Cond} (ws : List Cond) (ps : List Nat) (hp : ws = ps.filterMap (fun i => big[i]?)) (h : ws.all goodWord = true) : GoodIn big ws := by
  intro w hw
  have h1 := List.all_eq_true.mp h w hw
  rw [hp] at hw
  obtain ⟨i, -, hi⟩ := List.mem_filterMap.mp hw
  have hm : w ∈ big := by first | exact List.mem_of_getElem? hi | exact List.getElem?_mem hi
  exact ⟨hm, good_of_word h1⟩
theorem goodIn_app {big a b : List Cond} (ha : GoodIn big a) (hb : GoodIn big b) : GoodIn big (a ++ b) := fun w h => (List.mem_append.mp h).elim (ha w) (hb w)
theorem goodIn_ca {big a b : List Cond} {c : Cond} (ha : GoodIn big (c :: a)) (hb : GoodIn big b) : GoodIn big (c :: (a ++ b)) := fun w h => (List.mem_cons.mp h).elim (fun e => ha w (List.mem_cons.mpr (Or.inl e))) (fun h => (List.mem_append.mp h).elim (fun h => ha w (List.mem_cons.mpr (Or.inr h))) (hb w))
theorem goodIn_sub {big ws : List Cond} (hm : ∀ w ∈ ws, w ∈ big) (h : ws.all goodWord = true) : GoodIn big ws := fun w hw => ⟨hm w hw, good_of_word (List.all_eq_true.mp h w hw)⟩
/-! ===== END ===== -/

/-! ===== BEGIN printed: names, fields, word lists, decode rows ===== -/
def RX0 : String := "ExactFractions$Fraction"
def TX0 : u_T := fun k => match k with
  | 0 => ("ExactFractions$Fraction", "above", "LExactFractions$Whole;", false)
  | 1 => ("ExactFractions$Fraction", "under", "LExactFractions$Whole;", false)
  | 2 => ("ExactFractions$Fraction", "below", "Z", false)
  | _ => ("ExactFractions$Fraction", "exponent", "I", false)
def tyX0 : Nat → FieldType := fun k => match k with
  | 0 => .object "ExactFractions$Whole"
  | 1 => .object "ExactFractions$Whole"
  | 2 => .boolean
  | _ => .int
abbrev wsX00 : List Cond := u_ws RX0 TX0 4
theorem nmX0 : ∀ a, a < 4 → ∀ b, b < 4 → a ≠ b → (TX0 a).2.1 ≠ (TX0 b).2.1 := by decide +kernel
theorem tyX0_ok : ∀ k, k < 4 → parseFieldDescriptor (TX0 k).2.2.1 = some (tyX0 k) := by decide +kernel
abbrev cX0_init : ByteArray := prog_2_method_1_code
def yX0_init : MethodName := ⟨RX0, "<init>", "()V"⟩
abbrev cX0_restart : ByteArray := prog_2_method_2_code
def yX0_restart : MethodName := ⟨RX0, "restart", "()V"⟩
abbrev cX0_flip : ByteArray := prog_2_method_3_code
def yX0_flip : MethodName := ⟨RX0, "flip", "()V"⟩
abbrev cX0_sign : ByteArray := prog_2_method_4_code
def yX0_sign : MethodName := ⟨RX0, "sign", "()I"⟩
abbrev cX0_rank : ByteArray := prog_2_method_5_code
def yX0_rank : MethodName := ⟨RX0, "rank", "()I"⟩
def RX1 : String := "ExactFractions$Whole"
def TX1 : u_T := fun k => match k with
  | 0 => ("ExactFractions$Whole", "words", "[I", true)
  | _ => ("ExactFractions$Whole", "used", "I", false)
def tyX1 : Nat → FieldType := fun k => match k with
  | 0 => .array .int
  | _ => .int
abbrev wsX10 : List Cond := u_ws RX1 TX1 2
theorem nmX1 : ∀ a, a < 2 → ∀ b, b < 2 → a ≠ b → (TX1 a).2.1 ≠ (TX1 b).2.1 := by decide +kernel
theorem tyX1_ok : ∀ k, k < 2 → parseFieldDescriptor (TX1 k).2.2.1 = some (tyX1 k) := by decide +kernel
abbrev cX1_init : ByteArray := prog_3_method_1_code
def yX1_init : MethodName := ⟨RX1, "<init>", "()V"⟩
abbrev cX1_wordAt : ByteArray := prog_3_method_2_code
def yX1_wordAt : MethodName := ⟨RX1, "wordAt", "(I)I"⟩
abbrev cX1_valueAt : ByteArray := prog_3_method_3_code
def yX1_valueAt : MethodName := ⟨RX1, "valueAt", "(I)J"⟩
abbrev cX1_put : ByteArray := prog_3_method_4_code
def yX1_put : MethodName := ⟨RX1, "put", "(IJ)V"⟩
abbrev cX1_settle : ByteArray := prog_3_method_5_code
def yX1_settle : MethodName := ⟨RX1, "settle", "(I)V"⟩
abbrev cX1_isZero : ByteArray := prog_3_method_6_code
def yX1_isZero : MethodName := ⟨RX1, "isZero", "()Z"⟩
abbrev cX1_length : ByteArray := prog_3_method_7_code
def yX1_length : MethodName := ⟨RX1, "length", "()I"⟩
abbrev cX1_order : ByteArray := prog_3_method_8_code
def yX1_order : MethodName := ⟨RX1, "order", "(LExactFractions$Whole;)I"⟩
abbrev cX1_become : ByteArray := prog_3_method_9_code
def yX1_become : MethodName := ⟨RX1, "become", "(J)V"⟩
abbrev cX1_copy : ByteArray := prog_3_method_10_code
def yX1_copy : MethodName := ⟨RX1, "copy", "(LExactFractions$Whole;)V"⟩
abbrev cX1_becomeMultiple : ByteArray := prog_3_method_11_code
def yX1_becomeMultiple : MethodName := ⟨RX1, "becomeMultiple", "(LExactFractions$Whole;II)V"⟩
abbrev cX1_becomeSum : ByteArray := prog_3_method_12_code
def yX1_becomeSum : MethodName := ⟨RX1, "becomeSum", "(LExactFractions$Whole;LExactFractions$Whole;)V"⟩
abbrev cX1_becomeDifference : ByteArray := prog_3_method_13_code
def yX1_becomeDifference : MethodName := ⟨RX1, "becomeDifference", "(LExactFractions$Whole;LExactFractions$Whole;)V"⟩
abbrev cX1_becomeProduct : ByteArray := prog_3_method_14_code
def yX1_becomeProduct : MethodName := ⟨RX1, "becomeProduct", "(LExactFractions$Whole;LExactFractions$Whole;)V"⟩
abbrev cX1_addMultiple : ByteArray := prog_3_method_15_code
def yX1_addMultiple : MethodName := ⟨RX1, "addMultiple", "(LExactFractions$Whole;JI)V"⟩
abbrev cX1_shiftUp : ByteArray := prog_3_method_16_code
def yX1_shiftUp : MethodName := ⟨RX1, "shiftUp", "(I)V"⟩
def RX2 : String := "ExactFractions"
def TX2 : u_T := fun k => match k with
  | 0 => ("ExactFractions", "first", "LExactFractions$Fraction;", true)
  | 1 => ("ExactFractions", "second", "LExactFractions$Fraction;", true)
  | 2 => ("ExactFractions", "left", "LExactFractions$Whole;", true)
  | _ => ("ExactFractions", "right", "LExactFractions$Whole;", true)
def tyX2 : Nat → FieldType := fun k => match k with
  | 0 => .object "ExactFractions$Fraction"
  | 1 => .object "ExactFractions$Fraction"
  | 2 => .object "ExactFractions$Whole"
  | _ => .object "ExactFractions$Whole"
abbrev wsX20 : List Cond := u_ws RX2 TX2 4
theorem nmX2 : ∀ a, a < 4 → ∀ b, b < 4 → a ≠ b → (TX2 a).2.1 ≠ (TX2 b).2.1 := by decide +kernel
theorem tyX2_ok : ∀ k, k < 4 → parseFieldDescriptor (TX2 k).2.2.1 = some (tyX2 k) := by decide +kernel
abbrev cX2_init : ByteArray := prog_1_method_1_code
def yX2_init : MethodName := ⟨RX2, "<init>", "()V"⟩
abbrev cX2_begin : ByteArray := prog_1_method_2_code
def yX2_begin : MethodName := ⟨RX2, "begin", "(I)I"⟩
abbrev cX2_digit : ByteArray := prog_1_method_3_code
def yX2_digit : MethodName := ⟨RX2, "digit", "(IIII)I"⟩
abbrev cX2_set : ByteArray := prog_1_method_4_code
def yX2_set : MethodName := ⟨RX2, "set", "(IIJ)I"⟩
abbrev cX2_scale : ByteArray := prog_1_method_5_code
def yX2_scale : MethodName := ⟨RX2, "scale", "(IZI)I"⟩
abbrev cX2_turn : ByteArray := prog_1_method_6_code
def yX2_turn : MethodName := ⟨RX2, "turn", "(I)I"⟩
abbrev cX2_move : ByteArray := prog_1_method_7_code
def yX2_move : MethodName := ⟨RX2, "move", "(IZ)I"⟩
abbrev cX2_bits : ByteArray := prog_1_method_8_code
def yX2_bits : MethodName := ⟨RX2, "bits", "(II)I"⟩
abbrev cX2_word : ByteArray := prog_1_method_9_code
def yX2_word : MethodName := ⟨RX2, "word", "(III)I"⟩
abbrev cX2_compare : ByteArray := prog_1_method_10_code
def yX2_compare : MethodName := ⟨RX2, "compare", "()I"⟩
abbrev cX2_round : ByteArray := prog_1_method_11_code
def yX2_round : MethodName := ⟨RX2, "round", "(IZ)J"⟩
abbrev cX2_numberOf : ByteArray := prog_1_method_12_code
def yX2_numberOf : MethodName := ⟨RX2, "numberOf", "(I)LExactFractions$Fraction;"⟩
abbrev cX2_partOf : ByteArray := prog_1_method_13_code
def yX2_partOf : MethodName := ⟨RX2, "partOf", "(II)LExactFractions$Whole;"⟩
abbrev cX2_keepLeftIn : ByteArray := prog_1_method_14_code
def yX2_keepLeftIn : MethodName := ⟨RX2, "keepLeftIn", "(LExactFractions$Whole;)I"⟩
abbrev cX2_orderOfSizes : ByteArray := prog_1_method_15_code
def yX2_orderOfSizes : MethodName := ⟨RX2, "orderOfSizes", "()I"⟩
abbrev cX2_alignTops : ByteArray := prog_1_method_16_code
def yX2_alignTops : MethodName := ⟨RX2, "alignTops", "(I)V"⟩
abbrev cX2_roundedSize : ByteArray := prog_1_method_17_code
def yX2_roundedSize : MethodName := ⟨RX2, "roundedSize", "(LExactFractions$Fraction;Z)J"⟩
abbrev cX2_layOut : ByteArray := prog_1_method_18_code
def yX2_layOut : MethodName := ⟨RX2, "layOut", "(LExactFractions$Fraction;)I"⟩
abbrev cX2_quotient : ByteArray := prog_1_method_19_code
def yX2_quotient : MethodName := ⟨RX2, "quotient", "(I)J"⟩
def RJ9 : String := "java/lang/Math"
def TJ9 : u_T := fun k => match k with
  | _ => ("", "", "", false)
def tyJ9 : Nat → FieldType := fun k => match k with
  | _ => .int
theorem nmJ9 : ∀ a, a < 0 → ∀ b, b < 0 → a ≠ b → (TJ9 a).2.1 ≠ (TJ9 b).2.1 := by decide +kernel
theorem tyJ9_ok : ∀ k, k < 0 → parseFieldDescriptor (TJ9 k).2.2.1 = some (tyJ9 k) := by decide +kernel
abbrev cJ9_max_7cf53 : ByteArray := prog_8_method_65_code
def yJ9_max_7cf53 : MethodName := ⟨RJ9, "max", "(II)I"⟩
abbrev cJ9_min_7cf53 : ByteArray := prog_8_method_69_code
def yJ9_min_7cf53 : MethodName := ⟨RJ9, "min", "(II)I"⟩
def RL : String := "ExactFractionsLaw"
abbrev cL_law : ByteArray := code
def yL_law : MethodName := ⟨RL, "law", "([I)Z"⟩
def wsX1_init : List Cond := .code yX1_init cX1_init 1 none :: ([.methodLink RX1 3 objectInit, .instanceMethod objectInit, .code objectInit ⟨#[0xb1]⟩ 1 none, .arrayClass .int, .fieldLink RX1 9 "ExactFractions$Whole" "words" "[I", .fieldLink RX1 15 "ExactFractions$Whole" "used" "I"] ++ wsX10)
def wsX1_put : List Cond := .code yX1_put cX1_put 4 none :: ([.fieldLink RX1 9 "ExactFractions$Whole" "words" "[I"] ++ wsX10)
def wsX1_wordAt : List Cond := .code yX1_wordAt cX1_wordAt 2 (some .int) :: ([.fieldLink RX1 9 "ExactFractions$Whole" "words" "[I"] ++ wsX10)
def wsX1_settle : List Cond := .code yX1_settle cX1_settle 3 none :: ([.fieldLink RX1 15 "ExactFractions$Whole" "used" "I", .fieldLink RX1 9 "ExactFractions$Whole" "words" "[I", .methodLink RX1 29 Lib.Math.min.name, .static Lib.Math.min.name, .initialized "java/lang/Math", .code Lib.Math.min.name Lib.Math.min.code 2 (some .int), .methodLink RX1 25 yX1_put, .instanceMethod yX1_put, .selects RX1 yX1_put yX1_put, .initialized RX1, .code yX1_put cX1_put 4 none, .methodLink RX1 19 yX1_wordAt, .instanceMethod yX1_wordAt, .selects RX1 yX1_wordAt yX1_wordAt, .code yX1_wordAt cX1_wordAt 2 (some .int)] ++ wsX10)
def wsX1_become : List Cond := .code yX1_become cX1_become 3 none :: ([.methodLink RX1 25 yX1_put, .instanceMethod yX1_put, .selects RX1 yX1_put yX1_put, .initialized RX1, .code yX1_put cX1_put 4 none, .fieldLink RX1 9 "ExactFractions$Whole" "words" "[I", .methodLink RX1 46 yX1_settle, .instanceMethod yX1_settle, .selects RX1 yX1_settle yX1_settle, .code yX1_settle cX1_settle 3 none, .fieldLink RX1 15 "ExactFractions$Whole" "used" "I", .methodLink RX1 29 Lib.Math.min.name, .static Lib.Math.min.name, .initialized "java/lang/Math", .code Lib.Math.min.name Lib.Math.min.code 2 (some .int), .methodLink RX1 19 yX1_wordAt, .instanceMethod yX1_wordAt, .selects RX1 yX1_wordAt yX1_wordAt, .code yX1_wordAt cX1_wordAt 2 (some .int)] ++ wsX10)
def wsX0_restart_r1 : List Cond := [Cond.fieldLink RX0 10 "ExactFractions$Fraction" "above" "LExactFractions$Whole;", Cond.fieldLink RX0 16 "ExactFractions$Fraction" "under" "LExactFractions$Whole;", Cond.fieldLink RX0 26 "ExactFractions$Fraction" "below" "Z", Cond.fieldLink RX0 30 "ExactFractions$Fraction" "exponent" "I", Cond.methodLink RX0 22 yX1_become, Cond.instanceMethod yX1_become, Cond.selects RX1 yX1_become yX1_become, Cond.initialized RX1, Cond.code yX1_become cX1_become 3 none, Cond.methodLink RX1 25 yX1_put, Cond.instanceMethod yX1_put, Cond.selects RX1 yX1_put yX1_put, Cond.code yX1_put cX1_put 4 none, Cond.fieldLink RX1 9 "ExactFractions$Whole" "words" "[I", Cond.methodLink RX1 46 yX1_settle, Cond.instanceMethod yX1_settle, Cond.selects RX1 yX1_settle yX1_settle, Cond.code yX1_settle cX1_settle 3 none, Cond.fieldLink RX1 15 "ExactFractions$Whole" "used" "I", Cond.methodLink RX1 29 Lib.Math.min.name, Cond.static Lib.Math.min.name, Cond.initialized "java/lang/Math", Cond.code Lib.Math.min.name Lib.Math.min.code 2 (some .int), Cond.methodLink RX1 19 yX1_wordAt]
def wsX0_restart_r2 : List Cond := [Cond.instanceMethod yX1_wordAt, Cond.selects RX1 yX1_wordAt yX1_wordAt, Cond.code yX1_wordAt cX1_wordAt 2 (some .int)]
def wsX0_restart : List Cond := .code yX0_restart cX0_restart 1 none :: ((wsX0_restart_r1 ++ wsX0_restart_r2) ++ wsX00 ++ wsX10)
def wsX0_init_r1 : List Cond := [Cond.methodLink RX0 1 objectInit, Cond.instanceMethod objectInit, Cond.code objectInit ⟨#[0xb1]⟩ 1 none, Cond.classLink RX0 7 RX1, Cond.instantiable RX1 2, Cond.initialized RX1, Cond.fieldLink RX0 10 "ExactFractions$Fraction" "above" "LExactFractions$Whole;", Cond.fieldLink RX0 16 "ExactFractions$Fraction" "under" "LExactFractions$Whole;", Cond.methodLink RX0 9 yX1_init, Cond.instanceMethod yX1_init, Cond.code yX1_init cX1_init 1 none, Cond.methodLink RX1 3 objectInit, Cond.arrayClass .int, Cond.fieldLink RX1 9 "ExactFractions$Whole" "words" "[I", Cond.fieldLink RX1 15 "ExactFractions$Whole" "used" "I", Cond.methodLink RX0 19 yX0_restart, Cond.instanceMethod yX0_restart, Cond.selects RX0 yX0_restart yX0_restart, Cond.initialized RX0, Cond.code yX0_restart cX0_restart 1 none, Cond.fieldLink RX0 26 "ExactFractions$Fraction" "below" "Z", Cond.fieldLink RX0 30 "ExactFractions$Fraction" "exponent" "I", Cond.methodLink RX0 22 yX1_become, Cond.instanceMethod yX1_become]
def wsX0_init_r2 : List Cond := [Cond.selects RX1 yX1_become yX1_become, Cond.code yX1_become cX1_become 3 none, Cond.methodLink RX1 25 yX1_put, Cond.instanceMethod yX1_put, Cond.selects RX1 yX1_put yX1_put, Cond.code yX1_put cX1_put 4 none, Cond.methodLink RX1 46 yX1_settle, Cond.instanceMethod yX1_settle, Cond.selects RX1 yX1_settle yX1_settle, Cond.code yX1_settle cX1_settle 3 none, Cond.methodLink RX1 29 Lib.Math.min.name, Cond.static Lib.Math.min.name, Cond.initialized "java/lang/Math", Cond.code Lib.Math.min.name Lib.Math.min.code 2 (some .int), Cond.methodLink RX1 19 yX1_wordAt, Cond.instanceMethod yX1_wordAt, Cond.selects RX1 yX1_wordAt yX1_wordAt, Cond.code yX1_wordAt cX1_wordAt 2 (some .int)]
def wsX0_init : List Cond := .code yX0_init cX0_init 1 none :: ((wsX0_init_r1 ++ wsX0_init_r2) ++ wsX10 ++ wsX00)
def wsX0_flip : List Cond := .code yX0_flip cX0_flip 2 none :: ([.fieldLink RX0 10 "ExactFractions$Fraction" "above" "LExactFractions$Whole;", .fieldLink RX0 16 "ExactFractions$Fraction" "under" "LExactFractions$Whole;", .fieldLink RX0 30 "ExactFractions$Fraction" "exponent" "I"] ++ wsX00)
def wsX1_isZero : List Cond := .code yX1_isZero cX1_isZero 1 (some .boolean) :: ([.fieldLink RX1 15 "ExactFractions$Whole" "used" "I"] ++ wsX10)
def wsX0_sign : List Cond := .code yX0_sign cX0_sign 1 (some .int) :: ([.fieldLink RX0 10 "ExactFractions$Fraction" "above" "LExactFractions$Whole;", .fieldLink RX0 26 "ExactFractions$Fraction" "below" "Z", .methodLink RX0 34 yX1_isZero, .instanceMethod yX1_isZero, .selects RX1 yX1_isZero yX1_isZero, .initialized RX1, .code yX1_isZero cX1_isZero 1 (some .boolean), .fieldLink RX1 15 "ExactFractions$Whole" "used" "I"] ++ wsX00 ++ wsX10)
def wsX1_length : List Cond := .code yX1_length cX1_length 3 (some .int) :: ([.fieldLink RX1 15 "ExactFractions$Whole" "used" "I", .methodLink RX1 35 yX1_isZero, .instanceMethod yX1_isZero, .selects RX1 yX1_isZero yX1_isZero, .initialized RX1, .code yX1_isZero cX1_isZero 1 (some .boolean), .methodLink RX1 19 yX1_wordAt, .instanceMethod yX1_wordAt, .selects RX1 yX1_wordAt yX1_wordAt, .code yX1_wordAt cX1_wordAt 2 (some .int), .fieldLink RX1 9 "ExactFractions$Whole" "words" "[I"] ++ wsX10)
def wsX0_rank : List Cond := .code yX0_rank cX0_rank 1 (some .int) :: ([.fieldLink RX0 10 "ExactFractions$Fraction" "above" "LExactFractions$Whole;", .fieldLink RX0 16 "ExactFractions$Fraction" "under" "LExactFractions$Whole;", .fieldLink RX0 30 "ExactFractions$Fraction" "exponent" "I", .methodLink RX0 38 yX1_length, .instanceMethod yX1_length, .selects RX1 yX1_length yX1_length, .initialized RX1, .code yX1_length cX1_length 3 (some .int), .fieldLink RX1 15 "ExactFractions$Whole" "used" "I", .methodLink RX1 35 yX1_isZero, .instanceMethod yX1_isZero, .selects RX1 yX1_isZero yX1_isZero, .code yX1_isZero cX1_isZero 1 (some .boolean), .methodLink RX1 19 yX1_wordAt, .instanceMethod yX1_wordAt, .selects RX1 yX1_wordAt yX1_wordAt, .code yX1_wordAt cX1_wordAt 2 (some .int), .fieldLink RX1 9 "ExactFractions$Whole" "words" "[I"] ++ wsX00 ++ wsX10)
def wsX1_valueAt : List Cond := .code yX1_valueAt cX1_valueAt 2 (some .long) :: ([.constantLong RX1 23 (4294967295), .methodLink RX1 19 yX1_wordAt, .instanceMethod yX1_wordAt, .selects RX1 yX1_wordAt yX1_wordAt, .initialized RX1, .code yX1_wordAt cX1_wordAt 2 (some .int), .fieldLink RX1 9 "ExactFractions$Whole" "words" "[I"] ++ wsX10)
def wsX1_order : List Cond := .code yX1_order cX1_order 5 (some .int) :: ([.fieldLink RX1 15 "ExactFractions$Whole" "used" "I", .methodLink RX1 39 Lib.Math.max.name, .static Lib.Math.max.name, .initialized "java/lang/Math", .code Lib.Math.max.name Lib.Math.max.code 2 (some .int), .methodLink RX1 42 yX1_valueAt, .instanceMethod yX1_valueAt, .selects RX1 yX1_valueAt yX1_valueAt, .initialized RX1, .code yX1_valueAt cX1_valueAt 2 (some .long), .constantLong RX1 23 (4294967295), .methodLink RX1 19 yX1_wordAt, .instanceMethod yX1_wordAt, .selects RX1 yX1_wordAt yX1_wordAt, .code yX1_wordAt cX1_wordAt 2 (some .int), .fieldLink RX1 9 "ExactFractions$Whole" "words" "[I"] ++ wsX10)
def wsX1_copy : List Cond := .code yX1_copy cX1_copy 3 none :: ([.fieldLink RX1 15 "ExactFractions$Whole" "used" "I", .methodLink RX1 19 yX1_wordAt, .instanceMethod yX1_wordAt, .selects RX1 yX1_wordAt yX1_wordAt, .initialized RX1, .code yX1_wordAt cX1_wordAt 2 (some .int), .fieldLink RX1 9 "ExactFractions$Whole" "words" "[I", .methodLink RX1 25 yX1_put, .instanceMethod yX1_put, .selects RX1 yX1_put yX1_put, .code yX1_put cX1_put 4 none, .methodLink RX1 46 yX1_settle, .instanceMethod yX1_settle, .selects RX1 yX1_settle yX1_settle, .code yX1_settle cX1_settle 3 none, .methodLink RX1 29 Lib.Math.min.name, .static Lib.Math.min.name, .initialized "java/lang/Math", .code Lib.Math.min.name Lib.Math.min.code 2 (some .int)] ++ wsX10)
def wsX1_becomeMultiple : List Cond := .code yX1_becomeMultiple cX1_becomeMultiple 7 none :: ([.fieldLink RX1 15 "ExactFractions$Whole" "used" "I", .methodLink RX1 42 yX1_valueAt, .instanceMethod yX1_valueAt, .selects RX1 yX1_valueAt yX1_valueAt, .initialized RX1, .code yX1_valueAt cX1_valueAt 2 (some .long), .constantLong RX1 23 (4294967295), .methodLink RX1 19 yX1_wordAt, .instanceMethod yX1_wordAt, .selects RX1 yX1_wordAt yX1_wordAt, .code yX1_wordAt cX1_wordAt 2 (some .int), .fieldLink RX1 9 "ExactFractions$Whole" "words" "[I", .methodLink RX1 25 yX1_put, .instanceMethod yX1_put, .selects RX1 yX1_put yX1_put, .code yX1_put cX1_put 4 none, .methodLink RX1 46 yX1_settle, .instanceMethod yX1_settle, .selects RX1 yX1_settle yX1_settle, .code yX1_settle cX1_settle 3 none, .methodLink RX1 29 Lib.Math.min.name, .static Lib.Math.min.name, .initialized "java/lang/Math", .code Lib.Math.min.name Lib.Math.min.code 2 (some .int)] ++ wsX10)
def wsX1_becomeSum_r1 : List Cond := [Cond.fieldLink RX1 15 "ExactFractions$Whole" "used" "I", Cond.methodLink RX1 39 Lib.Math.max.name, Cond.static Lib.Math.max.name, Cond.initialized "java/lang/Math", Cond.code Lib.Math.max.name Lib.Math.max.code 2 (some .int), Cond.methodLink RX1 42 yX1_valueAt, Cond.instanceMethod yX1_valueAt, Cond.selects RX1 yX1_valueAt yX1_valueAt, Cond.initialized RX1, Cond.code yX1_valueAt cX1_valueAt 2 (some .long), Cond.constantLong RX1 23 (4294967295), Cond.methodLink RX1 19 yX1_wordAt, Cond.instanceMethod yX1_wordAt, Cond.selects RX1 yX1_wordAt yX1_wordAt, Cond.code yX1_wordAt cX1_wordAt 2 (some .int), Cond.fieldLink RX1 9 "ExactFractions$Whole" "words" "[I", Cond.methodLink RX1 25 yX1_put, Cond.instanceMethod yX1_put, Cond.selects RX1 yX1_put yX1_put, Cond.code yX1_put cX1_put 4 none, Cond.methodLink RX1 46 yX1_settle, Cond.instanceMethod yX1_settle, Cond.selects RX1 yX1_settle yX1_settle, Cond.code yX1_settle cX1_settle 3 none]
def wsX1_becomeSum_r2 : List Cond := [Cond.methodLink RX1 29 Lib.Math.min.name, Cond.static Lib.Math.min.name, Cond.code Lib.Math.min.name Lib.Math.min.code 2 (some .int)]
def wsX1_becomeSum : List Cond := .code yX1_becomeSum cX1_becomeSum 7 none :: ((wsX1_becomeSum_r1 ++ wsX1_becomeSum_r2) ++ wsX10)
def wsX1_becomeDifference : List Cond := .code yX1_becomeDifference cX1_becomeDifference 6 none :: ([.fieldLink RX1 15 "ExactFractions$Whole" "used" "I", .methodLink RX1 42 yX1_valueAt, .instanceMethod yX1_valueAt, .selects RX1 yX1_valueAt yX1_valueAt, .initialized RX1, .code yX1_valueAt cX1_valueAt 2 (some .long), .constantLong RX1 23 (4294967295), .methodLink RX1 19 yX1_wordAt, .instanceMethod yX1_wordAt, .selects RX1 yX1_wordAt yX1_wordAt, .code yX1_wordAt cX1_wordAt 2 (some .int), .fieldLink RX1 9 "ExactFractions$Whole" "words" "[I", .methodLink RX1 25 yX1_put, .instanceMethod yX1_put, .selects RX1 yX1_put yX1_put, .code yX1_put cX1_put 4 none, .methodLink RX1 46 yX1_settle, .instanceMethod yX1_settle, .selects RX1 yX1_settle yX1_settle, .code yX1_settle cX1_settle 3 none, .methodLink RX1 29 Lib.Math.min.name, .static Lib.Math.min.name, .initialized "java/lang/Math", .code Lib.Math.min.name Lib.Math.min.code 2 (some .int)] ++ wsX10)
def wsX1_addMultiple : List Cond := .code yX1_addMultiple cX1_addMultiple 8 none :: ([.fieldLink RX1 15 "ExactFractions$Whole" "used" "I", .methodLink RX1 42 yX1_valueAt, .instanceMethod yX1_valueAt, .selects RX1 yX1_valueAt yX1_valueAt, .initialized RX1, .code yX1_valueAt cX1_valueAt 2 (some .long), .constantLong RX1 23 (4294967295), .methodLink RX1 19 yX1_wordAt, .instanceMethod yX1_wordAt, .selects RX1 yX1_wordAt yX1_wordAt, .code yX1_wordAt cX1_wordAt 2 (some .int), .fieldLink RX1 9 "ExactFractions$Whole" "words" "[I", .methodLink RX1 25 yX1_put, .instanceMethod yX1_put, .selects RX1 yX1_put yX1_put, .code yX1_put cX1_put 4 none] ++ wsX10)
def wsX1_becomeProduct_r1 : List Cond := [Cond.fieldLink RX1 15 "ExactFractions$Whole" "used" "I", Cond.methodLink RX1 46 yX1_settle, Cond.instanceMethod yX1_settle, Cond.selects RX1 yX1_settle yX1_settle, Cond.initialized RX1, Cond.code yX1_settle cX1_settle 3 none, Cond.fieldLink RX1 9 "ExactFractions$Whole" "words" "[I", Cond.methodLink RX1 29 Lib.Math.min.name, Cond.static Lib.Math.min.name, Cond.initialized "java/lang/Math", Cond.code Lib.Math.min.name Lib.Math.min.code 2 (some .int), Cond.methodLink RX1 25 yX1_put, Cond.instanceMethod yX1_put, Cond.selects RX1 yX1_put yX1_put, Cond.code yX1_put cX1_put 4 none, Cond.methodLink RX1 19 yX1_wordAt, Cond.instanceMethod yX1_wordAt, Cond.selects RX1 yX1_wordAt yX1_wordAt, Cond.code yX1_wordAt cX1_wordAt 2 (some .int), Cond.methodLink RX1 42 yX1_valueAt, Cond.instanceMethod yX1_valueAt, Cond.selects RX1 yX1_valueAt yX1_valueAt, Cond.code yX1_valueAt cX1_valueAt 2 (some .long), Cond.constantLong RX1 23 (4294967295)]
def wsX1_becomeProduct_r2 : List Cond := [Cond.methodLink RX1 50 yX1_addMultiple, Cond.instanceMethod yX1_addMultiple, Cond.selects RX1 yX1_addMultiple yX1_addMultiple, Cond.code yX1_addMultiple cX1_addMultiple 8 none]
def wsX1_becomeProduct : List Cond := .code yX1_becomeProduct cX1_becomeProduct 4 none :: ((wsX1_becomeProduct_r1 ++ wsX1_becomeProduct_r2) ++ wsX10)
def wsX1_shiftUp : List Cond := .code yX1_shiftUp cX1_shiftUp 8 none :: ([.fieldLink RX1 15 "ExactFractions$Whole" "used" "I", .methodLink RX1 42 yX1_valueAt, .instanceMethod yX1_valueAt, .selects RX1 yX1_valueAt yX1_valueAt, .initialized RX1, .code yX1_valueAt cX1_valueAt 2 (some .long), .constantLong RX1 23 (4294967295), .methodLink RX1 19 yX1_wordAt, .instanceMethod yX1_wordAt, .selects RX1 yX1_wordAt yX1_wordAt, .code yX1_wordAt cX1_wordAt 2 (some .int), .fieldLink RX1 9 "ExactFractions$Whole" "words" "[I", .methodLink RX1 25 yX1_put, .instanceMethod yX1_put, .selects RX1 yX1_put yX1_put, .code yX1_put cX1_put 4 none, .methodLink RX1 46 yX1_settle, .instanceMethod yX1_settle, .selects RX1 yX1_settle yX1_settle, .code yX1_settle cX1_settle 3 none, .methodLink RX1 29 Lib.Math.min.name, .static Lib.Math.min.name, .initialized "java/lang/Math", .code Lib.Math.min.name Lib.Math.min.code 2 (some .int)] ++ wsX10)
def wsX2_init_r1 : List Cond := [Cond.methodLink RX2 3 objectInit, Cond.instanceMethod objectInit, Cond.code objectInit ⟨#[0xb1]⟩ 1 none, Cond.classLink RX2 9 RX0, Cond.instantiable RX0 4, Cond.initialized RX0, Cond.fieldLink RX2 12 "ExactFractions" "first" "LExactFractions$Fraction;", Cond.fieldLink RX2 16 "ExactFractions" "second" "LExactFractions$Fraction;", Cond.classLink RX2 19 RX1, Cond.instantiable RX1 2, Cond.initialized RX1, Cond.fieldLink RX2 22 "ExactFractions" "left" "LExactFractions$Whole;", Cond.fieldLink RX2 26 "ExactFractions" "right" "LExactFractions$Whole;", Cond.methodLink RX2 11 yX0_init, Cond.instanceMethod yX0_init, Cond.code yX0_init cX0_init 1 none, Cond.methodLink RX0 1 objectInit, Cond.classLink RX0 7 RX1, Cond.fieldLink RX0 10 "ExactFractions$Fraction" "above" "LExactFractions$Whole;", Cond.fieldLink RX0 16 "ExactFractions$Fraction" "under" "LExactFractions$Whole;", Cond.methodLink RX0 9 yX1_init, Cond.instanceMethod yX1_init, Cond.code yX1_init cX1_init 1 none, Cond.methodLink RX1 3 objectInit]
def wsX2_init_r2 : List Cond := [Cond.arrayClass .int, Cond.fieldLink RX1 9 "ExactFractions$Whole" "words" "[I", Cond.fieldLink RX1 15 "ExactFractions$Whole" "used" "I", Cond.methodLink RX0 19 yX0_restart, Cond.instanceMethod yX0_restart, Cond.selects RX0 yX0_restart yX0_restart, Cond.code yX0_restart cX0_restart 1 none, Cond.fieldLink RX0 26 "ExactFractions$Fraction" "below" "Z", Cond.fieldLink RX0 30 "ExactFractions$Fraction" "exponent" "I", Cond.methodLink RX0 22 yX1_become, Cond.instanceMethod yX1_become, Cond.selects RX1 yX1_become yX1_become, Cond.code yX1_become cX1_become 3 none, Cond.methodLink RX1 25 yX1_put, Cond.instanceMethod yX1_put, Cond.selects RX1 yX1_put yX1_put, Cond.code yX1_put cX1_put 4 none, Cond.methodLink RX1 46 yX1_settle, Cond.instanceMethod yX1_settle, Cond.selects RX1 yX1_settle yX1_settle, Cond.code yX1_settle cX1_settle 3 none, Cond.methodLink RX1 29 Lib.Math.min.name, Cond.static Lib.Math.min.name, Cond.initialized "java/lang/Math"]
def wsX2_init_r3 : List Cond := [Cond.code Lib.Math.min.name Lib.Math.min.code 2 (some .int), Cond.methodLink RX1 19 yX1_wordAt, Cond.instanceMethod yX1_wordAt, Cond.selects RX1 yX1_wordAt yX1_wordAt, Cond.code yX1_wordAt cX1_wordAt 2 (some .int), Cond.methodLink RX2 21 yX1_init]
def wsX2_init : List Cond := .code yX2_init cX2_init 1 none :: ((wsX2_init_r1 ++ (wsX2_init_r2 ++ wsX2_init_r3)) ++ wsX00 ++ wsX20 ++ wsX10)
def wsX2_numberOf : List Cond := .code yX2_numberOf cX2_numberOf 2 (some (.object "ExactFractions$Fraction")) :: ([.fieldLink RX2 12 "ExactFractions" "first" "LExactFractions$Fraction;", .fieldLink RX2 16 "ExactFractions" "second" "LExactFractions$Fraction;"] ++ wsX20)
def wsX2_begin_r1 : List Cond := [Cond.methodLink RX2 29 yX2_numberOf, Cond.instanceMethod yX2_numberOf, Cond.selects RX2 yX2_numberOf yX2_numberOf, Cond.initialized RX2, Cond.code yX2_numberOf cX2_numberOf 2 (some (.object "ExactFractions$Fraction")), Cond.fieldLink RX2 12 "ExactFractions" "first" "LExactFractions$Fraction;", Cond.fieldLink RX2 16 "ExactFractions" "second" "LExactFractions$Fraction;", Cond.methodLink RX2 33 yX0_restart, Cond.instanceMethod yX0_restart, Cond.selects RX0 yX0_restart yX0_restart, Cond.initialized RX0, Cond.code yX0_restart cX0_restart 1 none, Cond.fieldLink RX0 10 "ExactFractions$Fraction" "above" "LExactFractions$Whole;", Cond.fieldLink RX0 16 "ExactFractions$Fraction" "under" "LExactFractions$Whole;", Cond.fieldLink RX0 26 "ExactFractions$Fraction" "below" "Z", Cond.fieldLink RX0 30 "ExactFractions$Fraction" "exponent" "I", Cond.methodLink RX0 22 yX1_become, Cond.instanceMethod yX1_become, Cond.selects RX1 yX1_become yX1_become, Cond.initialized RX1, Cond.code yX1_become cX1_become 3 none, Cond.methodLink RX1 25 yX1_put, Cond.instanceMethod yX1_put, Cond.selects RX1 yX1_put yX1_put]
def wsX2_begin_r2 : List Cond := [Cond.code yX1_put cX1_put 4 none, Cond.fieldLink RX1 9 "ExactFractions$Whole" "words" "[I", Cond.methodLink RX1 46 yX1_settle, Cond.instanceMethod yX1_settle, Cond.selects RX1 yX1_settle yX1_settle, Cond.code yX1_settle cX1_settle 3 none, Cond.fieldLink RX1 15 "ExactFractions$Whole" "used" "I", Cond.methodLink RX1 29 Lib.Math.min.name, Cond.static Lib.Math.min.name, Cond.initialized "java/lang/Math", Cond.code Lib.Math.min.name Lib.Math.min.code 2 (some .int), Cond.methodLink RX1 19 yX1_wordAt, Cond.instanceMethod yX1_wordAt, Cond.selects RX1 yX1_wordAt yX1_wordAt, Cond.code yX1_wordAt cX1_wordAt 2 (some .int)]
def wsX2_begin : List Cond := .code yX2_begin cX2_begin 3 (some .int) :: ((wsX2_begin_r1 ++ wsX2_begin_r2) ++ wsX20 ++ wsX00 ++ wsX10)
def wsX2_partOf : List Cond := .code yX2_partOf cX2_partOf 4 (some (.object "ExactFractions$Whole")) :: ([.fieldLink RX2 65 "ExactFractions$Fraction" "above" "LExactFractions$Whole;", .fieldLink RX2 103 "ExactFractions$Fraction" "under" "LExactFractions$Whole;", .methodLink RX2 29 yX2_numberOf, .instanceMethod yX2_numberOf, .selects RX2 yX2_numberOf yX2_numberOf, .initialized RX2, .code yX2_numberOf cX2_numberOf 2 (some (.object "ExactFractions$Fraction")), .fieldLink RX2 12 "ExactFractions" "first" "LExactFractions$Fraction;", .fieldLink RX2 16 "ExactFractions" "second" "LExactFractions$Fraction;"] ++ wsX00 ++ wsX20)
def wsX2_keepLeftIn_r1 : List Cond := [Cond.fieldLink RX2 22 "ExactFractions" "left" "LExactFractions$Whole;", Cond.methodLink RX2 53 yX1_length, Cond.instanceMethod yX1_length, Cond.selects RX1 yX1_length yX1_length, Cond.initialized RX1, Cond.code yX1_length cX1_length 3 (some .int), Cond.fieldLink RX1 15 "ExactFractions$Whole" "used" "I", Cond.methodLink RX1 35 yX1_isZero, Cond.instanceMethod yX1_isZero, Cond.selects RX1 yX1_isZero yX1_isZero, Cond.code yX1_isZero cX1_isZero 1 (some .boolean), Cond.methodLink RX1 19 yX1_wordAt, Cond.instanceMethod yX1_wordAt, Cond.selects RX1 yX1_wordAt yX1_wordAt, Cond.code yX1_wordAt cX1_wordAt 2 (some .int), Cond.fieldLink RX1 9 "ExactFractions$Whole" "words" "[I", Cond.methodLink RX2 106 yX1_copy, Cond.instanceMethod yX1_copy, Cond.selects RX1 yX1_copy yX1_copy, Cond.code yX1_copy cX1_copy 3 none, Cond.methodLink RX1 25 yX1_put, Cond.instanceMethod yX1_put, Cond.selects RX1 yX1_put yX1_put, Cond.code yX1_put cX1_put 4 none]
def wsX2_keepLeftIn_r2 : List Cond := [Cond.methodLink RX1 46 yX1_settle, Cond.instanceMethod yX1_settle, Cond.selects RX1 yX1_settle yX1_settle, Cond.code yX1_settle cX1_settle 3 none, Cond.methodLink RX1 29 Lib.Math.min.name, Cond.static Lib.Math.min.name, Cond.initialized "java/lang/Math", Cond.code Lib.Math.min.name Lib.Math.min.code 2 (some .int)]
def wsX2_keepLeftIn : List Cond := .code yX2_keepLeftIn cX2_keepLeftIn 2 (some .int) :: ((wsX2_keepLeftIn_r1 ++ wsX2_keepLeftIn_r2) ++ wsX20 ++ wsX10)
def wsX2_digit_r1 : List Cond := [Cond.constant RX2 40 (1000000), Cond.fieldLink RX2 22 "ExactFractions" "left" "LExactFractions$Whole;", Cond.methodLink RX2 36 yX2_partOf, Cond.instanceMethod yX2_partOf, Cond.selects RX2 yX2_partOf yX2_partOf, Cond.initialized RX2, Cond.code yX2_partOf cX2_partOf 4 (some (.object "ExactFractions$Whole")), Cond.fieldLink RX2 65 "ExactFractions$Fraction" "above" "LExactFractions$Whole;", Cond.fieldLink RX2 103 "ExactFractions$Fraction" "under" "LExactFractions$Whole;", Cond.methodLink RX2 29 yX2_numberOf, Cond.instanceMethod yX2_numberOf, Cond.selects RX2 yX2_numberOf yX2_numberOf, Cond.code yX2_numberOf cX2_numberOf 2 (some (.object "ExactFractions$Fraction")), Cond.fieldLink RX2 12 "ExactFractions" "first" "LExactFractions$Fraction;", Cond.fieldLink RX2 16 "ExactFractions" "second" "LExactFractions$Fraction;", Cond.methodLink RX2 41 yX1_becomeMultiple, Cond.instanceMethod yX1_becomeMultiple, Cond.selects RX1 yX1_becomeMultiple yX1_becomeMultiple, Cond.initialized RX1, Cond.code yX1_becomeMultiple cX1_becomeMultiple 7 none, Cond.fieldLink RX1 15 "ExactFractions$Whole" "used" "I", Cond.methodLink RX1 42 yX1_valueAt, Cond.instanceMethod yX1_valueAt, Cond.selects RX1 yX1_valueAt yX1_valueAt]
def wsX2_digit_r2 : List Cond := [Cond.code yX1_valueAt cX1_valueAt 2 (some .long), Cond.constantLong RX1 23 (4294967295), Cond.methodLink RX1 19 yX1_wordAt, Cond.instanceMethod yX1_wordAt, Cond.selects RX1 yX1_wordAt yX1_wordAt, Cond.code yX1_wordAt cX1_wordAt 2 (some .int), Cond.fieldLink RX1 9 "ExactFractions$Whole" "words" "[I", Cond.methodLink RX1 25 yX1_put, Cond.instanceMethod yX1_put, Cond.selects RX1 yX1_put yX1_put, Cond.code yX1_put cX1_put 4 none, Cond.methodLink RX1 46 yX1_settle, Cond.instanceMethod yX1_settle, Cond.selects RX1 yX1_settle yX1_settle, Cond.code yX1_settle cX1_settle 3 none, Cond.methodLink RX1 29 Lib.Math.min.name, Cond.static Lib.Math.min.name, Cond.initialized "java/lang/Math", Cond.code Lib.Math.min.name Lib.Math.min.code 2 (some .int), Cond.methodLink RX2 45 yX2_keepLeftIn, Cond.instanceMethod yX2_keepLeftIn, Cond.selects RX2 yX2_keepLeftIn yX2_keepLeftIn, Cond.code yX2_keepLeftIn cX2_keepLeftIn 2 (some .int), Cond.methodLink RX2 53 yX1_length]
def wsX2_digit_r3 : List Cond := [Cond.instanceMethod yX1_length, Cond.selects RX1 yX1_length yX1_length, Cond.code yX1_length cX1_length 3 (some .int), Cond.methodLink RX1 35 yX1_isZero, Cond.instanceMethod yX1_isZero, Cond.selects RX1 yX1_isZero yX1_isZero, Cond.code yX1_isZero cX1_isZero 1 (some .boolean), Cond.methodLink RX2 106 yX1_copy, Cond.instanceMethod yX1_copy, Cond.selects RX1 yX1_copy yX1_copy, Cond.code yX1_copy cX1_copy 3 none]
def wsX2_digit : List Cond := .code yX2_digit cX2_digit 6 (some .int) :: ((wsX2_digit_r1 ++ (wsX2_digit_r2 ++ wsX2_digit_r3)) ++ wsX20 ++ wsX00 ++ wsX10)
def wsX2_set_r1 : List Cond := [Cond.methodLink RX2 36 yX2_partOf, Cond.instanceMethod yX2_partOf, Cond.selects RX2 yX2_partOf yX2_partOf, Cond.initialized RX2, Cond.code yX2_partOf cX2_partOf 4 (some (.object "ExactFractions$Whole")), Cond.fieldLink RX2 65 "ExactFractions$Fraction" "above" "LExactFractions$Whole;", Cond.fieldLink RX2 103 "ExactFractions$Fraction" "under" "LExactFractions$Whole;", Cond.methodLink RX2 29 yX2_numberOf, Cond.instanceMethod yX2_numberOf, Cond.selects RX2 yX2_numberOf yX2_numberOf, Cond.code yX2_numberOf cX2_numberOf 2 (some (.object "ExactFractions$Fraction")), Cond.fieldLink RX2 12 "ExactFractions" "first" "LExactFractions$Fraction;", Cond.fieldLink RX2 16 "ExactFractions" "second" "LExactFractions$Fraction;", Cond.methodLink RX2 49 yX1_become, Cond.instanceMethod yX1_become, Cond.selects RX1 yX1_become yX1_become, Cond.initialized RX1, Cond.code yX1_become cX1_become 3 none, Cond.methodLink RX1 25 yX1_put, Cond.instanceMethod yX1_put, Cond.selects RX1 yX1_put yX1_put, Cond.code yX1_put cX1_put 4 none, Cond.fieldLink RX1 9 "ExactFractions$Whole" "words" "[I", Cond.methodLink RX1 46 yX1_settle]
def wsX2_set_r2 : List Cond := [Cond.instanceMethod yX1_settle, Cond.selects RX1 yX1_settle yX1_settle, Cond.code yX1_settle cX1_settle 3 none, Cond.fieldLink RX1 15 "ExactFractions$Whole" "used" "I", Cond.methodLink RX1 29 Lib.Math.min.name, Cond.static Lib.Math.min.name, Cond.initialized "java/lang/Math", Cond.code Lib.Math.min.name Lib.Math.min.code 2 (some .int), Cond.methodLink RX1 19 yX1_wordAt, Cond.instanceMethod yX1_wordAt, Cond.selects RX1 yX1_wordAt yX1_wordAt, Cond.code yX1_wordAt cX1_wordAt 2 (some .int), Cond.methodLink RX2 53 yX1_length, Cond.instanceMethod yX1_length, Cond.selects RX1 yX1_length yX1_length, Cond.code yX1_length cX1_length 3 (some .int), Cond.methodLink RX1 35 yX1_isZero, Cond.instanceMethod yX1_isZero, Cond.selects RX1 yX1_isZero yX1_isZero, Cond.code yX1_isZero cX1_isZero 1 (some .boolean)]
def wsX2_set : List Cond := .code yX2_set cX2_set 6 (some .int) :: ((wsX2_set_r1 ++ wsX2_set_r2) ++ wsX00 ++ wsX20 ++ wsX10)
def wsX2_scale : List Cond := .code yX2_scale cX2_scale 5 (some .int) :: ([.fieldLink RX2 57 "ExactFractions$Fraction" "below" "Z", .fieldLink RX2 61 "ExactFractions$Fraction" "exponent" "I", .methodLink RX2 29 yX2_numberOf, .instanceMethod yX2_numberOf, .selects RX2 yX2_numberOf yX2_numberOf, .initialized RX2, .code yX2_numberOf cX2_numberOf 2 (some (.object "ExactFractions$Fraction")), .fieldLink RX2 12 "ExactFractions" "first" "LExactFractions$Fraction;", .fieldLink RX2 16 "ExactFractions" "second" "LExactFractions$Fraction;"] ++ wsX00 ++ wsX20)
def wsX2_turn : List Cond := .code yX2_turn cX2_turn 3 (some .int) :: ([.fieldLink RX2 65 "ExactFractions$Fraction" "above" "LExactFractions$Whole;", .methodLink RX2 29 yX2_numberOf, .instanceMethod yX2_numberOf, .selects RX2 yX2_numberOf yX2_numberOf, .initialized RX2, .code yX2_numberOf cX2_numberOf 2 (some (.object "ExactFractions$Fraction")), .fieldLink RX2 12 "ExactFractions" "first" "LExactFractions$Fraction;", .fieldLink RX2 16 "ExactFractions" "second" "LExactFractions$Fraction;", .methodLink RX2 68 yX1_isZero, .instanceMethod yX1_isZero, .selects RX1 yX1_isZero yX1_isZero, .initialized RX1, .code yX1_isZero cX1_isZero 1 (some .boolean), .fieldLink RX1 15 "ExactFractions$Whole" "used" "I", .methodLink RX2 72 yX0_flip, .instanceMethod yX0_flip, .selects RX0 yX0_flip yX0_flip, .initialized RX0, .code yX0_flip cX0_flip 2 none, .fieldLink RX0 10 "ExactFractions$Fraction" "above" "LExactFractions$Whole;", .fieldLink RX0 16 "ExactFractions$Fraction" "under" "LExactFractions$Whole;", .fieldLink RX0 30 "ExactFractions$Fraction" "exponent" "I"] ++ wsX00 ++ wsX20 ++ wsX10)
def wsX2_move_r1 : List Cond := [Cond.fieldLink RX2 16 "ExactFractions" "second" "LExactFractions$Fraction;", Cond.fieldLink RX2 65 "ExactFractions$Fraction" "above" "LExactFractions$Whole;", Cond.fieldLink RX2 12 "ExactFractions" "first" "LExactFractions$Fraction;", Cond.fieldLink RX2 57 "ExactFractions$Fraction" "below" "Z", Cond.fieldLink RX2 22 "ExactFractions" "left" "LExactFractions$Whole;", Cond.methodLink RX2 29 yX2_numberOf, Cond.instanceMethod yX2_numberOf, Cond.selects RX2 yX2_numberOf yX2_numberOf, Cond.initialized RX2, Cond.code yX2_numberOf cX2_numberOf 2 (some (.object "ExactFractions$Fraction")), Cond.methodLink RX2 75 yX1_becomeSum, Cond.instanceMethod yX1_becomeSum, Cond.selects RX1 yX1_becomeSum yX1_becomeSum, Cond.initialized RX1, Cond.code yX1_becomeSum cX1_becomeSum 7 none, Cond.fieldLink RX1 15 "ExactFractions$Whole" "used" "I", Cond.methodLink RX1 39 Lib.Math.max.name, Cond.static Lib.Math.max.name, Cond.initialized "java/lang/Math", Cond.code Lib.Math.max.name Lib.Math.max.code 2 (some .int), Cond.methodLink RX1 42 yX1_valueAt, Cond.instanceMethod yX1_valueAt, Cond.selects RX1 yX1_valueAt yX1_valueAt, Cond.code yX1_valueAt cX1_valueAt 2 (some .long)]
def wsX2_move_r2 : List Cond := [Cond.constantLong RX1 23 (4294967295), Cond.methodLink RX1 19 yX1_wordAt, Cond.instanceMethod yX1_wordAt, Cond.selects RX1 yX1_wordAt yX1_wordAt, Cond.code yX1_wordAt cX1_wordAt 2 (some .int), Cond.fieldLink RX1 9 "ExactFractions$Whole" "words" "[I", Cond.methodLink RX1 25 yX1_put, Cond.instanceMethod yX1_put, Cond.selects RX1 yX1_put yX1_put, Cond.code yX1_put cX1_put 4 none, Cond.methodLink RX1 46 yX1_settle, Cond.instanceMethod yX1_settle, Cond.selects RX1 yX1_settle yX1_settle, Cond.code yX1_settle cX1_settle 3 none, Cond.methodLink RX1 29 Lib.Math.min.name, Cond.static Lib.Math.min.name, Cond.code Lib.Math.min.name Lib.Math.min.code 2 (some .int), Cond.methodLink RX2 79 yX1_order, Cond.instanceMethod yX1_order, Cond.selects RX1 yX1_order yX1_order, Cond.code yX1_order cX1_order 5 (some .int), Cond.methodLink RX2 82 yX1_becomeDifference, Cond.instanceMethod yX1_becomeDifference, Cond.selects RX1 yX1_becomeDifference yX1_becomeDifference]
def wsX2_move_r3 : List Cond := [Cond.code yX1_becomeDifference cX1_becomeDifference 6 none, Cond.methodLink RX2 45 yX2_keepLeftIn, Cond.instanceMethod yX2_keepLeftIn, Cond.selects RX2 yX2_keepLeftIn yX2_keepLeftIn, Cond.code yX2_keepLeftIn cX2_keepLeftIn 2 (some .int), Cond.methodLink RX2 53 yX1_length, Cond.instanceMethod yX1_length, Cond.selects RX1 yX1_length yX1_length, Cond.code yX1_length cX1_length 3 (some .int), Cond.methodLink RX1 35 yX1_isZero, Cond.instanceMethod yX1_isZero, Cond.selects RX1 yX1_isZero yX1_isZero, Cond.code yX1_isZero cX1_isZero 1 (some .boolean), Cond.methodLink RX2 106 yX1_copy, Cond.instanceMethod yX1_copy, Cond.selects RX1 yX1_copy yX1_copy, Cond.code yX1_copy cX1_copy 3 none]
def wsX2_move : List Cond := .code yX2_move cX2_move 5 (some .int) :: ((wsX2_move_r1 ++ (wsX2_move_r2 ++ wsX2_move_r3)) ++ wsX20 ++ wsX00 ++ wsX10)
def wsX2_bits_r1 : List Cond := [Cond.methodLink RX2 36 yX2_partOf, Cond.instanceMethod yX2_partOf, Cond.selects RX2 yX2_partOf yX2_partOf, Cond.initialized RX2, Cond.code yX2_partOf cX2_partOf 4 (some (.object "ExactFractions$Whole")), Cond.fieldLink RX2 65 "ExactFractions$Fraction" "above" "LExactFractions$Whole;", Cond.fieldLink RX2 103 "ExactFractions$Fraction" "under" "LExactFractions$Whole;", Cond.methodLink RX2 29 yX2_numberOf, Cond.instanceMethod yX2_numberOf, Cond.selects RX2 yX2_numberOf yX2_numberOf, Cond.code yX2_numberOf cX2_numberOf 2 (some (.object "ExactFractions$Fraction")), Cond.fieldLink RX2 12 "ExactFractions" "first" "LExactFractions$Fraction;", Cond.fieldLink RX2 16 "ExactFractions" "second" "LExactFractions$Fraction;", Cond.methodLink RX2 53 yX1_length, Cond.instanceMethod yX1_length, Cond.selects RX1 yX1_length yX1_length, Cond.initialized RX1, Cond.code yX1_length cX1_length 3 (some .int), Cond.fieldLink RX1 15 "ExactFractions$Whole" "used" "I", Cond.methodLink RX1 35 yX1_isZero, Cond.instanceMethod yX1_isZero, Cond.selects RX1 yX1_isZero yX1_isZero, Cond.code yX1_isZero cX1_isZero 1 (some .boolean), Cond.methodLink RX1 19 yX1_wordAt]
def wsX2_bits_r2 : List Cond := [Cond.instanceMethod yX1_wordAt, Cond.selects RX1 yX1_wordAt yX1_wordAt, Cond.code yX1_wordAt cX1_wordAt 2 (some .int), Cond.fieldLink RX1 9 "ExactFractions$Whole" "words" "[I"]
def wsX2_bits : List Cond := .code yX2_bits cX2_bits 4 (some .int) :: ((wsX2_bits_r1 ++ wsX2_bits_r2) ++ wsX00 ++ wsX20 ++ wsX10)
def wsX2_word : List Cond := .code yX2_word cX2_word 5 (some .int) :: ([.methodLink RX2 36 yX2_partOf, .instanceMethod yX2_partOf, .selects RX2 yX2_partOf yX2_partOf, .initialized RX2, .code yX2_partOf cX2_partOf 4 (some (.object "ExactFractions$Whole")), .fieldLink RX2 65 "ExactFractions$Fraction" "above" "LExactFractions$Whole;", .fieldLink RX2 103 "ExactFractions$Fraction" "under" "LExactFractions$Whole;", .methodLink RX2 29 yX2_numberOf, .instanceMethod yX2_numberOf, .selects RX2 yX2_numberOf yX2_numberOf, .code yX2_numberOf cX2_numberOf 2 (some (.object "ExactFractions$Fraction")), .fieldLink RX2 12 "ExactFractions" "first" "LExactFractions$Fraction;", .fieldLink RX2 16 "ExactFractions" "second" "LExactFractions$Fraction;", .methodLink RX2 85 yX1_wordAt, .instanceMethod yX1_wordAt, .selects RX1 yX1_wordAt yX1_wordAt, .initialized RX1, .code yX1_wordAt cX1_wordAt 2 (some .int), .fieldLink RX1 9 "ExactFractions$Whole" "words" "[I"] ++ wsX00 ++ wsX20 ++ wsX10)
def wsX2_alignTops_r1 : List Cond := [Cond.fieldLink RX2 22 "ExactFractions" "left" "LExactFractions$Whole;", Cond.fieldLink RX2 26 "ExactFractions" "right" "LExactFractions$Whole;", Cond.methodLink RX2 120 yX1_shiftUp, Cond.instanceMethod yX1_shiftUp, Cond.selects RX1 yX1_shiftUp yX1_shiftUp, Cond.initialized RX1, Cond.code yX1_shiftUp cX1_shiftUp 8 none, Cond.fieldLink RX1 15 "ExactFractions$Whole" "used" "I", Cond.methodLink RX1 42 yX1_valueAt, Cond.instanceMethod yX1_valueAt, Cond.selects RX1 yX1_valueAt yX1_valueAt, Cond.code yX1_valueAt cX1_valueAt 2 (some .long), Cond.constantLong RX1 23 (4294967295), Cond.methodLink RX1 19 yX1_wordAt, Cond.instanceMethod yX1_wordAt, Cond.selects RX1 yX1_wordAt yX1_wordAt, Cond.code yX1_wordAt cX1_wordAt 2 (some .int), Cond.fieldLink RX1 9 "ExactFractions$Whole" "words" "[I", Cond.methodLink RX1 25 yX1_put, Cond.instanceMethod yX1_put, Cond.selects RX1 yX1_put yX1_put, Cond.code yX1_put cX1_put 4 none, Cond.methodLink RX1 46 yX1_settle, Cond.instanceMethod yX1_settle]
def wsX2_alignTops_r2 : List Cond := [Cond.selects RX1 yX1_settle yX1_settle, Cond.code yX1_settle cX1_settle 3 none, Cond.methodLink RX1 29 Lib.Math.min.name, Cond.static Lib.Math.min.name, Cond.initialized "java/lang/Math", Cond.code Lib.Math.min.name Lib.Math.min.code 2 (some .int)]
def wsX2_alignTops : List Cond := .code yX2_alignTops cX2_alignTops 2 none :: ((wsX2_alignTops_r1 ++ wsX2_alignTops_r2) ++ wsX20 ++ wsX10)
def wsX2_orderOfSizes_r1 : List Cond := [Cond.fieldLink RX2 12 "ExactFractions" "first" "LExactFractions$Fraction;", Cond.fieldLink RX2 16 "ExactFractions" "second" "LExactFractions$Fraction;", Cond.fieldLink RX2 22 "ExactFractions" "left" "LExactFractions$Whole;", Cond.fieldLink RX2 65 "ExactFractions$Fraction" "above" "LExactFractions$Whole;", Cond.fieldLink RX2 103 "ExactFractions$Fraction" "under" "LExactFractions$Whole;", Cond.fieldLink RX2 26 "ExactFractions" "right" "LExactFractions$Whole;", Cond.fieldLink RX2 61 "ExactFractions$Fraction" "exponent" "I", Cond.methodLink RX2 110 yX0_rank, Cond.instanceMethod yX0_rank, Cond.selects RX0 yX0_rank yX0_rank, Cond.initialized RX0, Cond.code yX0_rank cX0_rank 1 (some .int), Cond.fieldLink RX0 10 "ExactFractions$Fraction" "above" "LExactFractions$Whole;", Cond.fieldLink RX0 16 "ExactFractions$Fraction" "under" "LExactFractions$Whole;", Cond.fieldLink RX0 30 "ExactFractions$Fraction" "exponent" "I", Cond.methodLink RX0 38 yX1_length, Cond.instanceMethod yX1_length, Cond.selects RX1 yX1_length yX1_length, Cond.initialized RX1, Cond.code yX1_length cX1_length 3 (some .int), Cond.fieldLink RX1 15 "ExactFractions$Whole" "used" "I", Cond.methodLink RX1 35 yX1_isZero, Cond.instanceMethod yX1_isZero, Cond.selects RX1 yX1_isZero yX1_isZero]
def wsX2_orderOfSizes_r2 : List Cond := [Cond.code yX1_isZero cX1_isZero 1 (some .boolean), Cond.methodLink RX1 19 yX1_wordAt, Cond.instanceMethod yX1_wordAt, Cond.selects RX1 yX1_wordAt yX1_wordAt, Cond.code yX1_wordAt cX1_wordAt 2 (some .int), Cond.fieldLink RX1 9 "ExactFractions$Whole" "words" "[I", Cond.methodLink RX2 113 yX1_becomeProduct, Cond.instanceMethod yX1_becomeProduct, Cond.selects RX1 yX1_becomeProduct yX1_becomeProduct, Cond.code yX1_becomeProduct cX1_becomeProduct 4 none, Cond.methodLink RX1 46 yX1_settle, Cond.instanceMethod yX1_settle, Cond.selects RX1 yX1_settle yX1_settle, Cond.code yX1_settle cX1_settle 3 none, Cond.methodLink RX1 29 Lib.Math.min.name, Cond.static Lib.Math.min.name, Cond.initialized "java/lang/Math", Cond.code Lib.Math.min.name Lib.Math.min.code 2 (some .int), Cond.methodLink RX1 25 yX1_put, Cond.instanceMethod yX1_put, Cond.selects RX1 yX1_put yX1_put, Cond.code yX1_put cX1_put 4 none, Cond.methodLink RX1 42 yX1_valueAt, Cond.instanceMethod yX1_valueAt]
def wsX2_orderOfSizes_r3 : List Cond := [Cond.selects RX1 yX1_valueAt yX1_valueAt, Cond.code yX1_valueAt cX1_valueAt 2 (some .long), Cond.constantLong RX1 23 (4294967295), Cond.methodLink RX1 50 yX1_addMultiple, Cond.instanceMethod yX1_addMultiple, Cond.selects RX1 yX1_addMultiple yX1_addMultiple, Cond.code yX1_addMultiple cX1_addMultiple 8 none, Cond.methodLink RX2 53 yX1_length, Cond.methodLink RX2 116 yX2_alignTops, Cond.instanceMethod yX2_alignTops, Cond.selects RX2 yX2_alignTops yX2_alignTops, Cond.initialized RX2, Cond.code yX2_alignTops cX2_alignTops 2 none, Cond.methodLink RX2 120 yX1_shiftUp, Cond.instanceMethod yX1_shiftUp, Cond.selects RX1 yX1_shiftUp yX1_shiftUp, Cond.code yX1_shiftUp cX1_shiftUp 8 none, Cond.methodLink RX2 79 yX1_order, Cond.instanceMethod yX1_order, Cond.selects RX1 yX1_order yX1_order, Cond.code yX1_order cX1_order 5 (some .int), Cond.methodLink RX1 39 Lib.Math.max.name, Cond.static Lib.Math.max.name, Cond.code Lib.Math.max.name Lib.Math.max.code 2 (some .int)]
def wsX2_orderOfSizes : List Cond := .code yX2_orderOfSizes cX2_orderOfSizes 3 (some .int) :: ((wsX2_orderOfSizes_r1 ++ (wsX2_orderOfSizes_r2 ++ wsX2_orderOfSizes_r3)) ++ wsX20 ++ wsX00 ++ wsX10)
def wsX2_compare_r1 : List Cond := [Cond.fieldLink RX2 12 "ExactFractions" "first" "LExactFractions$Fraction;", Cond.fieldLink RX2 16 "ExactFractions" "second" "LExactFractions$Fraction;", Cond.methodLink RX2 89 yX0_sign, Cond.instanceMethod yX0_sign, Cond.selects RX0 yX0_sign yX0_sign, Cond.initialized RX0, Cond.code yX0_sign cX0_sign 1 (some .int), Cond.fieldLink RX0 10 "ExactFractions$Fraction" "above" "LExactFractions$Whole;", Cond.fieldLink RX0 26 "ExactFractions$Fraction" "below" "Z", Cond.methodLink RX0 34 yX1_isZero, Cond.instanceMethod yX1_isZero, Cond.selects RX1 yX1_isZero yX1_isZero, Cond.initialized RX1, Cond.code yX1_isZero cX1_isZero 1 (some .boolean), Cond.fieldLink RX1 15 "ExactFractions$Whole" "used" "I", Cond.methodLink RX2 92 yX2_orderOfSizes, Cond.instanceMethod yX2_orderOfSizes, Cond.selects RX2 yX2_orderOfSizes yX2_orderOfSizes, Cond.initialized RX2, Cond.code yX2_orderOfSizes cX2_orderOfSizes 3 (some .int), Cond.fieldLink RX2 22 "ExactFractions" "left" "LExactFractions$Whole;", Cond.fieldLink RX2 65 "ExactFractions$Fraction" "above" "LExactFractions$Whole;", Cond.fieldLink RX2 103 "ExactFractions$Fraction" "under" "LExactFractions$Whole;", Cond.fieldLink RX2 26 "ExactFractions" "right" "LExactFractions$Whole;"]
def wsX2_compare_r2 : List Cond := [Cond.fieldLink RX2 61 "ExactFractions$Fraction" "exponent" "I", Cond.methodLink RX2 110 yX0_rank, Cond.instanceMethod yX0_rank, Cond.selects RX0 yX0_rank yX0_rank, Cond.code yX0_rank cX0_rank 1 (some .int), Cond.fieldLink RX0 16 "ExactFractions$Fraction" "under" "LExactFractions$Whole;", Cond.fieldLink RX0 30 "ExactFractions$Fraction" "exponent" "I", Cond.methodLink RX0 38 yX1_length, Cond.instanceMethod yX1_length, Cond.selects RX1 yX1_length yX1_length, Cond.code yX1_length cX1_length 3 (some .int), Cond.methodLink RX1 35 yX1_isZero, Cond.methodLink RX1 19 yX1_wordAt, Cond.instanceMethod yX1_wordAt, Cond.selects RX1 yX1_wordAt yX1_wordAt, Cond.code yX1_wordAt cX1_wordAt 2 (some .int), Cond.fieldLink RX1 9 "ExactFractions$Whole" "words" "[I", Cond.methodLink RX2 113 yX1_becomeProduct, Cond.instanceMethod yX1_becomeProduct, Cond.selects RX1 yX1_becomeProduct yX1_becomeProduct, Cond.code yX1_becomeProduct cX1_becomeProduct 4 none, Cond.methodLink RX1 46 yX1_settle, Cond.instanceMethod yX1_settle, Cond.selects RX1 yX1_settle yX1_settle]
def wsX2_compare_r3 : List Cond := [Cond.code yX1_settle cX1_settle 3 none, Cond.methodLink RX1 29 Lib.Math.min.name, Cond.static Lib.Math.min.name, Cond.initialized "java/lang/Math", Cond.code Lib.Math.min.name Lib.Math.min.code 2 (some .int), Cond.methodLink RX1 25 yX1_put, Cond.instanceMethod yX1_put, Cond.selects RX1 yX1_put yX1_put, Cond.code yX1_put cX1_put 4 none, Cond.methodLink RX1 42 yX1_valueAt, Cond.instanceMethod yX1_valueAt, Cond.selects RX1 yX1_valueAt yX1_valueAt, Cond.code yX1_valueAt cX1_valueAt 2 (some .long), Cond.constantLong RX1 23 (4294967295), Cond.methodLink RX1 50 yX1_addMultiple, Cond.instanceMethod yX1_addMultiple, Cond.selects RX1 yX1_addMultiple yX1_addMultiple, Cond.code yX1_addMultiple cX1_addMultiple 8 none, Cond.methodLink RX2 53 yX1_length, Cond.methodLink RX2 116 yX2_alignTops, Cond.instanceMethod yX2_alignTops, Cond.selects RX2 yX2_alignTops yX2_alignTops, Cond.code yX2_alignTops cX2_alignTops 2 none, Cond.methodLink RX2 120 yX1_shiftUp]
def wsX2_compare_r4 : List Cond := [Cond.instanceMethod yX1_shiftUp, Cond.selects RX1 yX1_shiftUp yX1_shiftUp, Cond.code yX1_shiftUp cX1_shiftUp 8 none, Cond.methodLink RX2 79 yX1_order, Cond.instanceMethod yX1_order, Cond.selects RX1 yX1_order yX1_order, Cond.code yX1_order cX1_order 5 (some .int), Cond.methodLink RX1 39 Lib.Math.max.name, Cond.static Lib.Math.max.name, Cond.code Lib.Math.max.name Lib.Math.max.code 2 (some .int)]
def wsX2_compare : List Cond := .code yX2_compare cX2_compare 3 (some .int) :: ((wsX2_compare_r1 ++ (wsX2_compare_r2 ++ (wsX2_compare_r3 ++ wsX2_compare_r4))) ++ wsX20 ++ wsX00 ++ wsX10)
def wsX2_layOut_r1 : List Cond := [Cond.fieldLink RX2 22 "ExactFractions" "left" "LExactFractions$Whole;", Cond.fieldLink RX2 65 "ExactFractions$Fraction" "above" "LExactFractions$Whole;", Cond.fieldLink RX2 26 "ExactFractions" "right" "LExactFractions$Whole;", Cond.fieldLink RX2 103 "ExactFractions$Fraction" "under" "LExactFractions$Whole;", Cond.methodLink RX2 106 yX1_copy, Cond.instanceMethod yX1_copy, Cond.selects RX1 yX1_copy yX1_copy, Cond.initialized RX1, Cond.code yX1_copy cX1_copy 3 none, Cond.fieldLink RX1 15 "ExactFractions$Whole" "used" "I", Cond.methodLink RX1 19 yX1_wordAt, Cond.instanceMethod yX1_wordAt, Cond.selects RX1 yX1_wordAt yX1_wordAt, Cond.code yX1_wordAt cX1_wordAt 2 (some .int), Cond.fieldLink RX1 9 "ExactFractions$Whole" "words" "[I", Cond.methodLink RX1 25 yX1_put, Cond.instanceMethod yX1_put, Cond.selects RX1 yX1_put yX1_put, Cond.code yX1_put cX1_put 4 none, Cond.methodLink RX1 46 yX1_settle, Cond.instanceMethod yX1_settle, Cond.selects RX1 yX1_settle yX1_settle, Cond.code yX1_settle cX1_settle 3 none, Cond.methodLink RX1 29 Lib.Math.min.name]
def wsX2_layOut_r2 : List Cond := [Cond.static Lib.Math.min.name, Cond.initialized "java/lang/Math", Cond.code Lib.Math.min.name Lib.Math.min.code 2 (some .int), Cond.methodLink RX2 53 yX1_length, Cond.instanceMethod yX1_length, Cond.selects RX1 yX1_length yX1_length, Cond.code yX1_length cX1_length 3 (some .int), Cond.methodLink RX1 35 yX1_isZero, Cond.instanceMethod yX1_isZero, Cond.selects RX1 yX1_isZero yX1_isZero, Cond.code yX1_isZero cX1_isZero 1 (some .boolean), Cond.methodLink RX2 116 yX2_alignTops, Cond.instanceMethod yX2_alignTops, Cond.selects RX2 yX2_alignTops yX2_alignTops, Cond.initialized RX2, Cond.code yX2_alignTops cX2_alignTops 2 none, Cond.methodLink RX2 120 yX1_shiftUp, Cond.instanceMethod yX1_shiftUp, Cond.selects RX1 yX1_shiftUp yX1_shiftUp, Cond.code yX1_shiftUp cX1_shiftUp 8 none, Cond.methodLink RX1 42 yX1_valueAt, Cond.instanceMethod yX1_valueAt, Cond.selects RX1 yX1_valueAt yX1_valueAt, Cond.code yX1_valueAt cX1_valueAt 2 (some .long)]
def wsX2_layOut_r3 : List Cond := [Cond.constantLong RX1 23 (4294967295), Cond.methodLink RX2 79 yX1_order, Cond.instanceMethod yX1_order, Cond.selects RX1 yX1_order yX1_order, Cond.code yX1_order cX1_order 5 (some .int), Cond.methodLink RX1 39 Lib.Math.max.name, Cond.static Lib.Math.max.name, Cond.code Lib.Math.max.name Lib.Math.max.code 2 (some .int), Cond.methodLink RX2 110 yX0_rank, Cond.instanceMethod yX0_rank, Cond.selects RX0 yX0_rank yX0_rank, Cond.initialized RX0, Cond.code yX0_rank cX0_rank 1 (some .int), Cond.fieldLink RX0 10 "ExactFractions$Fraction" "above" "LExactFractions$Whole;", Cond.fieldLink RX0 16 "ExactFractions$Fraction" "under" "LExactFractions$Whole;", Cond.fieldLink RX0 30 "ExactFractions$Fraction" "exponent" "I", Cond.methodLink RX0 38 yX1_length]
def wsX2_layOut : List Cond := .code yX2_layOut cX2_layOut 2 (some .int) :: ((wsX2_layOut_r1 ++ (wsX2_layOut_r2 ++ wsX2_layOut_r3)) ++ wsX20 ++ wsX00 ++ wsX10)
def wsX2_quotient_r1 : List Cond := [Cond.fieldLink RX2 22 "ExactFractions" "left" "LExactFractions$Whole;", Cond.fieldLink RX2 26 "ExactFractions" "right" "LExactFractions$Whole;", Cond.methodLink RX2 79 yX1_order, Cond.instanceMethod yX1_order, Cond.selects RX1 yX1_order yX1_order, Cond.initialized RX1, Cond.code yX1_order cX1_order 5 (some .int), Cond.fieldLink RX1 15 "ExactFractions$Whole" "used" "I", Cond.methodLink RX1 39 Lib.Math.max.name, Cond.static Lib.Math.max.name, Cond.initialized "java/lang/Math", Cond.code Lib.Math.max.name Lib.Math.max.code 2 (some .int), Cond.methodLink RX1 42 yX1_valueAt, Cond.instanceMethod yX1_valueAt, Cond.selects RX1 yX1_valueAt yX1_valueAt, Cond.code yX1_valueAt cX1_valueAt 2 (some .long), Cond.constantLong RX1 23 (4294967295), Cond.methodLink RX1 19 yX1_wordAt, Cond.instanceMethod yX1_wordAt, Cond.selects RX1 yX1_wordAt yX1_wordAt, Cond.code yX1_wordAt cX1_wordAt 2 (some .int), Cond.fieldLink RX1 9 "ExactFractions$Whole" "words" "[I", Cond.methodLink RX2 82 yX1_becomeDifference, Cond.instanceMethod yX1_becomeDifference]
def wsX2_quotient_r2 : List Cond := [Cond.selects RX1 yX1_becomeDifference yX1_becomeDifference, Cond.code yX1_becomeDifference cX1_becomeDifference 6 none, Cond.methodLink RX1 25 yX1_put, Cond.instanceMethod yX1_put, Cond.selects RX1 yX1_put yX1_put, Cond.code yX1_put cX1_put 4 none, Cond.methodLink RX1 46 yX1_settle, Cond.instanceMethod yX1_settle, Cond.selects RX1 yX1_settle yX1_settle, Cond.code yX1_settle cX1_settle 3 none, Cond.methodLink RX1 29 Lib.Math.min.name, Cond.static Lib.Math.min.name, Cond.code Lib.Math.min.name Lib.Math.min.code 2 (some .int), Cond.methodLink RX2 120 yX1_shiftUp, Cond.instanceMethod yX1_shiftUp, Cond.selects RX1 yX1_shiftUp yX1_shiftUp, Cond.code yX1_shiftUp cX1_shiftUp 8 none]
def wsX2_quotient : List Cond := .code yX2_quotient cX2_quotient 5 (some .long) :: ((wsX2_quotient_r1 ++ wsX2_quotient_r2) ++ wsX20 ++ wsX10)
def wsX2_roundedSize_r1 : List Cond := [Cond.constantLong RX2 127 (9218868437227405312), Cond.constantLong RX2 129 (9218868437227405311), Cond.methodLink RX2 131 Lib.Math.min.name, Cond.static Lib.Math.min.name, Cond.initialized "java/lang/Math", Cond.code Lib.Math.min.name Lib.Math.min.code 2 (some .int), Cond.fieldLink RX2 22 "ExactFractions" "left" "LExactFractions$Whole;", Cond.methodLink RX2 123 yX2_layOut, Cond.instanceMethod yX2_layOut, Cond.selects RX2 yX2_layOut yX2_layOut, Cond.initialized RX2, Cond.code yX2_layOut cX2_layOut 2 (some .int), Cond.fieldLink RX2 65 "ExactFractions$Fraction" "above" "LExactFractions$Whole;", Cond.fieldLink RX2 26 "ExactFractions" "right" "LExactFractions$Whole;", Cond.fieldLink RX2 103 "ExactFractions$Fraction" "under" "LExactFractions$Whole;", Cond.methodLink RX2 106 yX1_copy, Cond.instanceMethod yX1_copy, Cond.selects RX1 yX1_copy yX1_copy, Cond.initialized RX1, Cond.code yX1_copy cX1_copy 3 none, Cond.fieldLink RX1 15 "ExactFractions$Whole" "used" "I", Cond.methodLink RX1 19 yX1_wordAt, Cond.instanceMethod yX1_wordAt, Cond.selects RX1 yX1_wordAt yX1_wordAt]
def wsX2_roundedSize_r2 : List Cond := [Cond.code yX1_wordAt cX1_wordAt 2 (some .int), Cond.fieldLink RX1 9 "ExactFractions$Whole" "words" "[I", Cond.methodLink RX1 25 yX1_put, Cond.instanceMethod yX1_put, Cond.selects RX1 yX1_put yX1_put, Cond.code yX1_put cX1_put 4 none, Cond.methodLink RX1 46 yX1_settle, Cond.instanceMethod yX1_settle, Cond.selects RX1 yX1_settle yX1_settle, Cond.code yX1_settle cX1_settle 3 none, Cond.methodLink RX1 29 Lib.Math.min.name, Cond.methodLink RX2 53 yX1_length, Cond.instanceMethod yX1_length, Cond.selects RX1 yX1_length yX1_length, Cond.code yX1_length cX1_length 3 (some .int), Cond.methodLink RX1 35 yX1_isZero, Cond.instanceMethod yX1_isZero, Cond.selects RX1 yX1_isZero yX1_isZero, Cond.code yX1_isZero cX1_isZero 1 (some .boolean), Cond.methodLink RX2 116 yX2_alignTops, Cond.instanceMethod yX2_alignTops, Cond.selects RX2 yX2_alignTops yX2_alignTops, Cond.code yX2_alignTops cX2_alignTops 2 none, Cond.methodLink RX2 120 yX1_shiftUp]
def wsX2_roundedSize_r3 : List Cond := [Cond.instanceMethod yX1_shiftUp, Cond.selects RX1 yX1_shiftUp yX1_shiftUp, Cond.code yX1_shiftUp cX1_shiftUp 8 none, Cond.methodLink RX1 42 yX1_valueAt, Cond.instanceMethod yX1_valueAt, Cond.selects RX1 yX1_valueAt yX1_valueAt, Cond.code yX1_valueAt cX1_valueAt 2 (some .long), Cond.constantLong RX1 23 (4294967295), Cond.methodLink RX2 79 yX1_order, Cond.instanceMethod yX1_order, Cond.selects RX1 yX1_order yX1_order, Cond.code yX1_order cX1_order 5 (some .int), Cond.methodLink RX1 39 Lib.Math.max.name, Cond.static Lib.Math.max.name, Cond.code Lib.Math.max.name Lib.Math.max.code 2 (some .int), Cond.methodLink RX2 110 yX0_rank, Cond.instanceMethod yX0_rank, Cond.selects RX0 yX0_rank yX0_rank, Cond.initialized RX0, Cond.code yX0_rank cX0_rank 1 (some .int), Cond.fieldLink RX0 10 "ExactFractions$Fraction" "above" "LExactFractions$Whole;", Cond.fieldLink RX0 16 "ExactFractions$Fraction" "under" "LExactFractions$Whole;", Cond.fieldLink RX0 30 "ExactFractions$Fraction" "exponent" "I", Cond.methodLink RX0 38 yX1_length]
def wsX2_roundedSize_r4 : List Cond := [Cond.methodLink RX2 137 yX2_quotient, Cond.instanceMethod yX2_quotient, Cond.selects RX2 yX2_quotient yX2_quotient, Cond.code yX2_quotient cX2_quotient 5 (some .long), Cond.methodLink RX2 82 yX1_becomeDifference, Cond.instanceMethod yX1_becomeDifference, Cond.selects RX1 yX1_becomeDifference yX1_becomeDifference, Cond.code yX1_becomeDifference cX1_becomeDifference 6 none, Cond.methodLink RX2 68 yX1_isZero]
def wsX2_roundedSize : List Cond := .code yX2_roundedSize cX2_roundedSize 6 (some .long) :: ((wsX2_roundedSize_r1 ++ (wsX2_roundedSize_r2 ++ (wsX2_roundedSize_r3 ++ wsX2_roundedSize_r4))) ++ wsX20 ++ wsX00 ++ wsX10)
def wsX2_round_r1 : List Cond := [Cond.constantLong RX2 95 (9221120237041090560), Cond.fieldLink RX2 65 "ExactFractions$Fraction" "above" "LExactFractions$Whole;", Cond.fieldLink RX2 57 "ExactFractions$Fraction" "below" "Z", Cond.constantLong RX2 101 (-9223372036854775808), Cond.methodLink RX2 29 yX2_numberOf, Cond.instanceMethod yX2_numberOf, Cond.selects RX2 yX2_numberOf yX2_numberOf, Cond.initialized RX2, Cond.code yX2_numberOf cX2_numberOf 2 (some (.object "ExactFractions$Fraction")), Cond.fieldLink RX2 12 "ExactFractions" "first" "LExactFractions$Fraction;", Cond.fieldLink RX2 16 "ExactFractions" "second" "LExactFractions$Fraction;", Cond.methodLink RX2 68 yX1_isZero, Cond.instanceMethod yX1_isZero, Cond.selects RX1 yX1_isZero yX1_isZero, Cond.initialized RX1, Cond.code yX1_isZero cX1_isZero 1 (some .boolean), Cond.fieldLink RX1 15 "ExactFractions$Whole" "used" "I", Cond.methodLink RX2 97 yX2_roundedSize, Cond.instanceMethod yX2_roundedSize, Cond.selects RX2 yX2_roundedSize yX2_roundedSize, Cond.code yX2_roundedSize cX2_roundedSize 6 (some .long), Cond.constantLong RX2 127 (9218868437227405312), Cond.constantLong RX2 129 (9218868437227405311), Cond.methodLink RX2 131 Lib.Math.min.name]
def wsX2_round_r2 : List Cond := [Cond.static Lib.Math.min.name, Cond.initialized "java/lang/Math", Cond.code Lib.Math.min.name Lib.Math.min.code 2 (some .int), Cond.fieldLink RX2 22 "ExactFractions" "left" "LExactFractions$Whole;", Cond.methodLink RX2 123 yX2_layOut, Cond.instanceMethod yX2_layOut, Cond.selects RX2 yX2_layOut yX2_layOut, Cond.code yX2_layOut cX2_layOut 2 (some .int), Cond.fieldLink RX2 26 "ExactFractions" "right" "LExactFractions$Whole;", Cond.fieldLink RX2 103 "ExactFractions$Fraction" "under" "LExactFractions$Whole;", Cond.methodLink RX2 106 yX1_copy, Cond.instanceMethod yX1_copy, Cond.selects RX1 yX1_copy yX1_copy, Cond.code yX1_copy cX1_copy 3 none, Cond.methodLink RX1 19 yX1_wordAt, Cond.instanceMethod yX1_wordAt, Cond.selects RX1 yX1_wordAt yX1_wordAt, Cond.code yX1_wordAt cX1_wordAt 2 (some .int), Cond.fieldLink RX1 9 "ExactFractions$Whole" "words" "[I", Cond.methodLink RX1 25 yX1_put, Cond.instanceMethod yX1_put, Cond.selects RX1 yX1_put yX1_put, Cond.code yX1_put cX1_put 4 none, Cond.methodLink RX1 46 yX1_settle]
def wsX2_round_r3 : List Cond := [Cond.instanceMethod yX1_settle, Cond.selects RX1 yX1_settle yX1_settle, Cond.code yX1_settle cX1_settle 3 none, Cond.methodLink RX1 29 Lib.Math.min.name, Cond.methodLink RX2 53 yX1_length, Cond.instanceMethod yX1_length, Cond.selects RX1 yX1_length yX1_length, Cond.code yX1_length cX1_length 3 (some .int), Cond.methodLink RX1 35 yX1_isZero, Cond.methodLink RX2 116 yX2_alignTops, Cond.instanceMethod yX2_alignTops, Cond.selects RX2 yX2_alignTops yX2_alignTops, Cond.code yX2_alignTops cX2_alignTops 2 none, Cond.methodLink RX2 120 yX1_shiftUp, Cond.instanceMethod yX1_shiftUp, Cond.selects RX1 yX1_shiftUp yX1_shiftUp, Cond.code yX1_shiftUp cX1_shiftUp 8 none, Cond.methodLink RX1 42 yX1_valueAt, Cond.instanceMethod yX1_valueAt, Cond.selects RX1 yX1_valueAt yX1_valueAt, Cond.code yX1_valueAt cX1_valueAt 2 (some .long), Cond.constantLong RX1 23 (4294967295), Cond.methodLink RX2 79 yX1_order, Cond.instanceMethod yX1_order]
def wsX2_round_r4 : List Cond := [Cond.selects RX1 yX1_order yX1_order, Cond.code yX1_order cX1_order 5 (some .int), Cond.methodLink RX1 39 Lib.Math.max.name, Cond.static Lib.Math.max.name, Cond.code Lib.Math.max.name Lib.Math.max.code 2 (some .int), Cond.methodLink RX2 110 yX0_rank, Cond.instanceMethod yX0_rank, Cond.selects RX0 yX0_rank yX0_rank, Cond.initialized RX0, Cond.code yX0_rank cX0_rank 1 (some .int), Cond.fieldLink RX0 10 "ExactFractions$Fraction" "above" "LExactFractions$Whole;", Cond.fieldLink RX0 16 "ExactFractions$Fraction" "under" "LExactFractions$Whole;", Cond.fieldLink RX0 30 "ExactFractions$Fraction" "exponent" "I", Cond.methodLink RX0 38 yX1_length, Cond.methodLink RX2 137 yX2_quotient, Cond.instanceMethod yX2_quotient, Cond.selects RX2 yX2_quotient yX2_quotient, Cond.code yX2_quotient cX2_quotient 5 (some .long), Cond.methodLink RX2 82 yX1_becomeDifference, Cond.instanceMethod yX1_becomeDifference, Cond.selects RX1 yX1_becomeDifference yX1_becomeDifference, Cond.code yX1_becomeDifference cX1_becomeDifference 6 none]
def wsX2_round : List Cond := .code yX2_round cX2_round 6 (some .long) :: ((wsX2_round_r1 ++ (wsX2_round_r2 ++ (wsX2_round_r3 ++ wsX2_round_r4))) ++ wsX00 ++ wsX20 ++ wsX10)
set_option maxRecDepth 20000 in
theorem ggX0_init_X1_init : GoodIn wsX0_init wsX1_init := goodIn_r _ [11, 12, 2, 3, 13, 14, 15, 43, 44] (by decide +kernel) (by decide +kernel)
set_option maxRecDepth 20000 in
theorem gX0_init_X1_init : GoodIn wsX0_init (wsX1_init) := ggX0_init_X1_init
set_option maxRecDepth 20000 in
theorem ggX0_init_X0_restart : GoodIn wsX0_init wsX0_restart := goodIn_r _ [20, 7, 8, 21, 22, 23, 24, 25, 6, 26, 27, 28, 29, 30, 14, 31, 32, 33, 34, 15, 35, 36, 37, 38, 39, 40, 41, 42, 45, 46, 47, 48, 43, 44] (by decide +kernel) (by decide +kernel)
set_option maxRecDepth 20000 in
theorem gX0_init_X0_restart : GoodIn wsX0_init (wsV RX0 19 RX0 yX0_restart wsX0_restart) := goodIn_app (goodIn_of _ (by decide +kernel)) ggX0_init_X0_restart
theorem dX0_init_0 : decode cX0_init 0 = .ok (.aload_n 0, 1) := by decide +kernel
theorem dX0_init_1 : decode cX0_init 1 = .ok (.invokespecial 1, 3) := by decide +kernel
theorem dX0_init_4 : decode cX0_init 4 = .ok (.aload_n 0, 1) := by decide +kernel
theorem dX0_init_5 : decode cX0_init 5 = .ok (.new 7, 3) := by decide +kernel
theorem dX0_init_8 : decode cX0_init 8 = .ok (.dup, 1) := by decide +kernel
theorem dX0_init_9 : decode cX0_init 9 = .ok (.invokespecial 9, 3) := by decide +kernel
theorem dX0_init_12 : decode cX0_init 12 = .ok (.putfield 10, 3) := by decide +kernel
theorem dX0_init_15 : decode cX0_init 15 = .ok (.aload_n 0, 1) := by decide +kernel
theorem dX0_init_16 : decode cX0_init 16 = .ok (.new 7, 3) := by decide +kernel
theorem dX0_init_19 : decode cX0_init 19 = .ok (.dup, 1) := by decide +kernel
theorem dX0_init_20 : decode cX0_init 20 = .ok (.invokespecial 9, 3) := by decide +kernel
theorem dX0_init_23 : decode cX0_init 23 = .ok (.putfield 16, 3) := by decide +kernel
theorem dX0_init_26 : decode cX0_init 26 = .ok (.aload_n 0, 1) := by decide +kernel
theorem dX0_init_27 : decode cX0_init 27 = .ok (.invokevirtual 19, 3) := by decide +kernel
theorem dX0_init_30 : decode cX0_init 30 = .ok (.return_, 1) := by decide +kernel
set_option maxRecDepth 20000 in
theorem ggX0_restart_X1_become : GoodIn wsX0_restart wsX1_become := goodIn_r _ [9, 10, 11, 12, 8, 13, 14, 15, 16, 17, 18, 19, 20, 21, 22, 23, 24, 25, 26, 27, 32, 33] (by decide +kernel) (by decide +kernel)
set_option maxRecDepth 20000 in
theorem gX0_restart_X1_become : GoodIn wsX0_restart (wsV RX0 22 RX1 yX1_become wsX1_become) := goodIn_app (goodIn_of _ (by decide +kernel)) ggX0_restart_X1_become
theorem dX0_restart_0 : decode cX0_restart 0 = .ok (.aload_n 0, 1) := by decide +kernel
theorem dX0_restart_1 : decode cX0_restart 1 = .ok (.getfield 10, 3) := by decide +kernel
theorem dX0_restart_4 : decode cX0_restart 4 = .ok (.lconst 0, 1) := by decide +kernel
theorem dX0_restart_5 : decode cX0_restart 5 = .ok (.invokevirtual 22, 3) := by decide +kernel
theorem dX0_restart_8 : decode cX0_restart 8 = .ok (.aload_n 0, 1) := by decide +kernel
theorem dX0_restart_9 : decode cX0_restart 9 = .ok (.getfield 16, 3) := by decide +kernel
theorem dX0_restart_12 : decode cX0_restart 12 = .ok (.lconst 1, 1) := by decide +kernel
theorem dX0_restart_13 : decode cX0_restart 13 = .ok (.invokevirtual 22, 3) := by decide +kernel
theorem dX0_restart_16 : decode cX0_restart 16 = .ok (.aload_n 0, 1) := by decide +kernel
theorem dX0_restart_17 : decode cX0_restart 17 = .ok (.iconst 0, 1) := by decide +kernel
theorem dX0_restart_18 : decode cX0_restart 18 = .ok (.putfield 26, 3) := by decide +kernel
theorem dX0_restart_21 : decode cX0_restart 21 = .ok (.aload_n 0, 1) := by decide +kernel
theorem dX0_restart_22 : decode cX0_restart 22 = .ok (.iconst 0, 1) := by decide +kernel
theorem dX0_restart_23 : decode cX0_restart 23 = .ok (.putfield 30, 3) := by decide +kernel
theorem dX0_restart_26 : decode cX0_restart 26 = .ok (.return_, 1) := by decide +kernel
theorem dX0_flip_0 : decode cX0_flip 0 = .ok (.aload_n 0, 1) := by decide +kernel
theorem dX0_flip_1 : decode cX0_flip 1 = .ok (.getfield 10, 3) := by decide +kernel
theorem dX0_flip_4 : decode cX0_flip 4 = .ok (.astore_n 1, 1) := by decide +kernel
theorem dX0_flip_5 : decode cX0_flip 5 = .ok (.aload_n 0, 1) := by decide +kernel
theorem dX0_flip_6 : decode cX0_flip 6 = .ok (.aload_n 0, 1) := by decide +kernel
theorem dX0_flip_7 : decode cX0_flip 7 = .ok (.getfield 16, 3) := by decide +kernel
theorem dX0_flip_10 : decode cX0_flip 10 = .ok (.putfield 10, 3) := by decide +kernel
theorem dX0_flip_13 : decode cX0_flip 13 = .ok (.aload_n 0, 1) := by decide +kernel
theorem dX0_flip_14 : decode cX0_flip 14 = .ok (.aload_n 1, 1) := by decide +kernel
theorem dX0_flip_15 : decode cX0_flip 15 = .ok (.putfield 16, 3) := by decide +kernel
theorem dX0_flip_18 : decode cX0_flip 18 = .ok (.aload_n 0, 1) := by decide +kernel
theorem dX0_flip_19 : decode cX0_flip 19 = .ok (.aload_n 0, 1) := by decide +kernel
theorem dX0_flip_20 : decode cX0_flip 20 = .ok (.getfield 30, 3) := by decide +kernel
theorem dX0_flip_23 : decode cX0_flip 23 = .ok (.ineg, 1) := by decide +kernel
theorem dX0_flip_24 : decode cX0_flip 24 = .ok (.putfield 30, 3) := by decide +kernel
theorem dX0_flip_27 : decode cX0_flip 27 = .ok (.return_, 1) := by decide +kernel
set_option maxRecDepth 20000 in
theorem ggX0_sign_X1_isZero : GoodIn wsX0_sign wsX1_isZero := goodIn_r _ [7, 8, 13, 14] (by decide +kernel) (by decide +kernel)
set_option maxRecDepth 20000 in
theorem gX0_sign_X1_isZero : GoodIn wsX0_sign (wsV RX0 34 RX1 yX1_isZero wsX1_isZero) := goodIn_app (goodIn_of _ (by decide +kernel)) ggX0_sign_X1_isZero
theorem dX0_sign_0 : decode cX0_sign 0 = .ok (.aload_n 0, 1) := by decide +kernel
theorem dX0_sign_1 : decode cX0_sign 1 = .ok (.getfield 10, 3) := by decide +kernel
theorem dX0_sign_4 : decode cX0_sign 4 = .ok (.invokevirtual 34, 3) := by decide +kernel
theorem dX0_sign_7 : decode cX0_sign 7 = .ok (.ifCond .eq 5, 3) := by decide +kernel
theorem dX0_sign_10 : decode cX0_sign 10 = .ok (.iconst 0, 1) := by decide +kernel
theorem dX0_sign_11 : decode cX0_sign 11 = .ok (.ireturn, 1) := by decide +kernel
theorem dX0_sign_12 : decode cX0_sign 12 = .ok (.aload_n 0, 1) := by decide +kernel
theorem dX0_sign_13 : decode cX0_sign 13 = .ok (.getfield 26, 3) := by decide +kernel
theorem dX0_sign_16 : decode cX0_sign 16 = .ok (.ifCond .eq 7, 3) := by decide +kernel
theorem dX0_sign_19 : decode cX0_sign 19 = .ok (.iconst (-1), 1) := by decide +kernel
theorem dX0_sign_20 : decode cX0_sign 20 = .ok (.goto 4, 3) := by decide +kernel
theorem dX0_sign_23 : decode cX0_sign 23 = .ok (.iconst 1, 1) := by decide +kernel
theorem dX0_sign_24 : decode cX0_sign 24 = .ok (.ireturn, 1) := by decide +kernel
set_option maxRecDepth 20000 in
theorem ggX0_rank_X1_length : GoodIn wsX0_rank wsX1_length := goodIn_r _ [8, 9, 10, 11, 12, 7, 13, 14, 15, 16, 17, 18, 23, 24] (by decide +kernel) (by decide +kernel)
set_option maxRecDepth 20000 in
theorem gX0_rank_X1_length : GoodIn wsX0_rank (wsV RX0 38 RX1 yX1_length wsX1_length) := goodIn_app (goodIn_of _ (by decide +kernel)) ggX0_rank_X1_length
theorem dX0_rank_0 : decode cX0_rank 0 = .ok (.aload_n 0, 1) := by decide +kernel
theorem dX0_rank_1 : decode cX0_rank 1 = .ok (.getfield 10, 3) := by decide +kernel
theorem dX0_rank_4 : decode cX0_rank 4 = .ok (.invokevirtual 38, 3) := by decide +kernel
theorem dX0_rank_7 : decode cX0_rank 7 = .ok (.aload_n 0, 1) := by decide +kernel
theorem dX0_rank_8 : decode cX0_rank 8 = .ok (.getfield 16, 3) := by decide +kernel
theorem dX0_rank_11 : decode cX0_rank 11 = .ok (.invokevirtual 38, 3) := by decide +kernel
theorem dX0_rank_14 : decode cX0_rank 14 = .ok (.isub, 1) := by decide +kernel
theorem dX0_rank_15 : decode cX0_rank 15 = .ok (.aload_n 0, 1) := by decide +kernel
theorem dX0_rank_16 : decode cX0_rank 16 = .ok (.getfield 30, 3) := by decide +kernel
theorem dX0_rank_19 : decode cX0_rank 19 = .ok (.iadd, 1) := by decide +kernel
theorem dX0_rank_20 : decode cX0_rank 20 = .ok (.ireturn, 1) := by decide +kernel
theorem dX1_init_0 : decode cX1_init 0 = .ok (.aload_n 0, 1) := by decide +kernel
theorem dX1_init_1 : decode cX1_init 1 = .ok (.invokespecial 3, 3) := by decide +kernel
theorem dX1_init_4 : decode cX1_init 4 = .ok (.aload_n 0, 1) := by decide +kernel
theorem dX1_init_5 : decode cX1_init 5 = .ok (.sipush 301, 3) := by decide +kernel
theorem dX1_init_8 : decode cX1_init 8 = .ok (.newarray .int, 2) := by decide +kernel
theorem dX1_init_10 : decode cX1_init 10 = .ok (.putfield 9, 3) := by decide +kernel
theorem dX1_init_13 : decode cX1_init 13 = .ok (.aload_n 0, 1) := by decide +kernel
theorem dX1_init_14 : decode cX1_init 14 = .ok (.iconst 0, 1) := by decide +kernel
theorem dX1_init_15 : decode cX1_init 15 = .ok (.putfield 15, 3) := by decide +kernel
theorem dX1_init_18 : decode cX1_init 18 = .ok (.return_, 1) := by decide +kernel
theorem dX1_wordAt_0 : decode cX1_wordAt 0 = .ok (.iload_n 1, 1) := by decide +kernel
theorem dX1_wordAt_1 : decode cX1_wordAt 1 = .ok (.ifCond .lt 21, 3) := by decide +kernel
theorem dX1_wordAt_4 : decode cX1_wordAt 4 = .ok (.iload_n 1, 1) := by decide +kernel
theorem dX1_wordAt_5 : decode cX1_wordAt 5 = .ok (.aload_n 0, 1) := by decide +kernel
theorem dX1_wordAt_6 : decode cX1_wordAt 6 = .ok (.getfield 9, 3) := by decide +kernel
theorem dX1_wordAt_9 : decode cX1_wordAt 9 = .ok (.arraylength, 1) := by decide +kernel
theorem dX1_wordAt_10 : decode cX1_wordAt 10 = .ok (.if_icmp .ge 12, 3) := by decide +kernel
theorem dX1_wordAt_13 : decode cX1_wordAt 13 = .ok (.aload_n 0, 1) := by decide +kernel
theorem dX1_wordAt_14 : decode cX1_wordAt 14 = .ok (.getfield 9, 3) := by decide +kernel
theorem dX1_wordAt_17 : decode cX1_wordAt 17 = .ok (.iload_n 1, 1) := by decide +kernel
theorem dX1_wordAt_18 : decode cX1_wordAt 18 = .ok (.iaload, 1) := by decide +kernel
theorem dX1_wordAt_19 : decode cX1_wordAt 19 = .ok (.goto 4, 3) := by decide +kernel
theorem dX1_wordAt_22 : decode cX1_wordAt 22 = .ok (.iconst 0, 1) := by decide +kernel
theorem dX1_wordAt_23 : decode cX1_wordAt 23 = .ok (.ireturn, 1) := by decide +kernel
set_option maxRecDepth 20000 in
theorem ggX1_valueAt_X1_wordAt : GoodIn wsX1_valueAt wsX1_wordAt := goodIn_r _ [6, 7, 8, 9] (by decide +kernel) (by decide +kernel)
set_option maxRecDepth 20000 in
theorem gX1_valueAt_X1_wordAt : GoodIn wsX1_valueAt (wsV RX1 19 RX1 yX1_wordAt wsX1_wordAt) := goodIn_app (goodIn_of _ (by decide +kernel)) ggX1_valueAt_X1_wordAt
theorem dX1_valueAt_0 : decode cX1_valueAt 0 = .ok (.aload_n 0, 1) := by decide +kernel
theorem dX1_valueAt_1 : decode cX1_valueAt 1 = .ok (.iload_n 1, 1) := by decide +kernel
theorem dX1_valueAt_2 : decode cX1_valueAt 2 = .ok (.invokevirtual 19, 3) := by decide +kernel
theorem dX1_valueAt_5 : decode cX1_valueAt 5 = .ok (.i2l, 1) := by decide +kernel
theorem dX1_valueAt_6 : decode cX1_valueAt 6 = .ok (.ldc2_w 23, 3) := by decide +kernel
theorem dX1_valueAt_9 : decode cX1_valueAt 9 = .ok (.land, 1) := by decide +kernel
theorem dX1_valueAt_10 : decode cX1_valueAt 10 = .ok (.lreturn, 1) := by decide +kernel
theorem dX1_put_0 : decode cX1_put 0 = .ok (.iload_n 1, 1) := by decide +kernel
theorem dX1_put_1 : decode cX1_put 1 = .ok (.ifCond .lt 20, 3) := by decide +kernel
theorem dX1_put_4 : decode cX1_put 4 = .ok (.iload_n 1, 1) := by decide +kernel
theorem dX1_put_5 : decode cX1_put 5 = .ok (.aload_n 0, 1) := by decide +kernel
theorem dX1_put_6 : decode cX1_put 6 = .ok (.getfield 9, 3) := by decide +kernel
theorem dX1_put_9 : decode cX1_put 9 = .ok (.arraylength, 1) := by decide +kernel
theorem dX1_put_10 : decode cX1_put 10 = .ok (.if_icmp .ge 11, 3) := by decide +kernel
theorem dX1_put_13 : decode cX1_put 13 = .ok (.aload_n 0, 1) := by decide +kernel
theorem dX1_put_14 : decode cX1_put 14 = .ok (.getfield 9, 3) := by decide +kernel
theorem dX1_put_17 : decode cX1_put 17 = .ok (.iload_n 1, 1) := by decide +kernel
theorem dX1_put_18 : decode cX1_put 18 = .ok (.lload_n 2, 1) := by decide +kernel
theorem dX1_put_19 : decode cX1_put 19 = .ok (.l2i, 1) := by decide +kernel
theorem dX1_put_20 : decode cX1_put 20 = .ok (.iastore, 1) := by decide +kernel
theorem dX1_put_21 : decode cX1_put 21 = .ok (.return_, 1) := by decide +kernel
set_option maxRecDepth 20000 in
theorem ggX1_settle_X1_put : GoodIn wsX1_settle wsX1_put := goodIn_r _ [11, 2, 16, 17] (by decide +kernel) (by decide +kernel)
set_option maxRecDepth 20000 in
theorem gX1_settle_X1_put : GoodIn wsX1_settle (wsV RX1 25 RX1 yX1_put wsX1_put) := goodIn_app (goodIn_of _ (by decide +kernel)) ggX1_settle_X1_put
set_option maxRecDepth 20000 in
theorem ggX1_settle_X1_wordAt : GoodIn wsX1_settle wsX1_wordAt := goodIn_r _ [15, 2, 16, 17] (by decide +kernel) (by decide +kernel)
set_option maxRecDepth 20000 in
theorem gX1_settle_X1_wordAt : GoodIn wsX1_settle (wsV RX1 19 RX1 yX1_wordAt wsX1_wordAt) := goodIn_app (goodIn_of _ (by decide +kernel)) ggX1_settle_X1_wordAt
theorem dX1_settle_0 : decode cX1_settle 0 = .ok (.iload_n 1, 1) := by decide +kernel
theorem dX1_settle_1 : decode cX1_settle 1 = .ok (.istore_n 2, 1) := by decide +kernel
theorem dX1_settle_2 : decode cX1_settle 2 = .ok (.iload_n 2, 1) := by decide +kernel
theorem dX1_settle_3 : decode cX1_settle 3 = .ok (.aload_n 0, 1) := by decide +kernel
theorem dX1_settle_4 : decode cX1_settle 4 = .ok (.getfield 15, 3) := by decide +kernel
theorem dX1_settle_7 : decode cX1_settle 7 = .ok (.if_icmp .ge 15, 3) := by decide +kernel
theorem dX1_settle_10 : decode cX1_settle 10 = .ok (.aload_n 0, 1) := by decide +kernel
theorem dX1_settle_11 : decode cX1_settle 11 = .ok (.iload_n 2, 1) := by decide +kernel
theorem dX1_settle_12 : decode cX1_settle 12 = .ok (.lconst 0, 1) := by decide +kernel
theorem dX1_settle_13 : decode cX1_settle 13 = .ok (.invokevirtual 25, 3) := by decide +kernel
theorem dX1_settle_16 : decode cX1_settle 16 = .ok (.iinc 2 1, 3) := by decide +kernel
theorem dX1_settle_19 : decode cX1_settle 19 = .ok (.goto (-17), 3) := by decide +kernel
theorem dX1_settle_22 : decode cX1_settle 22 = .ok (.aload_n 0, 1) := by decide +kernel
theorem dX1_settle_23 : decode cX1_settle 23 = .ok (.iload_n 1, 1) := by decide +kernel
theorem dX1_settle_24 : decode cX1_settle 24 = .ok (.aload_n 0, 1) := by decide +kernel
theorem dX1_settle_25 : decode cX1_settle 25 = .ok (.getfield 9, 3) := by decide +kernel
theorem dX1_settle_28 : decode cX1_settle 28 = .ok (.arraylength, 1) := by decide +kernel
theorem dX1_settle_29 : decode cX1_settle 29 = .ok (.invokestatic 29, 3) := by decide +kernel
theorem dX1_settle_32 : decode cX1_settle 32 = .ok (.putfield 15, 3) := by decide +kernel
theorem dX1_settle_35 : decode cX1_settle 35 = .ok (.aload_n 0, 1) := by decide +kernel
theorem dX1_settle_36 : decode cX1_settle 36 = .ok (.getfield 15, 3) := by decide +kernel
theorem dX1_settle_39 : decode cX1_settle 39 = .ok (.ifCond .le 29, 3) := by decide +kernel
theorem dX1_settle_42 : decode cX1_settle 42 = .ok (.aload_n 0, 1) := by decide +kernel
theorem dX1_settle_43 : decode cX1_settle 43 = .ok (.aload_n 0, 1) := by decide +kernel
theorem dX1_settle_44 : decode cX1_settle 44 = .ok (.getfield 15, 3) := by decide +kernel
theorem dX1_settle_47 : decode cX1_settle 47 = .ok (.iconst 1, 1) := by decide +kernel
theorem dX1_settle_48 : decode cX1_settle 48 = .ok (.isub, 1) := by decide +kernel
theorem dX1_settle_49 : decode cX1_settle 49 = .ok (.invokevirtual 19, 3) := by decide +kernel
theorem dX1_settle_52 : decode cX1_settle 52 = .ok (.ifCond .ne 16, 3) := by decide +kernel
theorem dX1_settle_55 : decode cX1_settle 55 = .ok (.aload_n 0, 1) := by decide +kernel
theorem dX1_settle_56 : decode cX1_settle 56 = .ok (.dup, 1) := by decide +kernel
theorem dX1_settle_57 : decode cX1_settle 57 = .ok (.getfield 15, 3) := by decide +kernel
theorem dX1_settle_60 : decode cX1_settle 60 = .ok (.iconst 1, 1) := by decide +kernel
theorem dX1_settle_61 : decode cX1_settle 61 = .ok (.isub, 1) := by decide +kernel
theorem dX1_settle_62 : decode cX1_settle 62 = .ok (.putfield 15, 3) := by decide +kernel
theorem dX1_settle_65 : decode cX1_settle 65 = .ok (.goto (-30), 3) := by decide +kernel
theorem dX1_settle_68 : decode cX1_settle 68 = .ok (.return_, 1) := by decide +kernel
theorem dX1_isZero_0 : decode cX1_isZero 0 = .ok (.aload_n 0, 1) := by decide +kernel
theorem dX1_isZero_1 : decode cX1_isZero 1 = .ok (.getfield 15, 3) := by decide +kernel
theorem dX1_isZero_4 : decode cX1_isZero 4 = .ok (.ifCond .ne 7, 3) := by decide +kernel
end
section
theorem dX1_isZero_7 : decode cX1_isZero 7 = .ok (.iconst 1, 1) := by decide +kernel
theorem dX1_isZero_8 : decode cX1_isZero 8 = .ok (.goto 4, 3) := by decide +kernel
theorem dX1_isZero_11 : decode cX1_isZero 11 = .ok (.iconst 0, 1) := by decide +kernel
theorem dX1_isZero_12 : decode cX1_isZero 12 = .ok (.ireturn, 1) := by decide +kernel
set_option maxRecDepth 20000 in
theorem ggX1_length_X1_isZero : GoodIn wsX1_length wsX1_isZero := goodIn_r _ [6, 1, 12, 13] (by decide +kernel) (by decide +kernel)
set_option maxRecDepth 20000 in
theorem gX1_length_X1_isZero : GoodIn wsX1_length (wsV RX1 35 RX1 yX1_isZero wsX1_isZero) := goodIn_app (goodIn_of _ (by decide +kernel)) ggX1_length_X1_isZero
set_option maxRecDepth 20000 in
theorem ggX1_length_X1_wordAt : GoodIn wsX1_length wsX1_wordAt := goodIn_r _ [10, 11, 12, 13] (by decide +kernel) (by decide +kernel)
set_option maxRecDepth 20000 in
theorem gX1_length_X1_wordAt : GoodIn wsX1_length (wsV RX1 19 RX1 yX1_wordAt wsX1_wordAt) := goodIn_app (goodIn_of _ (by decide +kernel)) ggX1_length_X1_wordAt
theorem dX1_length_0 : decode cX1_length 0 = .ok (.aload_n 0, 1) := by decide +kernel
theorem dX1_length_1 : decode cX1_length 1 = .ok (.invokevirtual 35, 3) := by decide +kernel
theorem dX1_length_4 : decode cX1_length 4 = .ok (.ifCond .eq 5, 3) := by decide +kernel
theorem dX1_length_7 : decode cX1_length 7 = .ok (.iconst 0, 1) := by decide +kernel
theorem dX1_length_8 : decode cX1_length 8 = .ok (.ireturn, 1) := by decide +kernel
theorem dX1_length_9 : decode cX1_length 9 = .ok (.aload_n 0, 1) := by decide +kernel
theorem dX1_length_10 : decode cX1_length 10 = .ok (.aload_n 0, 1) := by decide +kernel
theorem dX1_length_11 : decode cX1_length 11 = .ok (.getfield 15, 3) := by decide +kernel
theorem dX1_length_14 : decode cX1_length 14 = .ok (.iconst 1, 1) := by decide +kernel
theorem dX1_length_15 : decode cX1_length 15 = .ok (.isub, 1) := by decide +kernel
theorem dX1_length_16 : decode cX1_length 16 = .ok (.invokevirtual 19, 3) := by decide +kernel
theorem dX1_length_19 : decode cX1_length 19 = .ok (.istore_n 1, 1) := by decide +kernel
theorem dX1_length_20 : decode cX1_length 20 = .ok (.iconst 0, 1) := by decide +kernel
theorem dX1_length_21 : decode cX1_length 21 = .ok (.istore_n 2, 1) := by decide +kernel
theorem dX1_length_22 : decode cX1_length 22 = .ok (.iload_n 2, 1) := by decide +kernel
theorem dX1_length_23 : decode cX1_length 23 = .ok (.bipush 32, 2) := by decide +kernel
theorem dX1_length_25 : decode cX1_length 25 = .ok (.if_icmp .ge 15, 3) := by decide +kernel
theorem dX1_length_28 : decode cX1_length 28 = .ok (.iload_n 1, 1) := by decide +kernel
theorem dX1_length_29 : decode cX1_length 29 = .ok (.iload_n 2, 1) := by decide +kernel
theorem dX1_length_30 : decode cX1_length 30 = .ok (.iushr, 1) := by decide +kernel
theorem dX1_length_31 : decode cX1_length 31 = .ok (.ifCond .eq 9, 3) := by decide +kernel
theorem dX1_length_34 : decode cX1_length 34 = .ok (.iinc 2 1, 3) := by decide +kernel
theorem dX1_length_37 : decode cX1_length 37 = .ok (.goto (-15), 3) := by decide +kernel
theorem dX1_length_40 : decode cX1_length 40 = .ok (.bipush 32, 2) := by decide +kernel
theorem dX1_length_42 : decode cX1_length 42 = .ok (.aload_n 0, 1) := by decide +kernel
theorem dX1_length_43 : decode cX1_length 43 = .ok (.getfield 15, 3) := by decide +kernel
theorem dX1_length_46 : decode cX1_length 46 = .ok (.iconst 1, 1) := by decide +kernel
theorem dX1_length_47 : decode cX1_length 47 = .ok (.isub, 1) := by decide +kernel
theorem dX1_length_48 : decode cX1_length 48 = .ok (.imul, 1) := by decide +kernel
theorem dX1_length_49 : decode cX1_length 49 = .ok (.iload_n 2, 1) := by decide +kernel
theorem dX1_length_50 : decode cX1_length 50 = .ok (.iadd, 1) := by decide +kernel
theorem dX1_length_51 : decode cX1_length 51 = .ok (.ireturn, 1) := by decide +kernel
set_option maxRecDepth 20000 in
theorem ggX1_order_X1_valueAt : GoodIn wsX1_order wsX1_valueAt := goodIn_r _ [10, 11, 12, 13, 14, 9, 15, 16, 17, 18] (by decide +kernel) (by decide +kernel)
set_option maxRecDepth 20000 in
theorem gX1_order_X1_valueAt : GoodIn wsX1_order (wsV RX1 42 RX1 yX1_valueAt wsX1_valueAt) := goodIn_app (goodIn_of _ (by decide +kernel)) ggX1_order_X1_valueAt
theorem dX1_order_0 : decode cX1_order 0 = .ok (.aload_n 0, 1) := by decide +kernel
theorem dX1_order_1 : decode cX1_order 1 = .ok (.getfield 15, 3) := by decide +kernel
theorem dX1_order_4 : decode cX1_order 4 = .ok (.aload_n 1, 1) := by decide +kernel
theorem dX1_order_5 : decode cX1_order 5 = .ok (.getfield 15, 3) := by decide +kernel
theorem dX1_order_8 : decode cX1_order 8 = .ok (.invokestatic 39, 3) := by decide +kernel
theorem dX1_order_11 : decode cX1_order 11 = .ok (.iconst 1, 1) := by decide +kernel
theorem dX1_order_12 : decode cX1_order 12 = .ok (.isub, 1) := by decide +kernel
theorem dX1_order_13 : decode cX1_order 13 = .ok (.istore_n 2, 1) := by decide +kernel
theorem dX1_order_14 : decode cX1_order 14 = .ok (.iload_n 2, 1) := by decide +kernel
theorem dX1_order_15 : decode cX1_order 15 = .ok (.ifCond .lt 39, 3) := by decide +kernel
theorem dX1_order_18 : decode cX1_order 18 = .ok (.aload_n 0, 1) := by decide +kernel
theorem dX1_order_19 : decode cX1_order 19 = .ok (.iload_n 2, 1) := by decide +kernel
theorem dX1_order_20 : decode cX1_order 20 = .ok (.invokevirtual 42, 3) := by decide +kernel
theorem dX1_order_23 : decode cX1_order 23 = .ok (.aload_n 1, 1) := by decide +kernel
theorem dX1_order_24 : decode cX1_order 24 = .ok (.iload_n 2, 1) := by decide +kernel
theorem dX1_order_25 : decode cX1_order 25 = .ok (.invokevirtual 42, 3) := by decide +kernel
theorem dX1_order_28 : decode cX1_order 28 = .ok (.lsub, 1) := by decide +kernel
theorem dX1_order_29 : decode cX1_order 29 = .ok (.lstore_n 3, 1) := by decide +kernel
theorem dX1_order_30 : decode cX1_order 30 = .ok (.lload_n 3, 1) := by decide +kernel
theorem dX1_order_31 : decode cX1_order 31 = .ok (.lconst 0, 1) := by decide +kernel
theorem dX1_order_32 : decode cX1_order 32 = .ok (.lcmp, 1) := by decide +kernel
theorem dX1_order_33 : decode cX1_order 33 = .ok (.ifCond .eq 15, 3) := by decide +kernel
theorem dX1_order_36 : decode cX1_order 36 = .ok (.lload_n 3, 1) := by decide +kernel
theorem dX1_order_37 : decode cX1_order 37 = .ok (.lconst 0, 1) := by decide +kernel
theorem dX1_order_38 : decode cX1_order 38 = .ok (.lcmp, 1) := by decide +kernel
theorem dX1_order_39 : decode cX1_order 39 = .ok (.ifCond .ge 7, 3) := by decide +kernel
theorem dX1_order_42 : decode cX1_order 42 = .ok (.iconst (-1), 1) := by decide +kernel
theorem dX1_order_43 : decode cX1_order 43 = .ok (.goto 4, 3) := by decide +kernel
theorem dX1_order_46 : decode cX1_order 46 = .ok (.iconst 1, 1) := by decide +kernel
theorem dX1_order_47 : decode cX1_order 47 = .ok (.ireturn, 1) := by decide +kernel
theorem dX1_order_48 : decode cX1_order 48 = .ok (.iinc 2 (-1), 3) := by decide +kernel
theorem dX1_order_51 : decode cX1_order 51 = .ok (.goto (-37), 3) := by decide +kernel
theorem dX1_order_54 : decode cX1_order 54 = .ok (.iconst 0, 1) := by decide +kernel
theorem dX1_order_55 : decode cX1_order 55 = .ok (.ireturn, 1) := by decide +kernel
set_option maxRecDepth 20000 in
theorem ggX1_become_X1_put : GoodIn wsX1_become wsX1_put := goodIn_r _ [5, 6, 20, 21] (by decide +kernel) (by decide +kernel)
set_option maxRecDepth 20000 in
theorem gX1_become_X1_put : GoodIn wsX1_become (wsV RX1 25 RX1 yX1_put wsX1_put) := goodIn_app (goodIn_of _ (by decide +kernel)) ggX1_become_X1_put
set_option maxRecDepth 20000 in
theorem ggX1_become_X1_settle : GoodIn wsX1_become wsX1_settle := goodIn_r _ [10, 11, 6, 12, 13, 14, 15, 1, 2, 3, 4, 5, 16, 17, 18, 19, 20, 21] (by decide +kernel) (by decide +kernel)
set_option maxRecDepth 20000 in
theorem gX1_become_X1_settle : GoodIn wsX1_become (wsV RX1 46 RX1 yX1_settle wsX1_settle) := goodIn_app (goodIn_of _ (by decide +kernel)) ggX1_become_X1_settle
theorem dX1_become_0 : decode cX1_become 0 = .ok (.aload_n 0, 1) := by decide +kernel
theorem dX1_become_1 : decode cX1_become 1 = .ok (.iconst 0, 1) := by decide +kernel
theorem dX1_become_2 : decode cX1_become 2 = .ok (.lload_n 1, 1) := by decide +kernel
theorem dX1_become_3 : decode cX1_become 3 = .ok (.invokevirtual 25, 3) := by decide +kernel
theorem dX1_become_6 : decode cX1_become 6 = .ok (.aload_n 0, 1) := by decide +kernel
theorem dX1_become_7 : decode cX1_become 7 = .ok (.iconst 1, 1) := by decide +kernel
theorem dX1_become_8 : decode cX1_become 8 = .ok (.lload_n 1, 1) := by decide +kernel
theorem dX1_become_9 : decode cX1_become 9 = .ok (.bipush 32, 2) := by decide +kernel
theorem dX1_become_11 : decode cX1_become 11 = .ok (.lushr, 1) := by decide +kernel
theorem dX1_become_12 : decode cX1_become 12 = .ok (.invokevirtual 25, 3) := by decide +kernel
theorem dX1_become_15 : decode cX1_become 15 = .ok (.aload_n 0, 1) := by decide +kernel
theorem dX1_become_16 : decode cX1_become 16 = .ok (.iconst 2, 1) := by decide +kernel
theorem dX1_become_17 : decode cX1_become 17 = .ok (.invokevirtual 46, 3) := by decide +kernel
theorem dX1_become_20 : decode cX1_become 20 = .ok (.return_, 1) := by decide +kernel
set_option maxRecDepth 20000 in
theorem ggX1_copy_X1_wordAt : GoodIn wsX1_copy wsX1_wordAt := goodIn_r _ [6, 7, 20, 21] (by decide +kernel) (by decide +kernel)
set_option maxRecDepth 20000 in
theorem gX1_copy_X1_wordAt : GoodIn wsX1_copy (wsV RX1 19 RX1 yX1_wordAt wsX1_wordAt) := goodIn_app (goodIn_of _ (by decide +kernel)) ggX1_copy_X1_wordAt
set_option maxRecDepth 20000 in
theorem ggX1_copy_X1_put : GoodIn wsX1_copy wsX1_put := goodIn_r _ [11, 7, 20, 21] (by decide +kernel) (by decide +kernel)
set_option maxRecDepth 20000 in
theorem gX1_copy_X1_put : GoodIn wsX1_copy (wsV RX1 25 RX1 yX1_put wsX1_put) := goodIn_app (goodIn_of _ (by decide +kernel)) ggX1_copy_X1_put
set_option maxRecDepth 20000 in
theorem ggX1_copy_X1_settle : GoodIn wsX1_copy wsX1_settle := goodIn_r _ [15, 1, 7, 16, 17, 18, 19, 8, 9, 10, 5, 11, 2, 3, 4, 6, 20, 21] (by decide +kernel) (by decide +kernel)
set_option maxRecDepth 20000 in
theorem gX1_copy_X1_settle : GoodIn wsX1_copy (wsV RX1 46 RX1 yX1_settle wsX1_settle) := goodIn_app (goodIn_of _ (by decide +kernel)) ggX1_copy_X1_settle
theorem dX1_copy_0 : decode cX1_copy 0 = .ok (.iconst 0, 1) := by decide +kernel
theorem dX1_copy_1 : decode cX1_copy 1 = .ok (.istore_n 2, 1) := by decide +kernel
theorem dX1_copy_2 : decode cX1_copy 2 = .ok (.iload_n 2, 1) := by decide +kernel
theorem dX1_copy_3 : decode cX1_copy 3 = .ok (.aload_n 1, 1) := by decide +kernel
theorem dX1_copy_4 : decode cX1_copy 4 = .ok (.getfield 15, 3) := by decide +kernel
theorem dX1_copy_7 : decode cX1_copy 7 = .ok (.if_icmp .ge 20, 3) := by decide +kernel
theorem dX1_copy_10 : decode cX1_copy 10 = .ok (.aload_n 0, 1) := by decide +kernel
theorem dX1_copy_11 : decode cX1_copy 11 = .ok (.iload_n 2, 1) := by decide +kernel
theorem dX1_copy_12 : decode cX1_copy 12 = .ok (.aload_n 1, 1) := by decide +kernel
theorem dX1_copy_13 : decode cX1_copy 13 = .ok (.iload_n 2, 1) := by decide +kernel
theorem dX1_copy_14 : decode cX1_copy 14 = .ok (.invokevirtual 19, 3) := by decide +kernel
theorem dX1_copy_17 : decode cX1_copy 17 = .ok (.i2l, 1) := by decide +kernel
theorem dX1_copy_18 : decode cX1_copy 18 = .ok (.invokevirtual 25, 3) := by decide +kernel
theorem dX1_copy_21 : decode cX1_copy 21 = .ok (.iinc 2 1, 3) := by decide +kernel
theorem dX1_copy_24 : decode cX1_copy 24 = .ok (.goto (-22), 3) := by decide +kernel
theorem dX1_copy_27 : decode cX1_copy 27 = .ok (.aload_n 0, 1) := by decide +kernel
theorem dX1_copy_28 : decode cX1_copy 28 = .ok (.aload_n 1, 1) := by decide +kernel
theorem dX1_copy_29 : decode cX1_copy 29 = .ok (.getfield 15, 3) := by decide +kernel
theorem dX1_copy_32 : decode cX1_copy 32 = .ok (.invokevirtual 46, 3) := by decide +kernel
theorem dX1_copy_35 : decode cX1_copy 35 = .ok (.return_, 1) := by decide +kernel
set_option maxRecDepth 20000 in
theorem ggX1_becomeMultiple_X1_valueAt : GoodIn wsX1_becomeMultiple wsX1_valueAt := goodIn_r _ [6, 7, 8, 9, 10, 5, 11, 12, 25, 26] (by decide +kernel) (by decide +kernel)
set_option maxRecDepth 20000 in
theorem gX1_becomeMultiple_X1_valueAt : GoodIn wsX1_becomeMultiple (wsV RX1 42 RX1 yX1_valueAt wsX1_valueAt) := goodIn_app (goodIn_of _ (by decide +kernel)) ggX1_becomeMultiple_X1_valueAt
set_option maxRecDepth 20000 in
theorem ggX1_becomeMultiple_X1_put : GoodIn wsX1_becomeMultiple wsX1_put := goodIn_r _ [16, 12, 25, 26] (by decide +kernel) (by decide +kernel)
set_option maxRecDepth 20000 in
theorem gX1_becomeMultiple_X1_put : GoodIn wsX1_becomeMultiple (wsV RX1 25 RX1 yX1_put wsX1_put) := goodIn_app (goodIn_of _ (by decide +kernel)) ggX1_becomeMultiple_X1_put
set_option maxRecDepth 20000 in
theorem ggX1_becomeMultiple_X1_settle : GoodIn wsX1_becomeMultiple wsX1_settle := goodIn_r _ [20, 1, 12, 21, 22, 23, 24, 13, 14, 15, 5, 16, 8, 9, 10, 11, 25, 26] (by decide +kernel) (by decide +kernel)
set_option maxRecDepth 20000 in
theorem gX1_becomeMultiple_X1_settle : GoodIn wsX1_becomeMultiple (wsV RX1 46 RX1 yX1_settle wsX1_settle) := goodIn_app (goodIn_of _ (by decide +kernel)) ggX1_becomeMultiple_X1_settle
theorem dX1_becomeMultiple_0 : decode cX1_becomeMultiple 0 = .ok (.iload_n 3, 1) := by decide +kernel
theorem dX1_becomeMultiple_1 : decode cX1_becomeMultiple 1 = .ok (.i2l, 1) := by decide +kernel
theorem dX1_becomeMultiple_2 : decode cX1_becomeMultiple 2 = .ok (.lstore 4, 2) := by decide +kernel
theorem dX1_becomeMultiple_4 : decode cX1_becomeMultiple 4 = .ok (.iconst 0, 1) := by decide +kernel
theorem dX1_becomeMultiple_5 : decode cX1_becomeMultiple 5 = .ok (.istore 6, 2) := by decide +kernel
theorem dX1_becomeMultiple_7 : decode cX1_becomeMultiple 7 = .ok (.iload 6, 2) := by decide +kernel
theorem dX1_becomeMultiple_9 : decode cX1_becomeMultiple 9 = .ok (.aload_n 1, 1) := by decide +kernel
theorem dX1_becomeMultiple_10 : decode cX1_becomeMultiple 10 = .ok (.getfield 15, 3) := by decide +kernel
theorem dX1_becomeMultiple_13 : decode cX1_becomeMultiple 13 = .ok (.if_icmp .ge 38, 3) := by decide +kernel
theorem dX1_becomeMultiple_16 : decode cX1_becomeMultiple 16 = .ok (.lload 4, 2) := by decide +kernel
theorem dX1_becomeMultiple_18 : decode cX1_becomeMultiple 18 = .ok (.aload_n 1, 1) := by decide +kernel
theorem dX1_becomeMultiple_19 : decode cX1_becomeMultiple 19 = .ok (.iload 6, 2) := by decide +kernel
theorem dX1_becomeMultiple_21 : decode cX1_becomeMultiple 21 = .ok (.invokevirtual 42, 3) := by decide +kernel
theorem dX1_becomeMultiple_24 : decode cX1_becomeMultiple 24 = .ok (.iload_n 2, 1) := by decide +kernel
theorem dX1_becomeMultiple_25 : decode cX1_becomeMultiple 25 = .ok (.i2l, 1) := by decide +kernel
theorem dX1_becomeMultiple_26 : decode cX1_becomeMultiple 26 = .ok (.lmul, 1) := by decide +kernel
theorem dX1_becomeMultiple_27 : decode cX1_becomeMultiple 27 = .ok (.ladd, 1) := by decide +kernel
theorem dX1_becomeMultiple_28 : decode cX1_becomeMultiple 28 = .ok (.lstore 4, 2) := by decide +kernel
theorem dX1_becomeMultiple_30 : decode cX1_becomeMultiple 30 = .ok (.aload_n 0, 1) := by decide +kernel
theorem dX1_becomeMultiple_31 : decode cX1_becomeMultiple 31 = .ok (.iload 6, 2) := by decide +kernel
theorem dX1_becomeMultiple_33 : decode cX1_becomeMultiple 33 = .ok (.lload 4, 2) := by decide +kernel
theorem dX1_becomeMultiple_35 : decode cX1_becomeMultiple 35 = .ok (.invokevirtual 25, 3) := by decide +kernel
theorem dX1_becomeMultiple_38 : decode cX1_becomeMultiple 38 = .ok (.lload 4, 2) := by decide +kernel
theorem dX1_becomeMultiple_40 : decode cX1_becomeMultiple 40 = .ok (.bipush 32, 2) := by decide +kernel
theorem dX1_becomeMultiple_42 : decode cX1_becomeMultiple 42 = .ok (.lushr, 1) := by decide +kernel
theorem dX1_becomeMultiple_43 : decode cX1_becomeMultiple 43 = .ok (.lstore 4, 2) := by decide +kernel
theorem dX1_becomeMultiple_45 : decode cX1_becomeMultiple 45 = .ok (.iinc 6 1, 3) := by decide +kernel
theorem dX1_becomeMultiple_48 : decode cX1_becomeMultiple 48 = .ok (.goto (-41), 3) := by decide +kernel
theorem dX1_becomeMultiple_51 : decode cX1_becomeMultiple 51 = .ok (.aload_n 0, 1) := by decide +kernel
theorem dX1_becomeMultiple_52 : decode cX1_becomeMultiple 52 = .ok (.aload_n 1, 1) := by decide +kernel
theorem dX1_becomeMultiple_53 : decode cX1_becomeMultiple 53 = .ok (.getfield 15, 3) := by decide +kernel
theorem dX1_becomeMultiple_56 : decode cX1_becomeMultiple 56 = .ok (.lload 4, 2) := by decide +kernel
theorem dX1_becomeMultiple_58 : decode cX1_becomeMultiple 58 = .ok (.invokevirtual 25, 3) := by decide +kernel
theorem dX1_becomeMultiple_61 : decode cX1_becomeMultiple 61 = .ok (.aload_n 0, 1) := by decide +kernel
theorem dX1_becomeMultiple_62 : decode cX1_becomeMultiple 62 = .ok (.aload_n 1, 1) := by decide +kernel
theorem dX1_becomeMultiple_63 : decode cX1_becomeMultiple 63 = .ok (.getfield 15, 3) := by decide +kernel
theorem dX1_becomeMultiple_66 : decode cX1_becomeMultiple 66 = .ok (.iconst 1, 1) := by decide +kernel
theorem dX1_becomeMultiple_67 : decode cX1_becomeMultiple 67 = .ok (.iadd, 1) := by decide +kernel
theorem dX1_becomeMultiple_68 : decode cX1_becomeMultiple 68 = .ok (.invokevirtual 46, 3) := by decide +kernel
theorem dX1_becomeMultiple_71 : decode cX1_becomeMultiple 71 = .ok (.return_, 1) := by decide +kernel
set_option maxRecDepth 20000 in
theorem ggX1_becomeSum_X1_valueAt : GoodIn wsX1_becomeSum wsX1_valueAt := goodIn_r _ [10, 11, 12, 13, 14, 9, 15, 16, 28, 29] (by decide +kernel) (by decide +kernel)
set_option maxRecDepth 20000 in
theorem gX1_becomeSum_X1_valueAt : GoodIn wsX1_becomeSum (wsV RX1 42 RX1 yX1_valueAt wsX1_valueAt) := goodIn_app (goodIn_of _ (by decide +kernel)) ggX1_becomeSum_X1_valueAt
set_option maxRecDepth 20000 in
theorem ggX1_becomeSum_X1_put : GoodIn wsX1_becomeSum wsX1_put := goodIn_r _ [20, 16, 28, 29] (by decide +kernel) (by decide +kernel)
set_option maxRecDepth 20000 in
theorem gX1_becomeSum_X1_put : GoodIn wsX1_becomeSum (wsV RX1 25 RX1 yX1_put wsX1_put) := goodIn_app (goodIn_of _ (by decide +kernel)) ggX1_becomeSum_X1_put
set_option maxRecDepth 20000 in
theorem ggX1_becomeSum_X1_settle : GoodIn wsX1_becomeSum wsX1_settle := goodIn_r _ [24, 1, 16, 25, 26, 4, 27, 17, 18, 19, 9, 20, 12, 13, 14, 15, 28, 29] (by decide +kernel) (by decide +kernel)
set_option maxRecDepth 20000 in
theorem gX1_becomeSum_X1_settle : GoodIn wsX1_becomeSum (wsV RX1 46 RX1 yX1_settle wsX1_settle) := goodIn_app (goodIn_of _ (by decide +kernel)) ggX1_becomeSum_X1_settle
theorem dX1_becomeSum_0 : decode cX1_becomeSum 0 = .ok (.aload_n 1, 1) := by decide +kernel
theorem dX1_becomeSum_1 : decode cX1_becomeSum 1 = .ok (.getfield 15, 3) := by decide +kernel
theorem dX1_becomeSum_4 : decode cX1_becomeSum 4 = .ok (.aload_n 2, 1) := by decide +kernel
theorem dX1_becomeSum_5 : decode cX1_becomeSum 5 = .ok (.getfield 15, 3) := by decide +kernel
theorem dX1_becomeSum_8 : decode cX1_becomeSum 8 = .ok (.invokestatic 39, 3) := by decide +kernel
theorem dX1_becomeSum_11 : decode cX1_becomeSum 11 = .ok (.istore_n 3, 1) := by decide +kernel
theorem dX1_becomeSum_12 : decode cX1_becomeSum 12 = .ok (.lconst 0, 1) := by decide +kernel
theorem dX1_becomeSum_13 : decode cX1_becomeSum 13 = .ok (.lstore 4, 2) := by decide +kernel
theorem dX1_becomeSum_15 : decode cX1_becomeSum 15 = .ok (.iconst 0, 1) := by decide +kernel
theorem dX1_becomeSum_16 : decode cX1_becomeSum 16 = .ok (.istore 6, 2) := by decide +kernel
theorem dX1_becomeSum_18 : decode cX1_becomeSum 18 = .ok (.iload 6, 2) := by decide +kernel
theorem dX1_becomeSum_20 : decode cX1_becomeSum 20 = .ok (.iload_n 3, 1) := by decide +kernel
theorem dX1_becomeSum_21 : decode cX1_becomeSum 21 = .ok (.if_icmp .ge 42, 3) := by decide +kernel
theorem dX1_becomeSum_24 : decode cX1_becomeSum 24 = .ok (.lload 4, 2) := by decide +kernel
theorem dX1_becomeSum_26 : decode cX1_becomeSum 26 = .ok (.aload_n 1, 1) := by decide +kernel
theorem dX1_becomeSum_27 : decode cX1_becomeSum 27 = .ok (.iload 6, 2) := by decide +kernel
theorem dX1_becomeSum_29 : decode cX1_becomeSum 29 = .ok (.invokevirtual 42, 3) := by decide +kernel
theorem dX1_becomeSum_32 : decode cX1_becomeSum 32 = .ok (.aload_n 2, 1) := by decide +kernel
theorem dX1_becomeSum_33 : decode cX1_becomeSum 33 = .ok (.iload 6, 2) := by decide +kernel
theorem dX1_becomeSum_35 : decode cX1_becomeSum 35 = .ok (.invokevirtual 42, 3) := by decide +kernel
theorem dX1_becomeSum_38 : decode cX1_becomeSum 38 = .ok (.ladd, 1) := by decide +kernel
theorem dX1_becomeSum_39 : decode cX1_becomeSum 39 = .ok (.ladd, 1) := by decide +kernel
theorem dX1_becomeSum_40 : decode cX1_becomeSum 40 = .ok (.lstore 4, 2) := by decide +kernel
theorem dX1_becomeSum_42 : decode cX1_becomeSum 42 = .ok (.aload_n 0, 1) := by decide +kernel
theorem dX1_becomeSum_43 : decode cX1_becomeSum 43 = .ok (.iload 6, 2) := by decide +kernel
theorem dX1_becomeSum_45 : decode cX1_becomeSum 45 = .ok (.lload 4, 2) := by decide +kernel
theorem dX1_becomeSum_47 : decode cX1_becomeSum 47 = .ok (.invokevirtual 25, 3) := by decide +kernel
theorem dX1_becomeSum_50 : decode cX1_becomeSum 50 = .ok (.lload 4, 2) := by decide +kernel
theorem dX1_becomeSum_52 : decode cX1_becomeSum 52 = .ok (.bipush 32, 2) := by decide +kernel
theorem dX1_becomeSum_54 : decode cX1_becomeSum 54 = .ok (.lushr, 1) := by decide +kernel
theorem dX1_becomeSum_55 : decode cX1_becomeSum 55 = .ok (.lstore 4, 2) := by decide +kernel
theorem dX1_becomeSum_57 : decode cX1_becomeSum 57 = .ok (.iinc 6 1, 3) := by decide +kernel
theorem dX1_becomeSum_60 : decode cX1_becomeSum 60 = .ok (.goto (-42), 3) := by decide +kernel
theorem dX1_becomeSum_63 : decode cX1_becomeSum 63 = .ok (.aload_n 0, 1) := by decide +kernel
theorem dX1_becomeSum_64 : decode cX1_becomeSum 64 = .ok (.iload_n 3, 1) := by decide +kernel
theorem dX1_becomeSum_65 : decode cX1_becomeSum 65 = .ok (.lload 4, 2) := by decide +kernel
theorem dX1_becomeSum_67 : decode cX1_becomeSum 67 = .ok (.invokevirtual 25, 3) := by decide +kernel
theorem dX1_becomeSum_70 : decode cX1_becomeSum 70 = .ok (.aload_n 0, 1) := by decide +kernel
theorem dX1_becomeSum_71 : decode cX1_becomeSum 71 = .ok (.iload_n 3, 1) := by decide +kernel
theorem dX1_becomeSum_72 : decode cX1_becomeSum 72 = .ok (.iconst 1, 1) := by decide +kernel
theorem dX1_becomeSum_73 : decode cX1_becomeSum 73 = .ok (.iadd, 1) := by decide +kernel
theorem dX1_becomeSum_74 : decode cX1_becomeSum 74 = .ok (.invokevirtual 46, 3) := by decide +kernel
theorem dX1_becomeSum_77 : decode cX1_becomeSum 77 = .ok (.return_, 1) := by decide +kernel
set_option maxRecDepth 20000 in
theorem ggX1_becomeDifference_X1_valueAt : GoodIn wsX1_becomeDifference wsX1_valueAt := goodIn_r _ [6, 7, 8, 9, 10, 5, 11, 12, 25, 26] (by decide +kernel) (by decide +kernel)
set_option maxRecDepth 20000 in
theorem gX1_becomeDifference_X1_valueAt : GoodIn wsX1_becomeDifference (wsV RX1 42 RX1 yX1_valueAt wsX1_valueAt) := goodIn_app (goodIn_of _ (by decide +kernel)) ggX1_becomeDifference_X1_valueAt
set_option maxRecDepth 20000 in
theorem ggX1_becomeDifference_X1_put : GoodIn wsX1_becomeDifference wsX1_put := goodIn_r _ [16, 12, 25, 26] (by decide +kernel) (by decide +kernel)
set_option maxRecDepth 20000 in
theorem gX1_becomeDifference_X1_put : GoodIn wsX1_becomeDifference (wsV RX1 25 RX1 yX1_put wsX1_put) := goodIn_app (goodIn_of _ (by decide +kernel)) ggX1_becomeDifference_X1_put
set_option maxRecDepth 20000 in
theorem ggX1_becomeDifference_X1_settle : GoodIn wsX1_becomeDifference wsX1_settle := goodIn_r _ [20, 1, 12, 21, 22, 23, 24, 13, 14, 15, 5, 16, 8, 9, 10, 11, 25, 26] (by decide +kernel) (by decide +kernel)
set_option maxRecDepth 20000 in
theorem gX1_becomeDifference_X1_settle : GoodIn wsX1_becomeDifference (wsV RX1 46 RX1 yX1_settle wsX1_settle) := goodIn_app (goodIn_of _ (by decide +kernel)) ggX1_becomeDifference_X1_settle
theorem dX1_becomeDifference_0 : decode cX1_becomeDifference 0 = .ok (.lconst 0, 1) := by decide +kernel
theorem dX1_becomeDifference_1 : decode cX1_becomeDifference 1 = .ok (.lstore_n 3, 1) := by decide +kernel
theorem dX1_becomeDifference_2 : decode cX1_becomeDifference 2 = .ok (.iconst 0, 1) := by decide +kernel
theorem dX1_becomeDifference_3 : decode cX1_becomeDifference 3 = .ok (.istore 5, 2) := by decide +kernel
theorem dX1_becomeDifference_5 : decode cX1_becomeDifference 5 = .ok (.iload 5, 2) := by decide +kernel
theorem dX1_becomeDifference_7 : decode cX1_becomeDifference 7 = .ok (.aload_n 1, 1) := by decide +kernel
theorem dX1_becomeDifference_8 : decode cX1_becomeDifference 8 = .ok (.getfield 15, 3) := by decide +kernel
theorem dX1_becomeDifference_11 : decode cX1_becomeDifference 11 = .ok (.if_icmp .ge 37, 3) := by decide +kernel
theorem dX1_becomeDifference_14 : decode cX1_becomeDifference 14 = .ok (.lload_n 3, 1) := by decide +kernel
theorem dX1_becomeDifference_15 : decode cX1_becomeDifference 15 = .ok (.aload_n 1, 1) := by decide +kernel
theorem dX1_becomeDifference_16 : decode cX1_becomeDifference 16 = .ok (.iload 5, 2) := by decide +kernel
theorem dX1_becomeDifference_18 : decode cX1_becomeDifference 18 = .ok (.invokevirtual 42, 3) := by decide +kernel
theorem dX1_becomeDifference_21 : decode cX1_becomeDifference 21 = .ok (.aload_n 2, 1) := by decide +kernel
theorem dX1_becomeDifference_22 : decode cX1_becomeDifference 22 = .ok (.iload 5, 2) := by decide +kernel
theorem dX1_becomeDifference_24 : decode cX1_becomeDifference 24 = .ok (.invokevirtual 42, 3) := by decide +kernel
theorem dX1_becomeDifference_27 : decode cX1_becomeDifference 27 = .ok (.lsub, 1) := by decide +kernel
theorem dX1_becomeDifference_28 : decode cX1_becomeDifference 28 = .ok (.ladd, 1) := by decide +kernel
theorem dX1_becomeDifference_29 : decode cX1_becomeDifference 29 = .ok (.lstore_n 3, 1) := by decide +kernel
theorem dX1_becomeDifference_30 : decode cX1_becomeDifference 30 = .ok (.aload_n 0, 1) := by decide +kernel
theorem dX1_becomeDifference_31 : decode cX1_becomeDifference 31 = .ok (.iload 5, 2) := by decide +kernel
theorem dX1_becomeDifference_33 : decode cX1_becomeDifference 33 = .ok (.lload_n 3, 1) := by decide +kernel
theorem dX1_becomeDifference_34 : decode cX1_becomeDifference 34 = .ok (.invokevirtual 25, 3) := by decide +kernel
theorem dX1_becomeDifference_37 : decode cX1_becomeDifference 37 = .ok (.lload_n 3, 1) := by decide +kernel
theorem dX1_becomeDifference_38 : decode cX1_becomeDifference 38 = .ok (.bipush 32, 2) := by decide +kernel
theorem dX1_becomeDifference_40 : decode cX1_becomeDifference 40 = .ok (.lshr, 1) := by decide +kernel
theorem dX1_becomeDifference_41 : decode cX1_becomeDifference 41 = .ok (.lstore_n 3, 1) := by decide +kernel
theorem dX1_becomeDifference_42 : decode cX1_becomeDifference 42 = .ok (.iinc 5 1, 3) := by decide +kernel
theorem dX1_becomeDifference_45 : decode cX1_becomeDifference 45 = .ok (.goto (-40), 3) := by decide +kernel
theorem dX1_becomeDifference_48 : decode cX1_becomeDifference 48 = .ok (.aload_n 0, 1) := by decide +kernel
theorem dX1_becomeDifference_49 : decode cX1_becomeDifference 49 = .ok (.aload_n 1, 1) := by decide +kernel
theorem dX1_becomeDifference_50 : decode cX1_becomeDifference 50 = .ok (.getfield 15, 3) := by decide +kernel
theorem dX1_becomeDifference_53 : decode cX1_becomeDifference 53 = .ok (.invokevirtual 46, 3) := by decide +kernel
theorem dX1_becomeDifference_56 : decode cX1_becomeDifference 56 = .ok (.return_, 1) := by decide +kernel
set_option maxRecDepth 20000 in
theorem ggX1_becomeProduct_X1_settle : GoodIn wsX1_becomeProduct wsX1_settle := goodIn_r _ [6, 1, 7, 8, 9, 10, 11, 12, 13, 14, 5, 15, 16, 17, 18, 19, 29, 30] (by decide +kernel) (by decide +kernel)
set_option maxRecDepth 20000 in
theorem gX1_becomeProduct_X1_settle : GoodIn wsX1_becomeProduct (wsV RX1 46 RX1 yX1_settle wsX1_settle) := goodIn_app (goodIn_of _ (by decide +kernel)) ggX1_becomeProduct_X1_settle
set_option maxRecDepth 20000 in
theorem ggX1_becomeProduct_X1_valueAt : GoodIn wsX1_becomeProduct wsX1_valueAt := goodIn_r _ [23, 24, 16, 17, 18, 5, 19, 7, 29, 30] (by decide +kernel) (by decide +kernel)
set_option maxRecDepth 20000 in
theorem gX1_becomeProduct_X1_valueAt : GoodIn wsX1_becomeProduct (wsV RX1 42 RX1 yX1_valueAt wsX1_valueAt) := goodIn_app (goodIn_of _ (by decide +kernel)) ggX1_becomeProduct_X1_valueAt
set_option maxRecDepth 20000 in
theorem ggX1_becomeProduct_X1_addMultiple : GoodIn wsX1_becomeProduct wsX1_addMultiple := goodIn_r _ [28, 1, 20, 21, 22, 5, 23, 24, 16, 17, 18, 19, 7, 12, 13, 14, 15, 29, 30] (by decide +kernel) (by decide +kernel)
set_option maxRecDepth 20000 in
theorem gX1_becomeProduct_X1_addMultiple : GoodIn wsX1_becomeProduct (wsV RX1 50 RX1 yX1_addMultiple wsX1_addMultiple) := goodIn_app (goodIn_of _ (by decide +kernel)) ggX1_becomeProduct_X1_addMultiple
theorem dX1_becomeProduct_0 : decode cX1_becomeProduct 0 = .ok (.aload_n 0, 1) := by decide +kernel
theorem dX1_becomeProduct_1 : decode cX1_becomeProduct 1 = .ok (.iconst 0, 1) := by decide +kernel
theorem dX1_becomeProduct_2 : decode cX1_becomeProduct 2 = .ok (.invokevirtual 46, 3) := by decide +kernel
theorem dX1_becomeProduct_5 : decode cX1_becomeProduct 5 = .ok (.iconst 0, 1) := by decide +kernel
theorem dX1_becomeProduct_6 : decode cX1_becomeProduct 6 = .ok (.istore_n 3, 1) := by decide +kernel
theorem dX1_becomeProduct_7 : decode cX1_becomeProduct 7 = .ok (.iload_n 3, 1) := by decide +kernel
theorem dX1_becomeProduct_8 : decode cX1_becomeProduct 8 = .ok (.aload_n 1, 1) := by decide +kernel
theorem dX1_becomeProduct_9 : decode cX1_becomeProduct 9 = .ok (.getfield 15, 3) := by decide +kernel
theorem dX1_becomeProduct_12 : decode cX1_becomeProduct 12 = .ok (.if_icmp .ge 20, 3) := by decide +kernel
theorem dX1_becomeProduct_15 : decode cX1_becomeProduct 15 = .ok (.aload_n 0, 1) := by decide +kernel
theorem dX1_becomeProduct_16 : decode cX1_becomeProduct 16 = .ok (.aload_n 2, 1) := by decide +kernel
theorem dX1_becomeProduct_17 : decode cX1_becomeProduct 17 = .ok (.aload_n 1, 1) := by decide +kernel
theorem dX1_becomeProduct_18 : decode cX1_becomeProduct 18 = .ok (.iload_n 3, 1) := by decide +kernel
theorem dX1_becomeProduct_19 : decode cX1_becomeProduct 19 = .ok (.invokevirtual 42, 3) := by decide +kernel
theorem dX1_becomeProduct_22 : decode cX1_becomeProduct 22 = .ok (.iload_n 3, 1) := by decide +kernel
theorem dX1_becomeProduct_23 : decode cX1_becomeProduct 23 = .ok (.invokevirtual 50, 3) := by decide +kernel
theorem dX1_becomeProduct_26 : decode cX1_becomeProduct 26 = .ok (.iinc 3 1, 3) := by decide +kernel
theorem dX1_becomeProduct_29 : decode cX1_becomeProduct 29 = .ok (.goto (-22), 3) := by decide +kernel
theorem dX1_becomeProduct_32 : decode cX1_becomeProduct 32 = .ok (.aload_n 0, 1) := by decide +kernel
theorem dX1_becomeProduct_33 : decode cX1_becomeProduct 33 = .ok (.aload_n 1, 1) := by decide +kernel
theorem dX1_becomeProduct_34 : decode cX1_becomeProduct 34 = .ok (.getfield 15, 3) := by decide +kernel
theorem dX1_becomeProduct_37 : decode cX1_becomeProduct 37 = .ok (.aload_n 2, 1) := by decide +kernel
theorem dX1_becomeProduct_38 : decode cX1_becomeProduct 38 = .ok (.getfield 15, 3) := by decide +kernel
theorem dX1_becomeProduct_41 : decode cX1_becomeProduct 41 = .ok (.iadd, 1) := by decide +kernel
theorem dX1_becomeProduct_42 : decode cX1_becomeProduct 42 = .ok (.invokevirtual 46, 3) := by decide +kernel
theorem dX1_becomeProduct_45 : decode cX1_becomeProduct 45 = .ok (.return_, 1) := by decide +kernel
set_option maxRecDepth 20000 in
theorem ggX1_addMultiple_X1_valueAt : GoodIn wsX1_addMultiple wsX1_valueAt := goodIn_r _ [6, 7, 8, 9, 10, 5, 11, 12, 17, 18] (by decide +kernel) (by decide +kernel)
set_option maxRecDepth 20000 in
theorem gX1_addMultiple_X1_valueAt : GoodIn wsX1_addMultiple (wsV RX1 42 RX1 yX1_valueAt wsX1_valueAt) := goodIn_app (goodIn_of _ (by decide +kernel)) ggX1_addMultiple_X1_valueAt
set_option maxRecDepth 20000 in
theorem ggX1_addMultiple_X1_put : GoodIn wsX1_addMultiple wsX1_put := goodIn_r _ [16, 12, 17, 18] (by decide +kernel) (by decide +kernel)
set_option maxRecDepth 20000 in
theorem gX1_addMultiple_X1_put : GoodIn wsX1_addMultiple (wsV RX1 25 RX1 yX1_put wsX1_put) := goodIn_app (goodIn_of _ (by decide +kernel)) ggX1_addMultiple_X1_put
theorem dX1_addMultiple_0 : decode cX1_addMultiple 0 = .ok (.lconst 0, 1) := by decide +kernel
theorem dX1_addMultiple_1 : decode cX1_addMultiple 1 = .ok (.lstore 5, 2) := by decide +kernel
theorem dX1_addMultiple_3 : decode cX1_addMultiple 3 = .ok (.iconst 0, 1) := by decide +kernel
theorem dX1_addMultiple_4 : decode cX1_addMultiple 4 = .ok (.istore 7, 2) := by decide +kernel
theorem dX1_addMultiple_6 : decode cX1_addMultiple 6 = .ok (.iload 7, 2) := by decide +kernel
theorem dX1_addMultiple_8 : decode cX1_addMultiple 8 = .ok (.aload_n 1, 1) := by decide +kernel
theorem dX1_addMultiple_9 : decode cX1_addMultiple 9 = .ok (.getfield 15, 3) := by decide +kernel
theorem dX1_addMultiple_12 : decode cX1_addMultiple 12 = .ok (.if_icmp .ge 50, 3) := by decide +kernel
theorem dX1_addMultiple_15 : decode cX1_addMultiple 15 = .ok (.lload 5, 2) := by decide +kernel
theorem dX1_addMultiple_17 : decode cX1_addMultiple 17 = .ok (.aload_n 1, 1) := by decide +kernel
theorem dX1_addMultiple_18 : decode cX1_addMultiple 18 = .ok (.iload 7, 2) := by decide +kernel
theorem dX1_addMultiple_20 : decode cX1_addMultiple 20 = .ok (.invokevirtual 42, 3) := by decide +kernel
theorem dX1_addMultiple_23 : decode cX1_addMultiple 23 = .ok (.lload_n 2, 1) := by decide +kernel
theorem dX1_addMultiple_24 : decode cX1_addMultiple 24 = .ok (.lmul, 1) := by decide +kernel
theorem dX1_addMultiple_25 : decode cX1_addMultiple 25 = .ok (.aload_n 0, 1) := by decide +kernel
theorem dX1_addMultiple_26 : decode cX1_addMultiple 26 = .ok (.iload 4, 2) := by decide +kernel
theorem dX1_addMultiple_28 : decode cX1_addMultiple 28 = .ok (.iload 7, 2) := by decide +kernel
theorem dX1_addMultiple_30 : decode cX1_addMultiple 30 = .ok (.iadd, 1) := by decide +kernel
theorem dX1_addMultiple_31 : decode cX1_addMultiple 31 = .ok (.invokevirtual 42, 3) := by decide +kernel
theorem dX1_addMultiple_34 : decode cX1_addMultiple 34 = .ok (.ladd, 1) := by decide +kernel
theorem dX1_addMultiple_35 : decode cX1_addMultiple 35 = .ok (.ladd, 1) := by decide +kernel
theorem dX1_addMultiple_36 : decode cX1_addMultiple 36 = .ok (.lstore 5, 2) := by decide +kernel
theorem dX1_addMultiple_38 : decode cX1_addMultiple 38 = .ok (.aload_n 0, 1) := by decide +kernel
theorem dX1_addMultiple_39 : decode cX1_addMultiple 39 = .ok (.iload 4, 2) := by decide +kernel
theorem dX1_addMultiple_41 : decode cX1_addMultiple 41 = .ok (.iload 7, 2) := by decide +kernel
theorem dX1_addMultiple_43 : decode cX1_addMultiple 43 = .ok (.iadd, 1) := by decide +kernel
theorem dX1_addMultiple_44 : decode cX1_addMultiple 44 = .ok (.lload 5, 2) := by decide +kernel
theorem dX1_addMultiple_46 : decode cX1_addMultiple 46 = .ok (.invokevirtual 25, 3) := by decide +kernel
theorem dX1_addMultiple_49 : decode cX1_addMultiple 49 = .ok (.lload 5, 2) := by decide +kernel
theorem dX1_addMultiple_51 : decode cX1_addMultiple 51 = .ok (.bipush 32, 2) := by decide +kernel
theorem dX1_addMultiple_53 : decode cX1_addMultiple 53 = .ok (.lushr, 1) := by decide +kernel
theorem dX1_addMultiple_54 : decode cX1_addMultiple 54 = .ok (.lstore 5, 2) := by decide +kernel
theorem dX1_addMultiple_56 : decode cX1_addMultiple 56 = .ok (.iinc 7 1, 3) := by decide +kernel
theorem dX1_addMultiple_59 : decode cX1_addMultiple 59 = .ok (.goto (-53), 3) := by decide +kernel
theorem dX1_addMultiple_62 : decode cX1_addMultiple 62 = .ok (.aload_n 0, 1) := by decide +kernel
theorem dX1_addMultiple_63 : decode cX1_addMultiple 63 = .ok (.iload 4, 2) := by decide +kernel
theorem dX1_addMultiple_65 : decode cX1_addMultiple 65 = .ok (.aload_n 1, 1) := by decide +kernel
theorem dX1_addMultiple_66 : decode cX1_addMultiple 66 = .ok (.getfield 15, 3) := by decide +kernel
theorem dX1_addMultiple_69 : decode cX1_addMultiple 69 = .ok (.iadd, 1) := by decide +kernel
theorem dX1_addMultiple_70 : decode cX1_addMultiple 70 = .ok (.lload 5, 2) := by decide +kernel
theorem dX1_addMultiple_72 : decode cX1_addMultiple 72 = .ok (.invokevirtual 25, 3) := by decide +kernel
theorem dX1_addMultiple_75 : decode cX1_addMultiple 75 = .ok (.return_, 1) := by decide +kernel
set_option maxRecDepth 20000 in
theorem ggX1_shiftUp_X1_valueAt : GoodIn wsX1_shiftUp wsX1_valueAt := goodIn_r _ [6, 7, 8, 9, 10, 5, 11, 12, 25, 26] (by decide +kernel) (by decide +kernel)
set_option maxRecDepth 20000 in
theorem gX1_shiftUp_X1_valueAt : GoodIn wsX1_shiftUp (wsV RX1 42 RX1 yX1_valueAt wsX1_valueAt) := goodIn_app (goodIn_of _ (by decide +kernel)) ggX1_shiftUp_X1_valueAt
set_option maxRecDepth 20000 in
theorem ggX1_shiftUp_X1_put : GoodIn wsX1_shiftUp wsX1_put := goodIn_r _ [16, 12, 25, 26] (by decide +kernel) (by decide +kernel)
set_option maxRecDepth 20000 in
theorem gX1_shiftUp_X1_put : GoodIn wsX1_shiftUp (wsV RX1 25 RX1 yX1_put wsX1_put) := goodIn_app (goodIn_of _ (by decide +kernel)) ggX1_shiftUp_X1_put
set_option maxRecDepth 20000 in
theorem ggX1_shiftUp_X1_settle : GoodIn wsX1_shiftUp wsX1_settle := goodIn_r _ [20, 1, 12, 21, 22, 23, 24, 13, 14, 15, 5, 16, 8, 9, 10, 11, 25, 26] (by decide +kernel) (by decide +kernel)
set_option maxRecDepth 20000 in
theorem gX1_shiftUp_X1_settle : GoodIn wsX1_shiftUp (wsV RX1 46 RX1 yX1_settle wsX1_settle) := goodIn_app (goodIn_of _ (by decide +kernel)) ggX1_shiftUp_X1_settle
theorem dX1_shiftUp_0 : decode cX1_shiftUp 0 = .ok (.iload_n 1, 1) := by decide +kernel
theorem dX1_shiftUp_1 : decode cX1_shiftUp 1 = .ok (.iconst 5, 1) := by decide +kernel
theorem dX1_shiftUp_2 : decode cX1_shiftUp 2 = .ok (.ishr, 1) := by decide +kernel
theorem dX1_shiftUp_3 : decode cX1_shiftUp 3 = .ok (.istore_n 2, 1) := by decide +kernel
theorem dX1_shiftUp_4 : decode cX1_shiftUp 4 = .ok (.iload_n 1, 1) := by decide +kernel
theorem dX1_shiftUp_5 : decode cX1_shiftUp 5 = .ok (.bipush 31, 2) := by decide +kernel
theorem dX1_shiftUp_7 : decode cX1_shiftUp 7 = .ok (.iand, 1) := by decide +kernel
theorem dX1_shiftUp_8 : decode cX1_shiftUp 8 = .ok (.istore_n 3, 1) := by decide +kernel
theorem dX1_shiftUp_9 : decode cX1_shiftUp 9 = .ok (.aload_n 0, 1) := by decide +kernel
theorem dX1_shiftUp_10 : decode cX1_shiftUp 10 = .ok (.getfield 15, 3) := by decide +kernel
theorem dX1_shiftUp_13 : decode cX1_shiftUp 13 = .ok (.iload_n 2, 1) := by decide +kernel
theorem dX1_shiftUp_14 : decode cX1_shiftUp 14 = .ok (.iadd, 1) := by decide +kernel
theorem dX1_shiftUp_15 : decode cX1_shiftUp 15 = .ok (.iconst 1, 1) := by decide +kernel
theorem dX1_shiftUp_16 : decode cX1_shiftUp 16 = .ok (.iadd, 1) := by decide +kernel
theorem dX1_shiftUp_17 : decode cX1_shiftUp 17 = .ok (.istore 4, 2) := by decide +kernel
theorem dX1_shiftUp_19 : decode cX1_shiftUp 19 = .ok (.iload 4, 2) := by decide +kernel
theorem dX1_shiftUp_21 : decode cX1_shiftUp 21 = .ok (.iconst 1, 1) := by decide +kernel
theorem dX1_shiftUp_22 : decode cX1_shiftUp 22 = .ok (.isub, 1) := by decide +kernel
theorem dX1_shiftUp_23 : decode cX1_shiftUp 23 = .ok (.istore 5, 2) := by decide +kernel
theorem dX1_shiftUp_25 : decode cX1_shiftUp 25 = .ok (.iload 5, 2) := by decide +kernel
theorem dX1_shiftUp_27 : decode cX1_shiftUp 27 = .ok (.ifCond .lt 46, 3) := by decide +kernel
theorem dX1_shiftUp_30 : decode cX1_shiftUp 30 = .ok (.aload_n 0, 1) := by decide +kernel
theorem dX1_shiftUp_31 : decode cX1_shiftUp 31 = .ok (.iload 5, 2) := by decide +kernel
theorem dX1_shiftUp_33 : decode cX1_shiftUp 33 = .ok (.iload_n 2, 1) := by decide +kernel
theorem dX1_shiftUp_34 : decode cX1_shiftUp 34 = .ok (.isub, 1) := by decide +kernel
theorem dX1_shiftUp_35 : decode cX1_shiftUp 35 = .ok (.invokevirtual 42, 3) := by decide +kernel
theorem dX1_shiftUp_38 : decode cX1_shiftUp 38 = .ok (.bipush 32, 2) := by decide +kernel
theorem dX1_shiftUp_40 : decode cX1_shiftUp 40 = .ok (.lshl, 1) := by decide +kernel
theorem dX1_shiftUp_41 : decode cX1_shiftUp 41 = .ok (.aload_n 0, 1) := by decide +kernel
theorem dX1_shiftUp_42 : decode cX1_shiftUp 42 = .ok (.iload 5, 2) := by decide +kernel
theorem dX1_shiftUp_44 : decode cX1_shiftUp 44 = .ok (.iload_n 2, 1) := by decide +kernel
theorem dX1_shiftUp_45 : decode cX1_shiftUp 45 = .ok (.isub, 1) := by decide +kernel
end
section
theorem dX1_shiftUp_46 : decode cX1_shiftUp 46 = .ok (.iconst 1, 1) := by decide +kernel
theorem dX1_shiftUp_47 : decode cX1_shiftUp 47 = .ok (.isub, 1) := by decide +kernel
theorem dX1_shiftUp_48 : decode cX1_shiftUp 48 = .ok (.invokevirtual 42, 3) := by decide +kernel
theorem dX1_shiftUp_51 : decode cX1_shiftUp 51 = .ok (.lor, 1) := by decide +kernel
theorem dX1_shiftUp_52 : decode cX1_shiftUp 52 = .ok (.lstore 6, 2) := by decide +kernel
theorem dX1_shiftUp_54 : decode cX1_shiftUp 54 = .ok (.aload_n 0, 1) := by decide +kernel
theorem dX1_shiftUp_55 : decode cX1_shiftUp 55 = .ok (.iload 5, 2) := by decide +kernel
theorem dX1_shiftUp_57 : decode cX1_shiftUp 57 = .ok (.lload 6, 2) := by decide +kernel
theorem dX1_shiftUp_59 : decode cX1_shiftUp 59 = .ok (.bipush 32, 2) := by decide +kernel
theorem dX1_shiftUp_61 : decode cX1_shiftUp 61 = .ok (.iload_n 3, 1) := by decide +kernel
theorem dX1_shiftUp_62 : decode cX1_shiftUp 62 = .ok (.isub, 1) := by decide +kernel
theorem dX1_shiftUp_63 : decode cX1_shiftUp 63 = .ok (.lushr, 1) := by decide +kernel
theorem dX1_shiftUp_64 : decode cX1_shiftUp 64 = .ok (.invokevirtual 25, 3) := by decide +kernel
theorem dX1_shiftUp_67 : decode cX1_shiftUp 67 = .ok (.iinc 5 (-1), 3) := by decide +kernel
theorem dX1_shiftUp_70 : decode cX1_shiftUp 70 = .ok (.goto (-45), 3) := by decide +kernel
theorem dX1_shiftUp_73 : decode cX1_shiftUp 73 = .ok (.aload_n 0, 1) := by decide +kernel
theorem dX1_shiftUp_74 : decode cX1_shiftUp 74 = .ok (.iload 4, 2) := by decide +kernel
theorem dX1_shiftUp_76 : decode cX1_shiftUp 76 = .ok (.invokevirtual 46, 3) := by decide +kernel
theorem dX1_shiftUp_79 : decode cX1_shiftUp 79 = .ok (.return_, 1) := by decide +kernel
set_option maxRecDepth 20000 in
theorem ggX2_init_X0_init : GoodIn wsX2_init wsX0_init := goodIn_r _ [16, 17, 2, 3, 18, 10, 11, 19, 20, 21, 22, 23, 24, 25, 26, 27, 28, 29, 30, 6, 31, 32, 33, 34, 35, 36, 37, 38, 39, 40, 41, 42, 43, 44, 45, 46, 47, 48, 49, 50, 51, 52, 53, 63, 64, 55, 56, 57, 58] (by decide +kernel) (by decide +kernel)
set_option maxRecDepth 20000 in
theorem gX2_init_X0_init : GoodIn wsX2_init (wsX0_init) := ggX2_init_X0_init
set_option maxRecDepth 20000 in
theorem ggX2_init_X1_init : GoodIn wsX2_init wsX1_init := goodIn_r _ [23, 24, 2, 3, 25, 26, 27, 63, 64] (by decide +kernel) (by decide +kernel)
set_option maxRecDepth 20000 in
theorem gX2_init_X1_init : GoodIn wsX2_init (wsX1_init) := ggX2_init_X1_init
theorem dX2_init_0 : decode cX2_init 0 = .ok (.aload_n 0, 1) := by decide +kernel
theorem dX2_init_1 : decode cX2_init 1 = .ok (.invokespecial 3, 3) := by decide +kernel
theorem dX2_init_4 : decode cX2_init 4 = .ok (.aload_n 0, 1) := by decide +kernel
theorem dX2_init_5 : decode cX2_init 5 = .ok (.new 9, 3) := by decide +kernel
theorem dX2_init_8 : decode cX2_init 8 = .ok (.dup, 1) := by decide +kernel
theorem dX2_init_9 : decode cX2_init 9 = .ok (.invokespecial 11, 3) := by decide +kernel
theorem dX2_init_12 : decode cX2_init 12 = .ok (.putfield 12, 3) := by decide +kernel
theorem dX2_init_15 : decode cX2_init 15 = .ok (.aload_n 0, 1) := by decide +kernel
theorem dX2_init_16 : decode cX2_init 16 = .ok (.new 9, 3) := by decide +kernel
theorem dX2_init_19 : decode cX2_init 19 = .ok (.dup, 1) := by decide +kernel
theorem dX2_init_20 : decode cX2_init 20 = .ok (.invokespecial 11, 3) := by decide +kernel
theorem dX2_init_23 : decode cX2_init 23 = .ok (.putfield 16, 3) := by decide +kernel
theorem dX2_init_26 : decode cX2_init 26 = .ok (.aload_n 0, 1) := by decide +kernel
theorem dX2_init_27 : decode cX2_init 27 = .ok (.new 19, 3) := by decide +kernel
theorem dX2_init_30 : decode cX2_init 30 = .ok (.dup, 1) := by decide +kernel
theorem dX2_init_31 : decode cX2_init 31 = .ok (.invokespecial 21, 3) := by decide +kernel
theorem dX2_init_34 : decode cX2_init 34 = .ok (.putfield 22, 3) := by decide +kernel
theorem dX2_init_37 : decode cX2_init 37 = .ok (.aload_n 0, 1) := by decide +kernel
theorem dX2_init_38 : decode cX2_init 38 = .ok (.new 19, 3) := by decide +kernel
theorem dX2_init_41 : decode cX2_init 41 = .ok (.dup, 1) := by decide +kernel
theorem dX2_init_42 : decode cX2_init 42 = .ok (.invokespecial 21, 3) := by decide +kernel
theorem dX2_init_45 : decode cX2_init 45 = .ok (.putfield 26, 3) := by decide +kernel
theorem dX2_init_48 : decode cX2_init 48 = .ok (.return_, 1) := by decide +kernel
set_option maxRecDepth 20000 in
theorem ggX2_begin_X2_numberOf : GoodIn wsX2_begin wsX2_numberOf := goodIn_r _ [5, 6, 7, 40, 41, 42, 43] (by decide +kernel) (by decide +kernel)
set_option maxRecDepth 20000 in
theorem gX2_begin_X2_numberOf : GoodIn wsX2_begin (wsV RX2 29 RX2 yX2_numberOf wsX2_numberOf) := goodIn_app (goodIn_of _ (by decide +kernel)) ggX2_begin_X2_numberOf
set_option maxRecDepth 20000 in
theorem ggX2_begin_X0_restart : GoodIn wsX2_begin wsX0_restart := goodIn_r _ [12, 13, 14, 15, 16, 17, 18, 19, 20, 21, 22, 23, 24, 25, 26, 27, 28, 29, 30, 31, 32, 33, 34, 35, 36, 37, 38, 39, 44, 45, 46, 47, 48, 49] (by decide +kernel) (by decide +kernel)
set_option maxRecDepth 20000 in
theorem gX2_begin_X0_restart : GoodIn wsX2_begin (wsV RX2 33 RX0 yX0_restart wsX0_restart) := goodIn_app (goodIn_of _ (by decide +kernel)) ggX2_begin_X0_restart
theorem dX2_begin_0 : decode cX2_begin 0 = .ok (.aload_n 0, 1) := by decide +kernel
theorem dX2_begin_1 : decode cX2_begin 1 = .ok (.iload_n 1, 1) := by decide +kernel
theorem dX2_begin_2 : decode cX2_begin 2 = .ok (.invokevirtual 29, 3) := by decide +kernel
theorem dX2_begin_5 : decode cX2_begin 5 = .ok (.astore_n 2, 1) := by decide +kernel
theorem dX2_begin_6 : decode cX2_begin 6 = .ok (.aload_n 2, 1) := by decide +kernel
theorem dX2_begin_7 : decode cX2_begin 7 = .ok (.ifnonnull 5, 3) := by decide +kernel
theorem dX2_begin_10 : decode cX2_begin 10 = .ok (.iconst (-1), 1) := by decide +kernel
theorem dX2_begin_11 : decode cX2_begin 11 = .ok (.ireturn, 1) := by decide +kernel
theorem dX2_begin_12 : decode cX2_begin 12 = .ok (.aload_n 2, 1) := by decide +kernel
theorem dX2_begin_13 : decode cX2_begin 13 = .ok (.invokevirtual 33, 3) := by decide +kernel
theorem dX2_begin_16 : decode cX2_begin 16 = .ok (.iconst 0, 1) := by decide +kernel
theorem dX2_begin_17 : decode cX2_begin 17 = .ok (.ireturn, 1) := by decide +kernel
set_option maxRecDepth 20000 in
theorem ggX2_digit_X2_partOf : GoodIn wsX2_digit wsX2_partOf := goodIn_r _ [7, 8, 9, 10, 11, 12, 6, 13, 14, 15, 64, 65, 66, 67, 60, 61, 62, 63] (by decide +kernel) (by decide +kernel)
set_option maxRecDepth 20000 in
theorem gX2_digit_X2_partOf : GoodIn wsX2_digit (wsV RX2 36 RX2 yX2_partOf wsX2_partOf) := goodIn_app (goodIn_of _ (by decide +kernel)) ggX2_digit_X2_partOf
set_option maxRecDepth 20000 in
theorem ggX2_digit_X1_becomeMultiple : GoodIn wsX2_digit wsX1_becomeMultiple := goodIn_r _ [20, 21, 22, 23, 24, 19, 25, 26, 27, 28, 29, 30, 31, 32, 33, 34, 35, 36, 37, 38, 39, 40, 41, 42, 43, 68, 69] (by decide +kernel) (by decide +kernel)
set_option maxRecDepth 20000 in
theorem gX2_digit_X1_becomeMultiple : GoodIn wsX2_digit (wsV RX2 41 RX1 yX1_becomeMultiple wsX1_becomeMultiple) := goodIn_app (goodIn_of _ (by decide +kernel)) ggX2_digit_X1_becomeMultiple
set_option maxRecDepth 20000 in
theorem ggX2_digit_X2_keepLeftIn : GoodIn wsX2_digit wsX2_keepLeftIn := goodIn_r _ [47, 2, 48, 49, 50, 19, 51, 21, 52, 53, 54, 55, 27, 28, 29, 30, 31, 56, 57, 58, 59, 32, 33, 34, 35, 36, 37, 38, 39, 40, 41, 42, 43, 60, 61, 62, 63, 68, 69] (by decide +kernel) (by decide +kernel)
set_option maxRecDepth 20000 in
theorem gX2_digit_X2_keepLeftIn : GoodIn wsX2_digit (wsV RX2 45 RX2 yX2_keepLeftIn wsX2_keepLeftIn) := goodIn_app (goodIn_of _ (by decide +kernel)) ggX2_digit_X2_keepLeftIn
theorem dX2_digit_0 : decode cX2_digit 0 = .ok (.aload_n 0, 1) := by decide +kernel
theorem dX2_digit_1 : decode cX2_digit 1 = .ok (.iload_n 1, 1) := by decide +kernel
theorem dX2_digit_2 : decode cX2_digit 2 = .ok (.iload_n 2, 1) := by decide +kernel
theorem dX2_digit_3 : decode cX2_digit 3 = .ok (.invokevirtual 36, 3) := by decide +kernel
theorem dX2_digit_6 : decode cX2_digit 6 = .ok (.astore 5, 2) := by decide +kernel
theorem dX2_digit_8 : decode cX2_digit 8 = .ok (.aload 5, 2) := by decide +kernel
theorem dX2_digit_10 : decode cX2_digit 10 = .ok (.ifnull 26, 3) := by decide +kernel
theorem dX2_digit_13 : decode cX2_digit 13 = .ok (.iload_n 3, 1) := by decide +kernel
theorem dX2_digit_14 : decode cX2_digit 14 = .ok (.iconst 1, 1) := by decide +kernel
theorem dX2_digit_15 : decode cX2_digit 15 = .ok (.if_icmp .lt 21, 3) := by decide +kernel
theorem dX2_digit_18 : decode cX2_digit 18 = .ok (.iload_n 3, 1) := by decide +kernel
theorem dX2_digit_19 : decode cX2_digit 19 = .ok (.ldc 40, 2) := by decide +kernel
theorem dX2_digit_21 : decode cX2_digit 21 = .ok (.if_icmp .gt 15, 3) := by decide +kernel
theorem dX2_digit_24 : decode cX2_digit 24 = .ok (.iload 4, 2) := by decide +kernel
theorem dX2_digit_26 : decode cX2_digit 26 = .ok (.ifCond .lt 10, 3) := by decide +kernel
theorem dX2_digit_29 : decode cX2_digit 29 = .ok (.iload 4, 2) := by decide +kernel
theorem dX2_digit_31 : decode cX2_digit 31 = .ok (.ldc 40, 2) := by decide +kernel
theorem dX2_digit_33 : decode cX2_digit 33 = .ok (.if_icmp .le 5, 3) := by decide +kernel
theorem dX2_digit_36 : decode cX2_digit 36 = .ok (.iconst (-1), 1) := by decide +kernel
theorem dX2_digit_37 : decode cX2_digit 37 = .ok (.ireturn, 1) := by decide +kernel
theorem dX2_digit_38 : decode cX2_digit 38 = .ok (.aload_n 0, 1) := by decide +kernel
theorem dX2_digit_39 : decode cX2_digit 39 = .ok (.getfield 22, 3) := by decide +kernel
theorem dX2_digit_42 : decode cX2_digit 42 = .ok (.aload 5, 2) := by decide +kernel
theorem dX2_digit_44 : decode cX2_digit 44 = .ok (.iload_n 3, 1) := by decide +kernel
theorem dX2_digit_45 : decode cX2_digit 45 = .ok (.iload 4, 2) := by decide +kernel
theorem dX2_digit_47 : decode cX2_digit 47 = .ok (.invokevirtual 41, 3) := by decide +kernel
theorem dX2_digit_50 : decode cX2_digit 50 = .ok (.aload_n 0, 1) := by decide +kernel
theorem dX2_digit_51 : decode cX2_digit 51 = .ok (.aload 5, 2) := by decide +kernel
theorem dX2_digit_53 : decode cX2_digit 53 = .ok (.invokevirtual 45, 3) := by decide +kernel
theorem dX2_digit_56 : decode cX2_digit 56 = .ok (.ireturn, 1) := by decide +kernel
set_option maxRecDepth 20000 in
theorem ggX2_set_X2_partOf : GoodIn wsX2_set wsX2_partOf := goodIn_r _ [5, 6, 7, 8, 9, 10, 4, 11, 12, 13, 45, 46, 47, 48, 49, 50, 51, 52] (by decide +kernel) (by decide +kernel)
set_option maxRecDepth 20000 in
theorem gX2_set_X2_partOf : GoodIn wsX2_set (wsV RX2 36 RX2 yX2_partOf wsX2_partOf) := goodIn_app (goodIn_of _ (by decide +kernel)) ggX2_set_X2_partOf
set_option maxRecDepth 20000 in
theorem ggX2_set_X1_become : GoodIn wsX2_set wsX1_become := goodIn_r _ [18, 19, 20, 21, 17, 22, 23, 24, 25, 26, 27, 28, 29, 30, 31, 32, 33, 34, 35, 36, 53, 54] (by decide +kernel) (by decide +kernel)
set_option maxRecDepth 20000 in
theorem gX2_set_X1_become : GoodIn wsX2_set (wsV RX2 49 RX1 yX1_become wsX1_become) := goodIn_app (goodIn_of _ (by decide +kernel)) ggX2_set_X1_become
set_option maxRecDepth 20000 in
theorem ggX2_set_X1_length : GoodIn wsX2_set wsX1_length := goodIn_r _ [40, 28, 41, 42, 43, 17, 44, 33, 34, 35, 36, 23, 53, 54] (by decide +kernel) (by decide +kernel)
set_option maxRecDepth 20000 in
theorem gX2_set_X1_length : GoodIn wsX2_set (wsV RX2 53 RX1 yX1_length wsX1_length) := goodIn_app (goodIn_of _ (by decide +kernel)) ggX2_set_X1_length
theorem dX2_set_0 : decode cX2_set 0 = .ok (.aload_n 0, 1) := by decide +kernel
theorem dX2_set_1 : decode cX2_set 1 = .ok (.iload_n 1, 1) := by decide +kernel
theorem dX2_set_2 : decode cX2_set 2 = .ok (.iload_n 2, 1) := by decide +kernel
theorem dX2_set_3 : decode cX2_set 3 = .ok (.invokevirtual 36, 3) := by decide +kernel
theorem dX2_set_6 : decode cX2_set 6 = .ok (.astore 5, 2) := by decide +kernel
theorem dX2_set_8 : decode cX2_set 8 = .ok (.aload 5, 2) := by decide +kernel
theorem dX2_set_10 : decode cX2_set 10 = .ok (.ifnonnull 5, 3) := by decide +kernel
theorem dX2_set_13 : decode cX2_set 13 = .ok (.iconst (-1), 1) := by decide +kernel
theorem dX2_set_14 : decode cX2_set 14 = .ok (.ireturn, 1) := by decide +kernel
theorem dX2_set_15 : decode cX2_set 15 = .ok (.iload_n 2, 1) := by decide +kernel
theorem dX2_set_16 : decode cX2_set 16 = .ok (.iconst 1, 1) := by decide +kernel
theorem dX2_set_17 : decode cX2_set 17 = .ok (.if_icmp .ne 12, 3) := by decide +kernel
theorem dX2_set_20 : decode cX2_set 20 = .ok (.lload_n 3, 1) := by decide +kernel
theorem dX2_set_21 : decode cX2_set 21 = .ok (.lconst 0, 1) := by decide +kernel
theorem dX2_set_22 : decode cX2_set 22 = .ok (.lcmp, 1) := by decide +kernel
theorem dX2_set_23 : decode cX2_set 23 = .ok (.ifCond .ne 6, 3) := by decide +kernel
theorem dX2_set_26 : decode cX2_set 26 = .ok (.bipush (-3), 2) := by decide +kernel
theorem dX2_set_28 : decode cX2_set 28 = .ok (.ireturn, 1) := by decide +kernel
theorem dX2_set_29 : decode cX2_set 29 = .ok (.aload 5, 2) := by decide +kernel
theorem dX2_set_31 : decode cX2_set 31 = .ok (.lload_n 3, 1) := by decide +kernel
theorem dX2_set_32 : decode cX2_set 32 = .ok (.invokevirtual 49, 3) := by decide +kernel
theorem dX2_set_35 : decode cX2_set 35 = .ok (.aload 5, 2) := by decide +kernel
theorem dX2_set_37 : decode cX2_set 37 = .ok (.invokevirtual 53, 3) := by decide +kernel
theorem dX2_set_40 : decode cX2_set 40 = .ok (.ireturn, 1) := by decide +kernel
set_option maxRecDepth 20000 in
theorem ggX2_scale_X2_numberOf : GoodIn wsX2_scale wsX2_numberOf := goodIn_r _ [7, 8, 9, 14, 15, 16, 17] (by decide +kernel) (by decide +kernel)
set_option maxRecDepth 20000 in
theorem gX2_scale_X2_numberOf : GoodIn wsX2_scale (wsV RX2 29 RX2 yX2_numberOf wsX2_numberOf) := goodIn_app (goodIn_of _ (by decide +kernel)) ggX2_scale_X2_numberOf
theorem dX2_scale_0 : decode cX2_scale 0 = .ok (.aload_n 0, 1) := by decide +kernel
theorem dX2_scale_1 : decode cX2_scale 1 = .ok (.iload_n 1, 1) := by decide +kernel
theorem dX2_scale_2 : decode cX2_scale 2 = .ok (.invokevirtual 29, 3) := by decide +kernel
theorem dX2_scale_5 : decode cX2_scale 5 = .ok (.astore 4, 2) := by decide +kernel
theorem dX2_scale_7 : decode cX2_scale 7 = .ok (.aload 4, 2) := by decide +kernel
theorem dX2_scale_9 : decode cX2_scale 9 = .ok (.ifnull 17, 3) := by decide +kernel
theorem dX2_scale_12 : decode cX2_scale 12 = .ok (.iload_n 3, 1) := by decide +kernel
theorem dX2_scale_13 : decode cX2_scale 13 = .ok (.sipush (-12000), 3) := by decide +kernel
theorem dX2_scale_16 : decode cX2_scale 16 = .ok (.if_icmp .lt 10, 3) := by decide +kernel
theorem dX2_scale_19 : decode cX2_scale 19 = .ok (.iload_n 3, 1) := by decide +kernel
theorem dX2_scale_20 : decode cX2_scale 20 = .ok (.sipush 12000, 3) := by decide +kernel
theorem dX2_scale_23 : decode cX2_scale 23 = .ok (.if_icmp .le 5, 3) := by decide +kernel
theorem dX2_scale_26 : decode cX2_scale 26 = .ok (.iconst (-1), 1) := by decide +kernel
theorem dX2_scale_27 : decode cX2_scale 27 = .ok (.ireturn, 1) := by decide +kernel
theorem dX2_scale_28 : decode cX2_scale 28 = .ok (.aload 4, 2) := by decide +kernel
theorem dX2_scale_30 : decode cX2_scale 30 = .ok (.iload_n 2, 1) := by decide +kernel
theorem dX2_scale_31 : decode cX2_scale 31 = .ok (.putfield 57, 3) := by decide +kernel
theorem dX2_scale_34 : decode cX2_scale 34 = .ok (.aload 4, 2) := by decide +kernel
theorem dX2_scale_36 : decode cX2_scale 36 = .ok (.iload_n 3, 1) := by decide +kernel
theorem dX2_scale_37 : decode cX2_scale 37 = .ok (.putfield 61, 3) := by decide +kernel
theorem dX2_scale_40 : decode cX2_scale 40 = .ok (.iconst 0, 1) := by decide +kernel
theorem dX2_scale_41 : decode cX2_scale 41 = .ok (.ireturn, 1) := by decide +kernel
set_option maxRecDepth 20000 in
theorem ggX2_turn_X2_numberOf : GoodIn wsX2_turn wsX2_numberOf := goodIn_r _ [6, 7, 8, 27, 28, 29, 30] (by decide +kernel) (by decide +kernel)
set_option maxRecDepth 20000 in
theorem gX2_turn_X2_numberOf : GoodIn wsX2_turn (wsV RX2 29 RX2 yX2_numberOf wsX2_numberOf) := goodIn_app (goodIn_of _ (by decide +kernel)) ggX2_turn_X2_numberOf
set_option maxRecDepth 20000 in
theorem ggX2_turn_X1_isZero : GoodIn wsX2_turn wsX1_isZero := goodIn_r _ [13, 14, 31, 32] (by decide +kernel) (by decide +kernel)
set_option maxRecDepth 20000 in
theorem gX2_turn_X1_isZero : GoodIn wsX2_turn (wsV RX2 68 RX1 yX1_isZero wsX1_isZero) := goodIn_app (goodIn_of _ (by decide +kernel)) ggX2_turn_X1_isZero
set_option maxRecDepth 20000 in
theorem ggX2_turn_X0_flip : GoodIn wsX2_turn wsX0_flip := goodIn_r _ [19, 20, 21, 22, 23, 24, 25, 26] (by decide +kernel) (by decide +kernel)
set_option maxRecDepth 20000 in
theorem gX2_turn_X0_flip : GoodIn wsX2_turn (wsV RX2 72 RX0 yX0_flip wsX0_flip) := goodIn_app (goodIn_of _ (by decide +kernel)) ggX2_turn_X0_flip
theorem dX2_turn_0 : decode cX2_turn 0 = .ok (.aload_n 0, 1) := by decide +kernel
theorem dX2_turn_1 : decode cX2_turn 1 = .ok (.iload_n 1, 1) := by decide +kernel
theorem dX2_turn_2 : decode cX2_turn 2 = .ok (.invokevirtual 29, 3) := by decide +kernel
theorem dX2_turn_5 : decode cX2_turn 5 = .ok (.astore_n 2, 1) := by decide +kernel
theorem dX2_turn_6 : decode cX2_turn 6 = .ok (.aload_n 2, 1) := by decide +kernel
theorem dX2_turn_7 : decode cX2_turn 7 = .ok (.ifnonnull 5, 3) := by decide +kernel
theorem dX2_turn_10 : decode cX2_turn 10 = .ok (.iconst (-1), 1) := by decide +kernel
theorem dX2_turn_11 : decode cX2_turn 11 = .ok (.ireturn, 1) := by decide +kernel
theorem dX2_turn_12 : decode cX2_turn 12 = .ok (.aload_n 2, 1) := by decide +kernel
theorem dX2_turn_13 : decode cX2_turn 13 = .ok (.getfield 65, 3) := by decide +kernel
theorem dX2_turn_16 : decode cX2_turn 16 = .ok (.invokevirtual 68, 3) := by decide +kernel
theorem dX2_turn_19 : decode cX2_turn 19 = .ok (.ifCond .eq 6, 3) := by decide +kernel
theorem dX2_turn_22 : decode cX2_turn 22 = .ok (.bipush (-3), 2) := by decide +kernel
theorem dX2_turn_24 : decode cX2_turn 24 = .ok (.ireturn, 1) := by decide +kernel
theorem dX2_turn_25 : decode cX2_turn 25 = .ok (.aload_n 2, 1) := by decide +kernel
theorem dX2_turn_26 : decode cX2_turn 26 = .ok (.invokevirtual 72, 3) := by decide +kernel
theorem dX2_turn_29 : decode cX2_turn 29 = .ok (.iconst 0, 1) := by decide +kernel
theorem dX2_turn_30 : decode cX2_turn 30 = .ok (.ireturn, 1) := by decide +kernel
set_option maxRecDepth 20000 in
theorem ggX2_move_X2_numberOf : GoodIn wsX2_move wsX2_numberOf := goodIn_r _ [10, 3, 1, 66, 67, 68, 69] (by decide +kernel) (by decide +kernel)
set_option maxRecDepth 20000 in
theorem gX2_move_X2_numberOf : GoodIn wsX2_move (wsV RX2 29 RX2 yX2_numberOf wsX2_numberOf) := goodIn_app (goodIn_of _ (by decide +kernel)) ggX2_move_X2_numberOf
set_option maxRecDepth 20000 in
theorem ggX2_move_X1_becomeSum : GoodIn wsX2_move wsX1_becomeSum := goodIn_r _ [15, 16, 17, 18, 19, 20, 21, 22, 23, 14, 24, 25, 26, 27, 28, 29, 30, 31, 32, 33, 34, 35, 36, 37, 38, 39, 40, 41, 74, 75] (by decide +kernel) (by decide +kernel)
set_option maxRecDepth 20000 in
theorem gX2_move_X1_becomeSum : GoodIn wsX2_move (wsV RX2 75 RX1 yX1_becomeSum wsX1_becomeSum) := goodIn_app (goodIn_of _ (by decide +kernel)) ggX2_move_X1_becomeSum
set_option maxRecDepth 20000 in
theorem ggX2_move_X1_order : GoodIn wsX2_move wsX1_order := goodIn_r _ [45, 16, 17, 18, 19, 20, 21, 22, 23, 14, 24, 25, 26, 27, 28, 29, 30, 74, 75] (by decide +kernel) (by decide +kernel)
set_option maxRecDepth 20000 in
theorem gX2_move_X1_order : GoodIn wsX2_move (wsV RX2 79 RX1 yX1_order wsX1_order) := goodIn_app (goodIn_of _ (by decide +kernel)) ggX2_move_X1_order
set_option maxRecDepth 20000 in
theorem ggX2_move_X1_becomeDifference : GoodIn wsX2_move wsX1_becomeDifference := goodIn_r _ [49, 16, 21, 22, 23, 14, 24, 25, 26, 27, 28, 29, 30, 31, 32, 33, 34, 35, 36, 37, 38, 39, 40, 19, 41, 74, 75] (by decide +kernel) (by decide +kernel)
set_option maxRecDepth 20000 in
theorem gX2_move_X1_becomeDifference : GoodIn wsX2_move (wsV RX2 82 RX1 yX1_becomeDifference wsX1_becomeDifference) := goodIn_app (goodIn_of _ (by decide +kernel)) ggX2_move_X1_becomeDifference
set_option maxRecDepth 20000 in
theorem ggX2_move_X2_keepLeftIn : GoodIn wsX2_move wsX2_keepLeftIn := goodIn_r _ [53, 5, 54, 55, 56, 14, 57, 16, 58, 59, 60, 61, 26, 27, 28, 29, 30, 62, 63, 64, 65, 31, 32, 33, 34, 35, 36, 37, 38, 39, 40, 19, 41, 66, 67, 68, 69, 74, 75] (by decide +kernel) (by decide +kernel)
set_option maxRecDepth 20000 in
theorem gX2_move_X2_keepLeftIn : GoodIn wsX2_move (wsV RX2 45 RX2 yX2_keepLeftIn wsX2_keepLeftIn) := goodIn_app (goodIn_of _ (by decide +kernel)) ggX2_move_X2_keepLeftIn
theorem dX2_move_0 : decode cX2_move 0 = .ok (.aload_n 0, 1) := by decide +kernel
theorem dX2_move_1 : decode cX2_move 1 = .ok (.iload_n 1, 1) := by decide +kernel
theorem dX2_move_2 : decode cX2_move 2 = .ok (.invokevirtual 29, 3) := by decide +kernel
theorem dX2_move_5 : decode cX2_move 5 = .ok (.astore_n 3, 1) := by decide +kernel
theorem dX2_move_6 : decode cX2_move 6 = .ok (.aload_n 3, 1) := by decide +kernel
theorem dX2_move_7 : decode cX2_move 7 = .ok (.ifnonnull 5, 3) := by decide +kernel
theorem dX2_move_10 : decode cX2_move 10 = .ok (.iconst (-1), 1) := by decide +kernel
theorem dX2_move_11 : decode cX2_move 11 = .ok (.ireturn, 1) := by decide +kernel
theorem dX2_move_12 : decode cX2_move 12 = .ok (.iload_n 1, 1) := by decide +kernel
theorem dX2_move_13 : decode cX2_move 13 = .ok (.ifCond .ne 13, 3) := by decide +kernel
theorem dX2_move_16 : decode cX2_move 16 = .ok (.aload_n 0, 1) := by decide +kernel
theorem dX2_move_17 : decode cX2_move 17 = .ok (.getfield 16, 3) := by decide +kernel
theorem dX2_move_20 : decode cX2_move 20 = .ok (.getfield 65, 3) := by decide +kernel
theorem dX2_move_23 : decode cX2_move 23 = .ok (.goto 10, 3) := by decide +kernel
theorem dX2_move_26 : decode cX2_move 26 = .ok (.aload_n 0, 1) := by decide +kernel
theorem dX2_move_27 : decode cX2_move 27 = .ok (.getfield 12, 3) := by decide +kernel
theorem dX2_move_30 : decode cX2_move 30 = .ok (.getfield 65, 3) := by decide +kernel
theorem dX2_move_33 : decode cX2_move 33 = .ok (.astore 4, 2) := by decide +kernel
theorem dX2_move_35 : decode cX2_move 35 = .ok (.aload_n 3, 1) := by decide +kernel
theorem dX2_move_36 : decode cX2_move 36 = .ok (.getfield 57, 3) := by decide +kernel
theorem dX2_move_39 : decode cX2_move 39 = .ok (.iload_n 2, 1) := by decide +kernel
theorem dX2_move_40 : decode cX2_move 40 = .ok (.if_icmp .ne 19, 3) := by decide +kernel
theorem dX2_move_43 : decode cX2_move 43 = .ok (.aload_n 0, 1) := by decide +kernel
theorem dX2_move_44 : decode cX2_move 44 = .ok (.getfield 22, 3) := by decide +kernel
theorem dX2_move_47 : decode cX2_move 47 = .ok (.aload_n 3, 1) := by decide +kernel
theorem dX2_move_48 : decode cX2_move 48 = .ok (.getfield 65, 3) := by decide +kernel
theorem dX2_move_51 : decode cX2_move 51 = .ok (.aload 4, 2) := by decide +kernel
theorem dX2_move_53 : decode cX2_move 53 = .ok (.invokevirtual 75, 3) := by decide +kernel
theorem dX2_move_56 : decode cX2_move 56 = .ok (.goto 49, 3) := by decide +kernel
theorem dX2_move_59 : decode cX2_move 59 = .ok (.aload_n 3, 1) := by decide +kernel
theorem dX2_move_60 : decode cX2_move 60 = .ok (.getfield 65, 3) := by decide +kernel
theorem dX2_move_63 : decode cX2_move 63 = .ok (.aload 4, 2) := by decide +kernel
theorem dX2_move_65 : decode cX2_move 65 = .ok (.invokevirtual 79, 3) := by decide +kernel
theorem dX2_move_68 : decode cX2_move 68 = .ok (.ifCond .lt 19, 3) := by decide +kernel
theorem dX2_move_71 : decode cX2_move 71 = .ok (.aload_n 0, 1) := by decide +kernel
theorem dX2_move_72 : decode cX2_move 72 = .ok (.getfield 22, 3) := by decide +kernel
theorem dX2_move_75 : decode cX2_move 75 = .ok (.aload_n 3, 1) := by decide +kernel
theorem dX2_move_76 : decode cX2_move 76 = .ok (.getfield 65, 3) := by decide +kernel
theorem dX2_move_79 : decode cX2_move 79 = .ok (.aload 4, 2) := by decide +kernel
theorem dX2_move_81 : decode cX2_move 81 = .ok (.invokevirtual 82, 3) := by decide +kernel
theorem dX2_move_84 : decode cX2_move 84 = .ok (.goto 21, 3) := by decide +kernel
theorem dX2_move_87 : decode cX2_move 87 = .ok (.aload_n 0, 1) := by decide +kernel
theorem dX2_move_88 : decode cX2_move 88 = .ok (.getfield 22, 3) := by decide +kernel
theorem dX2_move_91 : decode cX2_move 91 = .ok (.aload 4, 2) := by decide +kernel
theorem dX2_move_93 : decode cX2_move 93 = .ok (.aload_n 3, 1) := by decide +kernel
theorem dX2_move_94 : decode cX2_move 94 = .ok (.getfield 65, 3) := by decide +kernel
theorem dX2_move_97 : decode cX2_move 97 = .ok (.invokevirtual 82, 3) := by decide +kernel
theorem dX2_move_100 : decode cX2_move 100 = .ok (.aload_n 3, 1) := by decide +kernel
theorem dX2_move_101 : decode cX2_move 101 = .ok (.iload_n 2, 1) := by decide +kernel
theorem dX2_move_102 : decode cX2_move 102 = .ok (.putfield 57, 3) := by decide +kernel
theorem dX2_move_105 : decode cX2_move 105 = .ok (.aload_n 0, 1) := by decide +kernel
theorem dX2_move_106 : decode cX2_move 106 = .ok (.aload_n 3, 1) := by decide +kernel
theorem dX2_move_107 : decode cX2_move 107 = .ok (.getfield 65, 3) := by decide +kernel
theorem dX2_move_110 : decode cX2_move 110 = .ok (.invokevirtual 45, 3) := by decide +kernel
theorem dX2_move_113 : decode cX2_move 113 = .ok (.ireturn, 1) := by decide +kernel
set_option maxRecDepth 20000 in
theorem ggX2_bits_X2_partOf : GoodIn wsX2_bits wsX2_partOf := goodIn_r _ [5, 6, 7, 8, 9, 10, 4, 11, 12, 13, 29, 30, 31, 32, 33, 34, 35, 36] (by decide +kernel) (by decide +kernel)
set_option maxRecDepth 20000 in
theorem gX2_bits_X2_partOf : GoodIn wsX2_bits (wsV RX2 36 RX2 yX2_partOf wsX2_partOf) := goodIn_app (goodIn_of _ (by decide +kernel)) ggX2_bits_X2_partOf
set_option maxRecDepth 20000 in
theorem ggX2_bits_X1_length : GoodIn wsX2_bits wsX1_length := goodIn_r _ [18, 19, 20, 21, 22, 17, 23, 24, 25, 26, 27, 28, 37, 38] (by decide +kernel) (by decide +kernel)
set_option maxRecDepth 20000 in
theorem gX2_bits_X1_length : GoodIn wsX2_bits (wsV RX2 53 RX1 yX1_length wsX1_length) := goodIn_app (goodIn_of _ (by decide +kernel)) ggX2_bits_X1_length
theorem dX2_bits_0 : decode cX2_bits 0 = .ok (.aload_n 0, 1) := by decide +kernel
theorem dX2_bits_1 : decode cX2_bits 1 = .ok (.iload_n 1, 1) := by decide +kernel
theorem dX2_bits_2 : decode cX2_bits 2 = .ok (.iload_n 2, 1) := by decide +kernel
theorem dX2_bits_3 : decode cX2_bits 3 = .ok (.invokevirtual 36, 3) := by decide +kernel
theorem dX2_bits_6 : decode cX2_bits 6 = .ok (.astore_n 3, 1) := by decide +kernel
theorem dX2_bits_7 : decode cX2_bits 7 = .ok (.aload_n 3, 1) := by decide +kernel
theorem dX2_bits_8 : decode cX2_bits 8 = .ok (.ifnonnull 7, 3) := by decide +kernel
theorem dX2_bits_11 : decode cX2_bits 11 = .ok (.iconst (-1), 1) := by decide +kernel
theorem dX2_bits_12 : decode cX2_bits 12 = .ok (.goto 7, 3) := by decide +kernel
theorem dX2_bits_15 : decode cX2_bits 15 = .ok (.aload_n 3, 1) := by decide +kernel
theorem dX2_bits_16 : decode cX2_bits 16 = .ok (.invokevirtual 53, 3) := by decide +kernel
theorem dX2_bits_19 : decode cX2_bits 19 = .ok (.ireturn, 1) := by decide +kernel
set_option maxRecDepth 20000 in
theorem ggX2_word_X2_partOf : GoodIn wsX2_word wsX2_partOf := goodIn_r _ [5, 6, 7, 8, 9, 10, 4, 11, 12, 13, 20, 21, 22, 23, 24, 25, 26, 27] (by decide +kernel) (by decide +kernel)
set_option maxRecDepth 20000 in
theorem gX2_word_X2_partOf : GoodIn wsX2_word (wsV RX2 36 RX2 yX2_partOf wsX2_partOf) := goodIn_app (goodIn_of _ (by decide +kernel)) ggX2_word_X2_partOf
set_option maxRecDepth 20000 in
theorem ggX2_word_X1_wordAt : GoodIn wsX2_word wsX1_wordAt := goodIn_r _ [18, 19, 28, 29] (by decide +kernel) (by decide +kernel)
set_option maxRecDepth 20000 in
theorem gX2_word_X1_wordAt : GoodIn wsX2_word (wsV RX2 85 RX1 yX1_wordAt wsX1_wordAt) := goodIn_app (goodIn_of _ (by decide +kernel)) ggX2_word_X1_wordAt
theorem dX2_word_0 : decode cX2_word 0 = .ok (.aload_n 0, 1) := by decide +kernel
theorem dX2_word_1 : decode cX2_word 1 = .ok (.iload_n 1, 1) := by decide +kernel
theorem dX2_word_2 : decode cX2_word 2 = .ok (.iload_n 2, 1) := by decide +kernel
theorem dX2_word_3 : decode cX2_word 3 = .ok (.invokevirtual 36, 3) := by decide +kernel
theorem dX2_word_6 : decode cX2_word 6 = .ok (.astore 4, 2) := by decide +kernel
theorem dX2_word_8 : decode cX2_word 8 = .ok (.aload 4, 2) := by decide +kernel
theorem dX2_word_10 : decode cX2_word 10 = .ok (.ifnonnull 7, 3) := by decide +kernel
theorem dX2_word_13 : decode cX2_word 13 = .ok (.iconst 0, 1) := by decide +kernel
theorem dX2_word_14 : decode cX2_word 14 = .ok (.goto 9, 3) := by decide +kernel
theorem dX2_word_17 : decode cX2_word 17 = .ok (.aload 4, 2) := by decide +kernel
theorem dX2_word_19 : decode cX2_word 19 = .ok (.iload_n 3, 1) := by decide +kernel
theorem dX2_word_20 : decode cX2_word 20 = .ok (.invokevirtual 85, 3) := by decide +kernel
theorem dX2_word_23 : decode cX2_word 23 = .ok (.ireturn, 1) := by decide +kernel
set_option maxRecDepth 20000 in
theorem ggX2_compare_X0_sign : GoodIn wsX2_compare wsX0_sign := goodIn_r _ [7, 8, 9, 10, 11, 12, 13, 14, 15, 87, 88, 89, 90, 91, 92] (by decide +kernel) (by decide +kernel)
set_option maxRecDepth 20000 in
theorem gX2_compare_X0_sign : GoodIn wsX2_compare (wsV RX2 89 RX0 yX0_sign wsX0_sign) := goodIn_app (goodIn_of _ (by decide +kernel)) ggX2_compare_X0_sign
set_option maxRecDepth 20000 in
theorem ggX2_compare_X2_orderOfSizes : GoodIn wsX2_compare wsX2_orderOfSizes := goodIn_r _ [20, 1, 2, 21, 22, 23, 24, 25, 26, 27, 28, 6, 29, 8, 30, 31, 32, 33, 34, 13, 35, 15, 36, 11, 12, 14, 37, 38, 39, 40, 41, 42, 43, 44, 45, 46, 47, 48, 49, 50, 51, 52, 53, 54, 55, 56, 57, 58, 59, 60, 61, 62, 63, 64, 65, 66, 67, 68, 69, 70, 19, 71, 72, 73, 74, 75, 76, 77, 78, 79, 80, 81, 82, 83, 84, 85, 86, 87, 88, 89, 90, 91, 92] (by decide +kernel) (by decide +kernel)
set_option maxRecDepth 20000 in
theorem gX2_compare_X2_orderOfSizes : GoodIn wsX2_compare (wsV RX2 92 RX2 yX2_orderOfSizes wsX2_orderOfSizes) := goodIn_app (goodIn_of _ (by decide +kernel)) ggX2_compare_X2_orderOfSizes
theorem dX2_compare_0 : decode cX2_compare 0 = .ok (.aload_n 0, 1) := by decide +kernel
theorem dX2_compare_1 : decode cX2_compare 1 = .ok (.getfield 12, 3) := by decide +kernel
theorem dX2_compare_4 : decode cX2_compare 4 = .ok (.invokevirtual 89, 3) := by decide +kernel
theorem dX2_compare_7 : decode cX2_compare 7 = .ok (.istore_n 1, 1) := by decide +kernel
theorem dX2_compare_8 : decode cX2_compare 8 = .ok (.aload_n 0, 1) := by decide +kernel
theorem dX2_compare_9 : decode cX2_compare 9 = .ok (.getfield 16, 3) := by decide +kernel
theorem dX2_compare_12 : decode cX2_compare 12 = .ok (.invokevirtual 89, 3) := by decide +kernel
theorem dX2_compare_15 : decode cX2_compare 15 = .ok (.istore_n 2, 1) := by decide +kernel
theorem dX2_compare_16 : decode cX2_compare 16 = .ok (.iload_n 1, 1) := by decide +kernel
theorem dX2_compare_17 : decode cX2_compare 17 = .ok (.iload_n 2, 1) := by decide +kernel
theorem dX2_compare_18 : decode cX2_compare 18 = .ok (.if_icmp .eq 14, 3) := by decide +kernel
theorem dX2_compare_21 : decode cX2_compare 21 = .ok (.iload_n 1, 1) := by decide +kernel
theorem dX2_compare_22 : decode cX2_compare 22 = .ok (.iload_n 2, 1) := by decide +kernel
theorem dX2_compare_23 : decode cX2_compare 23 = .ok (.if_icmp .ge 7, 3) := by decide +kernel
theorem dX2_compare_26 : decode cX2_compare 26 = .ok (.iconst (-1), 1) := by decide +kernel
theorem dX2_compare_27 : decode cX2_compare 27 = .ok (.goto 4, 3) := by decide +kernel
theorem dX2_compare_30 : decode cX2_compare 30 = .ok (.iconst 1, 1) := by decide +kernel
theorem dX2_compare_31 : decode cX2_compare 31 = .ok (.ireturn, 1) := by decide +kernel
theorem dX2_compare_32 : decode cX2_compare 32 = .ok (.iload_n 1, 1) := by decide +kernel
theorem dX2_compare_33 : decode cX2_compare 33 = .ok (.ifCond .ne 7, 3) := by decide +kernel
theorem dX2_compare_36 : decode cX2_compare 36 = .ok (.iconst 0, 1) := by decide +kernel
theorem dX2_compare_37 : decode cX2_compare 37 = .ok (.goto 9, 3) := by decide +kernel
theorem dX2_compare_40 : decode cX2_compare 40 = .ok (.iload_n 1, 1) := by decide +kernel
theorem dX2_compare_41 : decode cX2_compare 41 = .ok (.aload_n 0, 1) := by decide +kernel
theorem dX2_compare_42 : decode cX2_compare 42 = .ok (.invokevirtual 92, 3) := by decide +kernel
theorem dX2_compare_45 : decode cX2_compare 45 = .ok (.imul, 1) := by decide +kernel
theorem dX2_compare_46 : decode cX2_compare 46 = .ok (.ireturn, 1) := by decide +kernel
set_option maxRecDepth 20000 in
theorem ggX2_round_X2_numberOf : GoodIn wsX2_round wsX2_numberOf := goodIn_r _ [9, 10, 11, 99, 100, 101, 102] (by decide +kernel) (by decide +kernel)
set_option maxRecDepth 20000 in
theorem gX2_round_X2_numberOf : GoodIn wsX2_round (wsV RX2 29 RX2 yX2_numberOf wsX2_numberOf) := goodIn_app (goodIn_of _ (by decide +kernel)) ggX2_round_X2_numberOf
set_option maxRecDepth 20000 in
theorem ggX2_round_X1_isZero : GoodIn wsX2_round wsX1_isZero := goodIn_r _ [16, 17, 103, 104] (by decide +kernel) (by decide +kernel)
set_option maxRecDepth 20000 in
theorem gX2_round_X1_isZero : GoodIn wsX2_round (wsV RX2 68 RX1 yX1_isZero wsX1_isZero) := goodIn_app (goodIn_of _ (by decide +kernel)) ggX2_round_X1_isZero
set_option maxRecDepth 20000 in
theorem ggX2_round_X2_roundedSize : GoodIn wsX2_round wsX2_roundedSize := goodIn_r _ [21, 22, 23, 24, 25, 26, 27, 28, 29, 30, 31, 8, 32, 2, 33, 34, 35, 36, 37, 15, 38, 17, 39, 40, 41, 42, 43, 44, 45, 46, 47, 48, 49, 50, 51, 52, 53, 54, 55, 56, 57, 13, 14, 16, 58, 59, 60, 61, 62, 63, 64, 65, 66, 67, 68, 69, 70, 71, 72, 73, 74, 75, 76, 77, 78, 79, 80, 81, 82, 83, 84, 85, 86, 87, 88, 89, 90, 91, 92, 93, 94, 12, 99, 100, 101, 102, 95, 96, 97, 98, 103, 104] (by decide +kernel) (by decide +kernel)
set_option maxRecDepth 20000 in
theorem gX2_round_X2_roundedSize : GoodIn wsX2_round (wsV RX2 97 RX2 yX2_roundedSize wsX2_roundedSize) := goodIn_app (goodIn_of _ (by decide +kernel)) ggX2_round_X2_roundedSize
theorem dX2_round_0 : decode cX2_round 0 = .ok (.aload_n 0, 1) := by decide +kernel
theorem dX2_round_1 : decode cX2_round 1 = .ok (.iload_n 1, 1) := by decide +kernel
theorem dX2_round_2 : decode cX2_round 2 = .ok (.invokevirtual 29, 3) := by decide +kernel
theorem dX2_round_5 : decode cX2_round 5 = .ok (.astore_n 3, 1) := by decide +kernel
theorem dX2_round_6 : decode cX2_round 6 = .ok (.aload_n 3, 1) := by decide +kernel
theorem dX2_round_7 : decode cX2_round 7 = .ok (.ifnonnull 7, 3) := by decide +kernel
theorem dX2_round_10 : decode cX2_round 10 = .ok (.ldc2_w 95, 3) := by decide +kernel
theorem dX2_round_13 : decode cX2_round 13 = .ok (.lreturn, 1) := by decide +kernel
theorem dX2_round_14 : decode cX2_round 14 = .ok (.aload_n 3, 1) := by decide +kernel
theorem dX2_round_15 : decode cX2_round 15 = .ok (.getfield 65, 3) := by decide +kernel
theorem dX2_round_18 : decode cX2_round 18 = .ok (.invokevirtual 68, 3) := by decide +kernel
theorem dX2_round_21 : decode cX2_round 21 = .ok (.ifCond .eq 5, 3) := by decide +kernel
theorem dX2_round_24 : decode cX2_round 24 = .ok (.lconst 0, 1) := by decide +kernel
theorem dX2_round_25 : decode cX2_round 25 = .ok (.lreturn, 1) := by decide +kernel
theorem dX2_round_26 : decode cX2_round 26 = .ok (.aload_n 0, 1) := by decide +kernel
theorem dX2_round_27 : decode cX2_round 27 = .ok (.aload_n 3, 1) := by decide +kernel
theorem dX2_round_28 : decode cX2_round 28 = .ok (.iload_n 2, 1) := by decide +kernel
theorem dX2_round_29 : decode cX2_round 29 = .ok (.aload_n 3, 1) := by decide +kernel
theorem dX2_round_30 : decode cX2_round 30 = .ok (.getfield 57, 3) := by decide +kernel
theorem dX2_round_33 : decode cX2_round 33 = .ok (.if_icmp .eq 7, 3) := by decide +kernel
theorem dX2_round_36 : decode cX2_round 36 = .ok (.iconst 1, 1) := by decide +kernel
theorem dX2_round_37 : decode cX2_round 37 = .ok (.goto 4, 3) := by decide +kernel
theorem dX2_round_40 : decode cX2_round 40 = .ok (.iconst 0, 1) := by decide +kernel
theorem dX2_round_41 : decode cX2_round 41 = .ok (.invokevirtual 97, 3) := by decide +kernel
theorem dX2_round_44 : decode cX2_round 44 = .ok (.lstore 4, 2) := by decide +kernel
theorem dX2_round_46 : decode cX2_round 46 = .ok (.aload_n 3, 1) := by decide +kernel
theorem dX2_round_47 : decode cX2_round 47 = .ok (.getfield 57, 3) := by decide +kernel
theorem dX2_round_50 : decode cX2_round 50 = .ok (.ifCond .eq 19, 3) := by decide +kernel
theorem dX2_round_53 : decode cX2_round 53 = .ok (.lload 4, 2) := by decide +kernel
theorem dX2_round_55 : decode cX2_round 55 = .ok (.lconst 0, 1) := by decide +kernel
theorem dX2_round_56 : decode cX2_round 56 = .ok (.lcmp, 1) := by decide +kernel
theorem dX2_round_57 : decode cX2_round 57 = .ok (.ifCond .eq 12, 3) := by decide +kernel
theorem dX2_round_60 : decode cX2_round 60 = .ok (.lload 4, 2) := by decide +kernel
theorem dX2_round_62 : decode cX2_round 62 = .ok (.ldc2_w 101, 3) := by decide +kernel
theorem dX2_round_65 : decode cX2_round 65 = .ok (.lor, 1) := by decide +kernel
theorem dX2_round_66 : decode cX2_round 66 = .ok (.goto 5, 3) := by decide +kernel
theorem dX2_round_69 : decode cX2_round 69 = .ok (.lload 4, 2) := by decide +kernel
theorem dX2_round_71 : decode cX2_round 71 = .ok (.lreturn, 1) := by decide +kernel
theorem dX2_numberOf_0 : decode cX2_numberOf 0 = .ok (.iload_n 1, 1) := by decide +kernel
theorem dX2_numberOf_1 : decode cX2_numberOf 1 = .ok (.ifCond .ne 8, 3) := by decide +kernel
theorem dX2_numberOf_4 : decode cX2_numberOf 4 = .ok (.aload_n 0, 1) := by decide +kernel
theorem dX2_numberOf_5 : decode cX2_numberOf 5 = .ok (.getfield 12, 3) := by decide +kernel
theorem dX2_numberOf_8 : decode cX2_numberOf 8 = .ok (.areturn, 1) := by decide +kernel
theorem dX2_numberOf_9 : decode cX2_numberOf 9 = .ok (.iload_n 1, 1) := by decide +kernel
theorem dX2_numberOf_10 : decode cX2_numberOf 10 = .ok (.iconst 1, 1) := by decide +kernel
theorem dX2_numberOf_11 : decode cX2_numberOf 11 = .ok (.if_icmp .ne 10, 3) := by decide +kernel
theorem dX2_numberOf_14 : decode cX2_numberOf 14 = .ok (.aload_n 0, 1) := by decide +kernel
theorem dX2_numberOf_15 : decode cX2_numberOf 15 = .ok (.getfield 16, 3) := by decide +kernel
theorem dX2_numberOf_18 : decode cX2_numberOf 18 = .ok (.goto 4, 3) := by decide +kernel
theorem dX2_numberOf_21 : decode cX2_numberOf 21 = .ok (.aconst_null, 1) := by decide +kernel
theorem dX2_numberOf_22 : decode cX2_numberOf 22 = .ok (.areturn, 1) := by decide +kernel
set_option maxRecDepth 20000 in
theorem ggX2_partOf_X2_numberOf : GoodIn wsX2_partOf wsX2_numberOf := goodIn_r _ [7, 8, 9, 14, 15, 16, 17] (by decide +kernel) (by decide +kernel)
end
section
set_option maxRecDepth 20000 in
theorem gX2_partOf_X2_numberOf : GoodIn wsX2_partOf (wsV RX2 29 RX2 yX2_numberOf wsX2_numberOf) := goodIn_app (goodIn_of _ (by decide +kernel)) ggX2_partOf_X2_numberOf
theorem dX2_partOf_0 : decode cX2_partOf 0 = .ok (.aload_n 0, 1) := by decide +kernel
theorem dX2_partOf_1 : decode cX2_partOf 1 = .ok (.iload_n 1, 1) := by decide +kernel
theorem dX2_partOf_2 : decode cX2_partOf 2 = .ok (.invokevirtual 29, 3) := by decide +kernel
theorem dX2_partOf_5 : decode cX2_partOf 5 = .ok (.astore_n 3, 1) := by decide +kernel
theorem dX2_partOf_6 : decode cX2_partOf 6 = .ok (.aload_n 3, 1) := by decide +kernel
theorem dX2_partOf_7 : decode cX2_partOf 7 = .ok (.ifnonnull 5, 3) := by decide +kernel
theorem dX2_partOf_10 : decode cX2_partOf 10 = .ok (.aconst_null, 1) := by decide +kernel
theorem dX2_partOf_11 : decode cX2_partOf 11 = .ok (.areturn, 1) := by decide +kernel
theorem dX2_partOf_12 : decode cX2_partOf 12 = .ok (.iload_n 2, 1) := by decide +kernel
theorem dX2_partOf_13 : decode cX2_partOf 13 = .ok (.ifCond .ne 8, 3) := by decide +kernel
theorem dX2_partOf_16 : decode cX2_partOf 16 = .ok (.aload_n 3, 1) := by decide +kernel
theorem dX2_partOf_17 : decode cX2_partOf 17 = .ok (.getfield 65, 3) := by decide +kernel
theorem dX2_partOf_20 : decode cX2_partOf 20 = .ok (.areturn, 1) := by decide +kernel
theorem dX2_partOf_21 : decode cX2_partOf 21 = .ok (.iload_n 2, 1) := by decide +kernel
theorem dX2_partOf_22 : decode cX2_partOf 22 = .ok (.iconst 1, 1) := by decide +kernel
theorem dX2_partOf_23 : decode cX2_partOf 23 = .ok (.if_icmp .ne 10, 3) := by decide +kernel
theorem dX2_partOf_26 : decode cX2_partOf 26 = .ok (.aload_n 3, 1) := by decide +kernel
theorem dX2_partOf_27 : decode cX2_partOf 27 = .ok (.getfield 103, 3) := by decide +kernel
theorem dX2_partOf_30 : decode cX2_partOf 30 = .ok (.goto 4, 3) := by decide +kernel
theorem dX2_partOf_33 : decode cX2_partOf 33 = .ok (.aconst_null, 1) := by decide +kernel
theorem dX2_partOf_34 : decode cX2_partOf 34 = .ok (.areturn, 1) := by decide +kernel
set_option maxRecDepth 20000 in
theorem ggX2_keepLeftIn_X1_length : GoodIn wsX2_keepLeftIn wsX1_length := goodIn_r _ [6, 7, 8, 9, 10, 5, 11, 12, 13, 14, 15, 16, 37, 38] (by decide +kernel) (by decide +kernel)
set_option maxRecDepth 20000 in
theorem gX2_keepLeftIn_X1_length : GoodIn wsX2_keepLeftIn (wsV RX2 53 RX1 yX1_length wsX1_length) := goodIn_app (goodIn_of _ (by decide +kernel)) ggX2_keepLeftIn_X1_length
set_option maxRecDepth 20000 in
theorem ggX2_keepLeftIn_X1_copy : GoodIn wsX2_keepLeftIn wsX1_copy := goodIn_r _ [20, 7, 12, 13, 14, 5, 15, 16, 21, 22, 23, 24, 25, 26, 27, 28, 29, 30, 31, 32, 37, 38] (by decide +kernel) (by decide +kernel)
set_option maxRecDepth 20000 in
theorem gX2_keepLeftIn_X1_copy : GoodIn wsX2_keepLeftIn (wsV RX2 106 RX1 yX1_copy wsX1_copy) := goodIn_app (goodIn_of _ (by decide +kernel)) ggX2_keepLeftIn_X1_copy
theorem dX2_keepLeftIn_0 : decode cX2_keepLeftIn 0 = .ok (.aload_n 0, 1) := by decide +kernel
theorem dX2_keepLeftIn_1 : decode cX2_keepLeftIn 1 = .ok (.getfield 22, 3) := by decide +kernel
theorem dX2_keepLeftIn_4 : decode cX2_keepLeftIn 4 = .ok (.invokevirtual 53, 3) := by decide +kernel
theorem dX2_keepLeftIn_7 : decode cX2_keepLeftIn 7 = .ok (.sipush 4800, 3) := by decide +kernel
theorem dX2_keepLeftIn_10 : decode cX2_keepLeftIn 10 = .ok (.if_icmp .le 6, 3) := by decide +kernel
theorem dX2_keepLeftIn_13 : decode cX2_keepLeftIn 13 = .ok (.bipush (-2), 2) := by decide +kernel
theorem dX2_keepLeftIn_15 : decode cX2_keepLeftIn 15 = .ok (.ireturn, 1) := by decide +kernel
theorem dX2_keepLeftIn_16 : decode cX2_keepLeftIn 16 = .ok (.aload_n 1, 1) := by decide +kernel
theorem dX2_keepLeftIn_17 : decode cX2_keepLeftIn 17 = .ok (.aload_n 0, 1) := by decide +kernel
theorem dX2_keepLeftIn_18 : decode cX2_keepLeftIn 18 = .ok (.getfield 22, 3) := by decide +kernel
theorem dX2_keepLeftIn_21 : decode cX2_keepLeftIn 21 = .ok (.invokevirtual 106, 3) := by decide +kernel
theorem dX2_keepLeftIn_24 : decode cX2_keepLeftIn 24 = .ok (.aload_n 1, 1) := by decide +kernel
theorem dX2_keepLeftIn_25 : decode cX2_keepLeftIn 25 = .ok (.invokevirtual 53, 3) := by decide +kernel
theorem dX2_keepLeftIn_28 : decode cX2_keepLeftIn 28 = .ok (.ireturn, 1) := by decide +kernel
set_option maxRecDepth 20000 in
theorem ggX2_orderOfSizes_X0_rank : GoodIn wsX2_orderOfSizes wsX0_rank := goodIn_r _ [12, 13, 14, 15, 16, 17, 18, 19, 20, 21, 22, 23, 24, 25, 26, 27, 28, 29, 30, 77, 78, 79, 80, 81, 82] (by decide +kernel) (by decide +kernel)
set_option maxRecDepth 20000 in
theorem gX2_orderOfSizes_X0_rank : GoodIn wsX2_orderOfSizes (wsV RX2 110 RX0 yX0_rank wsX0_rank) := goodIn_app (goodIn_of _ (by decide +kernel)) ggX2_orderOfSizes_X0_rank
set_option maxRecDepth 20000 in
theorem ggX2_orderOfSizes_X1_becomeProduct : GoodIn wsX2_orderOfSizes wsX1_becomeProduct := goodIn_r _ [34, 21, 35, 36, 37, 19, 38, 30, 39, 40, 41, 42, 43, 44, 45, 46, 26, 27, 28, 29, 47, 48, 49, 50, 51, 52, 53, 54, 55, 81, 82] (by decide +kernel) (by decide +kernel)
set_option maxRecDepth 20000 in
theorem gX2_orderOfSizes_X1_becomeProduct : GoodIn wsX2_orderOfSizes (wsV RX2 113 RX1 yX1_becomeProduct wsX1_becomeProduct) := goodIn_app (goodIn_of _ (by decide +kernel)) ggX2_orderOfSizes_X1_becomeProduct
set_option maxRecDepth 20000 in
theorem ggX2_orderOfSizes_X1_length : GoodIn wsX2_orderOfSizes wsX1_length := goodIn_r _ [20, 21, 22, 23, 24, 19, 25, 26, 27, 28, 29, 30, 81, 82] (by decide +kernel) (by decide +kernel)
set_option maxRecDepth 20000 in
theorem gX2_orderOfSizes_X1_length : GoodIn wsX2_orderOfSizes (wsV RX2 53 RX1 yX1_length wsX1_length) := goodIn_app (goodIn_of _ (by decide +kernel)) ggX2_orderOfSizes_X1_length
set_option maxRecDepth 20000 in
theorem ggX2_orderOfSizes_X2_alignTops : GoodIn wsX2_orderOfSizes wsX2_alignTops := goodIn_r _ [61, 3, 6, 62, 63, 64, 19, 65, 21, 47, 48, 49, 50, 51, 26, 27, 28, 29, 30, 43, 44, 45, 46, 35, 36, 37, 38, 39, 40, 41, 42, 73, 74, 75, 76, 81, 82] (by decide +kernel) (by decide +kernel)
set_option maxRecDepth 20000 in
theorem gX2_orderOfSizes_X2_alignTops : GoodIn wsX2_orderOfSizes (wsV RX2 116 RX2 yX2_alignTops wsX2_alignTops) := goodIn_app (goodIn_of _ (by decide +kernel)) ggX2_orderOfSizes_X2_alignTops
set_option maxRecDepth 20000 in
theorem ggX2_orderOfSizes_X1_order : GoodIn wsX2_orderOfSizes wsX1_order := goodIn_r _ [69, 21, 70, 71, 41, 72, 47, 48, 49, 19, 50, 51, 26, 27, 28, 29, 30, 81, 82] (by decide +kernel) (by decide +kernel)
set_option maxRecDepth 20000 in
theorem gX2_orderOfSizes_X1_order : GoodIn wsX2_orderOfSizes (wsV RX2 79 RX1 yX1_order wsX1_order) := goodIn_app (goodIn_of _ (by decide +kernel)) ggX2_orderOfSizes_X1_order
theorem dX2_orderOfSizes_0 : decode cX2_orderOfSizes 0 = .ok (.aload_n 0, 1) := by decide +kernel
theorem dX2_orderOfSizes_1 : decode cX2_orderOfSizes 1 = .ok (.getfield 12, 3) := by decide +kernel
theorem dX2_orderOfSizes_4 : decode cX2_orderOfSizes 4 = .ok (.invokevirtual 110, 3) := by decide +kernel
theorem dX2_orderOfSizes_7 : decode cX2_orderOfSizes 7 = .ok (.aload_n 0, 1) := by decide +kernel
theorem dX2_orderOfSizes_8 : decode cX2_orderOfSizes 8 = .ok (.getfield 16, 3) := by decide +kernel
theorem dX2_orderOfSizes_11 : decode cX2_orderOfSizes 11 = .ok (.invokevirtual 110, 3) := by decide +kernel
theorem dX2_orderOfSizes_14 : decode cX2_orderOfSizes 14 = .ok (.isub, 1) := by decide +kernel
theorem dX2_orderOfSizes_15 : decode cX2_orderOfSizes 15 = .ok (.istore_n 1, 1) := by decide +kernel
theorem dX2_orderOfSizes_16 : decode cX2_orderOfSizes 16 = .ok (.iload_n 1, 1) := by decide +kernel
theorem dX2_orderOfSizes_17 : decode cX2_orderOfSizes 17 = .ok (.iconst 1, 1) := by decide +kernel
theorem dX2_orderOfSizes_18 : decode cX2_orderOfSizes 18 = .ok (.if_icmp .gt 8, 3) := by decide +kernel
theorem dX2_orderOfSizes_21 : decode cX2_orderOfSizes 21 = .ok (.iload_n 1, 1) := by decide +kernel
theorem dX2_orderOfSizes_22 : decode cX2_orderOfSizes 22 = .ok (.iconst (-1), 1) := by decide +kernel
theorem dX2_orderOfSizes_23 : decode cX2_orderOfSizes 23 = .ok (.if_icmp .ge 13, 3) := by decide +kernel
theorem dX2_orderOfSizes_26 : decode cX2_orderOfSizes 26 = .ok (.iload_n 1, 1) := by decide +kernel
theorem dX2_orderOfSizes_27 : decode cX2_orderOfSizes 27 = .ok (.ifCond .ge 7, 3) := by decide +kernel
theorem dX2_orderOfSizes_30 : decode cX2_orderOfSizes 30 = .ok (.iconst (-1), 1) := by decide +kernel
theorem dX2_orderOfSizes_31 : decode cX2_orderOfSizes 31 = .ok (.goto 4, 3) := by decide +kernel
theorem dX2_orderOfSizes_34 : decode cX2_orderOfSizes 34 = .ok (.iconst 1, 1) := by decide +kernel
theorem dX2_orderOfSizes_35 : decode cX2_orderOfSizes 35 = .ok (.ireturn, 1) := by decide +kernel
theorem dX2_orderOfSizes_36 : decode cX2_orderOfSizes 36 = .ok (.aload_n 0, 1) := by decide +kernel
theorem dX2_orderOfSizes_37 : decode cX2_orderOfSizes 37 = .ok (.getfield 22, 3) := by decide +kernel
theorem dX2_orderOfSizes_40 : decode cX2_orderOfSizes 40 = .ok (.aload_n 0, 1) := by decide +kernel
theorem dX2_orderOfSizes_41 : decode cX2_orderOfSizes 41 = .ok (.getfield 12, 3) := by decide +kernel
theorem dX2_orderOfSizes_44 : decode cX2_orderOfSizes 44 = .ok (.getfield 65, 3) := by decide +kernel
theorem dX2_orderOfSizes_47 : decode cX2_orderOfSizes 47 = .ok (.aload_n 0, 1) := by decide +kernel
theorem dX2_orderOfSizes_48 : decode cX2_orderOfSizes 48 = .ok (.getfield 16, 3) := by decide +kernel
theorem dX2_orderOfSizes_51 : decode cX2_orderOfSizes 51 = .ok (.getfield 103, 3) := by decide +kernel
theorem dX2_orderOfSizes_54 : decode cX2_orderOfSizes 54 = .ok (.invokevirtual 113, 3) := by decide +kernel
theorem dX2_orderOfSizes_57 : decode cX2_orderOfSizes 57 = .ok (.aload_n 0, 1) := by decide +kernel
theorem dX2_orderOfSizes_58 : decode cX2_orderOfSizes 58 = .ok (.getfield 26, 3) := by decide +kernel
theorem dX2_orderOfSizes_61 : decode cX2_orderOfSizes 61 = .ok (.aload_n 0, 1) := by decide +kernel
theorem dX2_orderOfSizes_62 : decode cX2_orderOfSizes 62 = .ok (.getfield 16, 3) := by decide +kernel
theorem dX2_orderOfSizes_65 : decode cX2_orderOfSizes 65 = .ok (.getfield 65, 3) := by decide +kernel
theorem dX2_orderOfSizes_68 : decode cX2_orderOfSizes 68 = .ok (.aload_n 0, 1) := by decide +kernel
theorem dX2_orderOfSizes_69 : decode cX2_orderOfSizes 69 = .ok (.getfield 12, 3) := by decide +kernel
theorem dX2_orderOfSizes_72 : decode cX2_orderOfSizes 72 = .ok (.getfield 103, 3) := by decide +kernel
theorem dX2_orderOfSizes_75 : decode cX2_orderOfSizes 75 = .ok (.invokevirtual 113, 3) := by decide +kernel
theorem dX2_orderOfSizes_78 : decode cX2_orderOfSizes 78 = .ok (.aload_n 0, 1) := by decide +kernel
theorem dX2_orderOfSizes_79 : decode cX2_orderOfSizes 79 = .ok (.getfield 22, 3) := by decide +kernel
theorem dX2_orderOfSizes_82 : decode cX2_orderOfSizes 82 = .ok (.invokevirtual 53, 3) := by decide +kernel
theorem dX2_orderOfSizes_85 : decode cX2_orderOfSizes 85 = .ok (.aload_n 0, 1) := by decide +kernel
theorem dX2_orderOfSizes_86 : decode cX2_orderOfSizes 86 = .ok (.getfield 26, 3) := by decide +kernel
theorem dX2_orderOfSizes_89 : decode cX2_orderOfSizes 89 = .ok (.invokevirtual 53, 3) := by decide +kernel
theorem dX2_orderOfSizes_92 : decode cX2_orderOfSizes 92 = .ok (.isub, 1) := by decide +kernel
theorem dX2_orderOfSizes_93 : decode cX2_orderOfSizes 93 = .ok (.istore_n 2, 1) := by decide +kernel
theorem dX2_orderOfSizes_94 : decode cX2_orderOfSizes 94 = .ok (.iload_n 2, 1) := by decide +kernel
theorem dX2_orderOfSizes_95 : decode cX2_orderOfSizes 95 = .ok (.aload_n 0, 1) := by decide +kernel
theorem dX2_orderOfSizes_96 : decode cX2_orderOfSizes 96 = .ok (.getfield 12, 3) := by decide +kernel
theorem dX2_orderOfSizes_99 : decode cX2_orderOfSizes 99 = .ok (.getfield 61, 3) := by decide +kernel
theorem dX2_orderOfSizes_102 : decode cX2_orderOfSizes 102 = .ok (.iadd, 1) := by decide +kernel
theorem dX2_orderOfSizes_103 : decode cX2_orderOfSizes 103 = .ok (.aload_n 0, 1) := by decide +kernel
theorem dX2_orderOfSizes_104 : decode cX2_orderOfSizes 104 = .ok (.getfield 16, 3) := by decide +kernel
theorem dX2_orderOfSizes_107 : decode cX2_orderOfSizes 107 = .ok (.getfield 61, 3) := by decide +kernel
theorem dX2_orderOfSizes_110 : decode cX2_orderOfSizes 110 = .ok (.isub, 1) := by decide +kernel
theorem dX2_orderOfSizes_111 : decode cX2_orderOfSizes 111 = .ok (.istore_n 1, 1) := by decide +kernel
theorem dX2_orderOfSizes_112 : decode cX2_orderOfSizes 112 = .ok (.iload_n 1, 1) := by decide +kernel
theorem dX2_orderOfSizes_113 : decode cX2_orderOfSizes 113 = .ok (.ifCond .eq 13, 3) := by decide +kernel
theorem dX2_orderOfSizes_116 : decode cX2_orderOfSizes 116 = .ok (.iload_n 1, 1) := by decide +kernel
theorem dX2_orderOfSizes_117 : decode cX2_orderOfSizes 117 = .ok (.ifCond .ge 7, 3) := by decide +kernel
theorem dX2_orderOfSizes_120 : decode cX2_orderOfSizes 120 = .ok (.iconst (-1), 1) := by decide +kernel
theorem dX2_orderOfSizes_121 : decode cX2_orderOfSizes 121 = .ok (.goto 4, 3) := by decide +kernel
theorem dX2_orderOfSizes_124 : decode cX2_orderOfSizes 124 = .ok (.iconst 1, 1) := by decide +kernel
theorem dX2_orderOfSizes_125 : decode cX2_orderOfSizes 125 = .ok (.ireturn, 1) := by decide +kernel
theorem dX2_orderOfSizes_126 : decode cX2_orderOfSizes 126 = .ok (.aload_n 0, 1) := by decide +kernel
theorem dX2_orderOfSizes_127 : decode cX2_orderOfSizes 127 = .ok (.iload_n 2, 1) := by decide +kernel
theorem dX2_orderOfSizes_128 : decode cX2_orderOfSizes 128 = .ok (.invokevirtual 116, 3) := by decide +kernel
theorem dX2_orderOfSizes_131 : decode cX2_orderOfSizes 131 = .ok (.aload_n 0, 1) := by decide +kernel
theorem dX2_orderOfSizes_132 : decode cX2_orderOfSizes 132 = .ok (.getfield 22, 3) := by decide +kernel
theorem dX2_orderOfSizes_135 : decode cX2_orderOfSizes 135 = .ok (.aload_n 0, 1) := by decide +kernel
theorem dX2_orderOfSizes_136 : decode cX2_orderOfSizes 136 = .ok (.getfield 26, 3) := by decide +kernel
theorem dX2_orderOfSizes_139 : decode cX2_orderOfSizes 139 = .ok (.invokevirtual 79, 3) := by decide +kernel
theorem dX2_orderOfSizes_142 : decode cX2_orderOfSizes 142 = .ok (.ireturn, 1) := by decide +kernel
set_option maxRecDepth 20000 in
theorem ggX2_alignTops_X1_shiftUp : GoodIn wsX2_alignTops wsX1_shiftUp := goodIn_r _ [7, 8, 9, 10, 11, 6, 12, 13, 14, 15, 16, 17, 18, 19, 20, 21, 22, 23, 24, 25, 26, 27, 28, 29, 30, 35, 36] (by decide +kernel) (by decide +kernel)
set_option maxRecDepth 20000 in
theorem gX2_alignTops_X1_shiftUp : GoodIn wsX2_alignTops (wsV RX2 120 RX1 yX1_shiftUp wsX1_shiftUp) := goodIn_app (goodIn_of _ (by decide +kernel)) ggX2_alignTops_X1_shiftUp
theorem dX2_alignTops_0 : decode cX2_alignTops 0 = .ok (.iload_n 1, 1) := by decide +kernel
theorem dX2_alignTops_1 : decode cX2_alignTops 1 = .ok (.ifCond .ge 15, 3) := by decide +kernel
theorem dX2_alignTops_4 : decode cX2_alignTops 4 = .ok (.aload_n 0, 1) := by decide +kernel
theorem dX2_alignTops_5 : decode cX2_alignTops 5 = .ok (.getfield 22, 3) := by decide +kernel
theorem dX2_alignTops_8 : decode cX2_alignTops 8 = .ok (.iload_n 1, 1) := by decide +kernel
theorem dX2_alignTops_9 : decode cX2_alignTops 9 = .ok (.ineg, 1) := by decide +kernel
theorem dX2_alignTops_10 : decode cX2_alignTops 10 = .ok (.invokevirtual 120, 3) := by decide +kernel
theorem dX2_alignTops_13 : decode cX2_alignTops 13 = .ok (.goto 11, 3) := by decide +kernel
theorem dX2_alignTops_16 : decode cX2_alignTops 16 = .ok (.aload_n 0, 1) := by decide +kernel
theorem dX2_alignTops_17 : decode cX2_alignTops 17 = .ok (.getfield 26, 3) := by decide +kernel
theorem dX2_alignTops_20 : decode cX2_alignTops 20 = .ok (.iload_n 1, 1) := by decide +kernel
theorem dX2_alignTops_21 : decode cX2_alignTops 21 = .ok (.invokevirtual 120, 3) := by decide +kernel
theorem dX2_alignTops_24 : decode cX2_alignTops 24 = .ok (.return_, 1) := by decide +kernel
set_option maxRecDepth 20000 in
theorem ggX2_roundedSize_X2_layOut : GoodIn wsX2_roundedSize wsX2_layOut := goodIn_r _ [12, 7, 13, 14, 15, 16, 17, 18, 19, 20, 21, 22, 23, 24, 25, 26, 27, 28, 29, 30, 31, 32, 33, 34, 35, 4, 5, 6, 36, 37, 38, 39, 40, 41, 42, 43, 44, 45, 46, 11, 47, 48, 49, 50, 51, 52, 53, 54, 55, 56, 57, 58, 59, 60, 61, 62, 63, 64, 65, 66, 67, 68, 69, 70, 71, 72, 82, 83, 84, 85, 86, 87, 88, 89, 90, 91] (by decide +kernel) (by decide +kernel)
set_option maxRecDepth 20000 in
theorem gX2_roundedSize_X2_layOut : GoodIn wsX2_roundedSize (wsV RX2 123 RX2 yX2_layOut wsX2_layOut) := goodIn_app (goodIn_of _ (by decide +kernel)) ggX2_roundedSize_X2_layOut
set_option maxRecDepth 20000 in
theorem ggX2_roundedSize_X2_quotient : GoodIn wsX2_roundedSize wsX2_quotient := goodIn_r _ [76, 7, 14, 57, 58, 59, 19, 60, 21, 61, 62, 5, 63, 52, 53, 54, 55, 56, 22, 23, 24, 25, 26, 77, 78, 79, 80, 27, 28, 29, 30, 31, 32, 33, 34, 35, 4, 6, 48, 49, 50, 51, 82, 83, 84, 85, 90, 91] (by decide +kernel) (by decide +kernel)
set_option maxRecDepth 20000 in
theorem gX2_roundedSize_X2_quotient : GoodIn wsX2_roundedSize (wsV RX2 137 RX2 yX2_quotient wsX2_quotient) := goodIn_app (goodIn_of _ (by decide +kernel)) ggX2_roundedSize_X2_quotient
set_option maxRecDepth 20000 in
theorem ggX2_roundedSize_X1_isZero : GoodIn wsX2_roundedSize wsX1_isZero := goodIn_r _ [43, 21, 90, 91] (by decide +kernel) (by decide +kernel)
set_option maxRecDepth 20000 in
theorem gX2_roundedSize_X1_isZero : GoodIn wsX2_roundedSize (wsV RX2 68 RX1 yX1_isZero wsX1_isZero) := goodIn_app (goodIn_of _ (by decide +kernel)) ggX2_roundedSize_X1_isZero
theorem dX2_roundedSize_0 : decode cX2_roundedSize 0 = .ok (.aload_n 0, 1) := by decide +kernel
theorem dX2_roundedSize_1 : decode cX2_roundedSize 1 = .ok (.aload_n 1, 1) := by decide +kernel
theorem dX2_roundedSize_2 : decode cX2_roundedSize 2 = .ok (.invokevirtual 123, 3) := by decide +kernel
theorem dX2_roundedSize_5 : decode cX2_roundedSize 5 = .ok (.istore_n 3, 1) := by decide +kernel
theorem dX2_roundedSize_6 : decode cX2_roundedSize 6 = .ok (.iload_n 3, 1) := by decide +kernel
theorem dX2_roundedSize_7 : decode cX2_roundedSize 7 = .ok (.sipush 1023, 3) := by decide +kernel
theorem dX2_roundedSize_10 : decode cX2_roundedSize 10 = .ok (.if_icmp .le 17, 3) := by decide +kernel
theorem dX2_roundedSize_13 : decode cX2_roundedSize 13 = .ok (.iload_n 2, 1) := by decide +kernel
theorem dX2_roundedSize_14 : decode cX2_roundedSize 14 = .ok (.ifCond .eq 9, 3) := by decide +kernel
theorem dX2_roundedSize_17 : decode cX2_roundedSize 17 = .ok (.ldc2_w 127, 3) := by decide +kernel
theorem dX2_roundedSize_20 : decode cX2_roundedSize 20 = .ok (.goto 6, 3) := by decide +kernel
theorem dX2_roundedSize_23 : decode cX2_roundedSize 23 = .ok (.ldc2_w 129, 3) := by decide +kernel
theorem dX2_roundedSize_26 : decode cX2_roundedSize 26 = .ok (.lreturn, 1) := by decide +kernel
theorem dX2_roundedSize_27 : decode cX2_roundedSize 27 = .ok (.aload_n 0, 1) := by decide +kernel
theorem dX2_roundedSize_28 : decode cX2_roundedSize 28 = .ok (.bipush 53, 2) := by decide +kernel
theorem dX2_roundedSize_30 : decode cX2_roundedSize 30 = .ok (.iload_n 3, 1) := by decide +kernel
theorem dX2_roundedSize_31 : decode cX2_roundedSize 31 = .ok (.sipush (-1074), 3) := by decide +kernel
theorem dX2_roundedSize_34 : decode cX2_roundedSize 34 = .ok (.isub, 1) := by decide +kernel
theorem dX2_roundedSize_35 : decode cX2_roundedSize 35 = .ok (.iconst 1, 1) := by decide +kernel
theorem dX2_roundedSize_36 : decode cX2_roundedSize 36 = .ok (.iadd, 1) := by decide +kernel
theorem dX2_roundedSize_37 : decode cX2_roundedSize 37 = .ok (.invokestatic 131, 3) := by decide +kernel
theorem dX2_roundedSize_40 : decode cX2_roundedSize 40 = .ok (.invokevirtual 137, 3) := by decide +kernel
theorem dX2_roundedSize_43 : decode cX2_roundedSize 43 = .ok (.lstore 4, 2) := by decide +kernel
theorem dX2_roundedSize_45 : decode cX2_roundedSize 45 = .ok (.iload_n 3, 1) := by decide +kernel
theorem dX2_roundedSize_46 : decode cX2_roundedSize 46 = .ok (.sipush (-1022), 3) := by decide +kernel
theorem dX2_roundedSize_49 : decode cX2_roundedSize 49 = .ok (.if_icmp .le 17, 3) := by decide +kernel
theorem dX2_roundedSize_52 : decode cX2_roundedSize 52 = .ok (.lload 4, 2) := by decide +kernel
theorem dX2_roundedSize_54 : decode cX2_roundedSize 54 = .ok (.iload_n 3, 1) := by decide +kernel
theorem dX2_roundedSize_55 : decode cX2_roundedSize 55 = .ok (.sipush (-1022), 3) := by decide +kernel
theorem dX2_roundedSize_58 : decode cX2_roundedSize 58 = .ok (.isub, 1) := by decide +kernel
theorem dX2_roundedSize_59 : decode cX2_roundedSize 59 = .ok (.i2l, 1) := by decide +kernel
theorem dX2_roundedSize_60 : decode cX2_roundedSize 60 = .ok (.bipush 52, 2) := by decide +kernel
theorem dX2_roundedSize_62 : decode cX2_roundedSize 62 = .ok (.lshl, 1) := by decide +kernel
theorem dX2_roundedSize_63 : decode cX2_roundedSize 63 = .ok (.ladd, 1) := by decide +kernel
theorem dX2_roundedSize_64 : decode cX2_roundedSize 64 = .ok (.lstore 4, 2) := by decide +kernel
theorem dX2_roundedSize_66 : decode cX2_roundedSize 66 = .ok (.iload_n 2, 1) := by decide +kernel
theorem dX2_roundedSize_67 : decode cX2_roundedSize 67 = .ok (.ifCond .eq 20, 3) := by decide +kernel
theorem dX2_roundedSize_70 : decode cX2_roundedSize 70 = .ok (.aload_n 0, 1) := by decide +kernel
theorem dX2_roundedSize_71 : decode cX2_roundedSize 71 = .ok (.getfield 22, 3) := by decide +kernel
theorem dX2_roundedSize_74 : decode cX2_roundedSize 74 = .ok (.invokevirtual 68, 3) := by decide +kernel
theorem dX2_roundedSize_77 : decode cX2_roundedSize 77 = .ok (.ifCond .ne 10, 3) := by decide +kernel
theorem dX2_roundedSize_80 : decode cX2_roundedSize 80 = .ok (.lload 4, 2) := by decide +kernel
theorem dX2_roundedSize_82 : decode cX2_roundedSize 82 = .ok (.lconst 1, 1) := by decide +kernel
theorem dX2_roundedSize_83 : decode cX2_roundedSize 83 = .ok (.ladd, 1) := by decide +kernel
theorem dX2_roundedSize_84 : decode cX2_roundedSize 84 = .ok (.goto 5, 3) := by decide +kernel
theorem dX2_roundedSize_87 : decode cX2_roundedSize 87 = .ok (.lload 4, 2) := by decide +kernel
theorem dX2_roundedSize_89 : decode cX2_roundedSize 89 = .ok (.lreturn, 1) := by decide +kernel
set_option maxRecDepth 20000 in
theorem ggX2_layOut_X1_copy : GoodIn wsX2_layOut wsX1_copy := goodIn_r _ [9, 10, 11, 12, 13, 8, 14, 15, 16, 17, 18, 19, 20, 21, 22, 23, 24, 25, 26, 27, 74, 75] (by decide +kernel) (by decide +kernel)
set_option maxRecDepth 20000 in
theorem gX2_layOut_X1_copy : GoodIn wsX2_layOut (wsV RX2 106 RX1 yX1_copy wsX1_copy) := goodIn_app (goodIn_of _ (by decide +kernel)) ggX2_layOut_X1_copy
set_option maxRecDepth 20000 in
theorem ggX2_layOut_X1_length : GoodIn wsX2_layOut wsX1_length := goodIn_r _ [31, 10, 32, 33, 34, 8, 35, 11, 12, 13, 14, 15, 74, 75] (by decide +kernel) (by decide +kernel)
set_option maxRecDepth 20000 in
theorem gX2_layOut_X1_length : GoodIn wsX2_layOut (wsV RX2 53 RX1 yX1_length wsX1_length) := goodIn_app (goodIn_of _ (by decide +kernel)) ggX2_layOut_X1_length
set_option maxRecDepth 20000 in
theorem ggX2_layOut_X2_alignTops : GoodIn wsX2_layOut wsX2_alignTops := goodIn_r _ [40, 1, 3, 41, 42, 43, 8, 44, 10, 45, 46, 47, 48, 49, 11, 12, 13, 14, 15, 16, 17, 18, 19, 20, 21, 22, 23, 24, 25, 26, 27, 66, 67, 68, 69, 74, 75] (by decide +kernel) (by decide +kernel)
set_option maxRecDepth 20000 in
theorem gX2_layOut_X2_alignTops : GoodIn wsX2_layOut (wsV RX2 116 RX2 yX2_alignTops wsX2_alignTops) := goodIn_app (goodIn_of _ (by decide +kernel)) ggX2_layOut_X2_alignTops
set_option maxRecDepth 20000 in
theorem ggX2_layOut_X1_order : GoodIn wsX2_layOut wsX1_order := goodIn_r _ [53, 10, 54, 55, 26, 56, 45, 46, 47, 8, 48, 49, 11, 12, 13, 14, 15, 74, 75] (by decide +kernel) (by decide +kernel)
set_option maxRecDepth 20000 in
theorem gX2_layOut_X1_order : GoodIn wsX2_layOut (wsV RX2 79 RX1 yX1_order wsX1_order) := goodIn_app (goodIn_of _ (by decide +kernel)) ggX2_layOut_X1_order
set_option maxRecDepth 20000 in
theorem ggX2_layOut_X0_rank : GoodIn wsX2_layOut wsX0_rank := goodIn_r _ [61, 62, 63, 64, 65, 29, 30, 8, 31, 10, 32, 33, 34, 35, 11, 12, 13, 14, 15, 70, 71, 72, 73, 74, 75] (by decide +kernel) (by decide +kernel)
set_option maxRecDepth 20000 in
theorem gX2_layOut_X0_rank : GoodIn wsX2_layOut (wsV RX2 110 RX0 yX0_rank wsX0_rank) := goodIn_app (goodIn_of _ (by decide +kernel)) ggX2_layOut_X0_rank
set_option maxRecDepth 20000 in
theorem ggX2_layOut_X1_shiftUp : GoodIn wsX2_layOut wsX1_shiftUp := goodIn_r _ [44, 10, 45, 46, 47, 8, 48, 49, 11, 12, 13, 14, 15, 16, 17, 18, 19, 20, 21, 22, 23, 24, 25, 26, 27, 74, 75] (by decide +kernel) (by decide +kernel)
set_option maxRecDepth 20000 in
theorem gX2_layOut_X1_shiftUp : GoodIn wsX2_layOut (wsV RX2 120 RX1 yX1_shiftUp wsX1_shiftUp) := goodIn_app (goodIn_of _ (by decide +kernel)) ggX2_layOut_X1_shiftUp
theorem dX2_layOut_0 : decode cX2_layOut 0 = .ok (.aload_n 0, 1) := by decide +kernel
theorem dX2_layOut_1 : decode cX2_layOut 1 = .ok (.getfield 22, 3) := by decide +kernel
theorem dX2_layOut_4 : decode cX2_layOut 4 = .ok (.aload_n 1, 1) := by decide +kernel
theorem dX2_layOut_5 : decode cX2_layOut 5 = .ok (.getfield 65, 3) := by decide +kernel
theorem dX2_layOut_8 : decode cX2_layOut 8 = .ok (.invokevirtual 106, 3) := by decide +kernel
theorem dX2_layOut_11 : decode cX2_layOut 11 = .ok (.aload_n 0, 1) := by decide +kernel
theorem dX2_layOut_12 : decode cX2_layOut 12 = .ok (.getfield 26, 3) := by decide +kernel
theorem dX2_layOut_15 : decode cX2_layOut 15 = .ok (.aload_n 1, 1) := by decide +kernel
theorem dX2_layOut_16 : decode cX2_layOut 16 = .ok (.getfield 103, 3) := by decide +kernel
theorem dX2_layOut_19 : decode cX2_layOut 19 = .ok (.invokevirtual 106, 3) := by decide +kernel
theorem dX2_layOut_22 : decode cX2_layOut 22 = .ok (.aload_n 0, 1) := by decide +kernel
theorem dX2_layOut_23 : decode cX2_layOut 23 = .ok (.aload_n 0, 1) := by decide +kernel
theorem dX2_layOut_24 : decode cX2_layOut 24 = .ok (.getfield 22, 3) := by decide +kernel
theorem dX2_layOut_27 : decode cX2_layOut 27 = .ok (.invokevirtual 53, 3) := by decide +kernel
theorem dX2_layOut_30 : decode cX2_layOut 30 = .ok (.aload_n 0, 1) := by decide +kernel
theorem dX2_layOut_31 : decode cX2_layOut 31 = .ok (.getfield 26, 3) := by decide +kernel
theorem dX2_layOut_34 : decode cX2_layOut 34 = .ok (.invokevirtual 53, 3) := by decide +kernel
theorem dX2_layOut_37 : decode cX2_layOut 37 = .ok (.isub, 1) := by decide +kernel
theorem dX2_layOut_38 : decode cX2_layOut 38 = .ok (.invokevirtual 116, 3) := by decide +kernel
theorem dX2_layOut_41 : decode cX2_layOut 41 = .ok (.aload_n 0, 1) := by decide +kernel
theorem dX2_layOut_42 : decode cX2_layOut 42 = .ok (.getfield 22, 3) := by decide +kernel
theorem dX2_layOut_45 : decode cX2_layOut 45 = .ok (.aload_n 0, 1) := by decide +kernel
theorem dX2_layOut_46 : decode cX2_layOut 46 = .ok (.getfield 26, 3) := by decide +kernel
theorem dX2_layOut_49 : decode cX2_layOut 49 = .ok (.invokevirtual 79, 3) := by decide +kernel
theorem dX2_layOut_52 : decode cX2_layOut 52 = .ok (.ifCond .lt 8, 3) := by decide +kernel
theorem dX2_layOut_55 : decode cX2_layOut 55 = .ok (.aload_n 1, 1) := by decide +kernel
theorem dX2_layOut_56 : decode cX2_layOut 56 = .ok (.invokevirtual 110, 3) := by decide +kernel
theorem dX2_layOut_59 : decode cX2_layOut 59 = .ok (.ireturn, 1) := by decide +kernel
theorem dX2_layOut_60 : decode cX2_layOut 60 = .ok (.aload_n 0, 1) := by decide +kernel
theorem dX2_layOut_61 : decode cX2_layOut 61 = .ok (.getfield 22, 3) := by decide +kernel
theorem dX2_layOut_64 : decode cX2_layOut 64 = .ok (.iconst 1, 1) := by decide +kernel
theorem dX2_layOut_65 : decode cX2_layOut 65 = .ok (.invokevirtual 120, 3) := by decide +kernel
theorem dX2_layOut_68 : decode cX2_layOut 68 = .ok (.aload_n 1, 1) := by decide +kernel
theorem dX2_layOut_69 : decode cX2_layOut 69 = .ok (.invokevirtual 110, 3) := by decide +kernel
theorem dX2_layOut_72 : decode cX2_layOut 72 = .ok (.iconst 1, 1) := by decide +kernel
theorem dX2_layOut_73 : decode cX2_layOut 73 = .ok (.isub, 1) := by decide +kernel
theorem dX2_layOut_74 : decode cX2_layOut 74 = .ok (.ireturn, 1) := by decide +kernel
set_option maxRecDepth 20000 in
theorem ggX2_quotient_X1_order : GoodIn wsX2_quotient wsX1_order := goodIn_r _ [7, 8, 9, 10, 11, 12, 13, 14, 15, 6, 16, 17, 18, 19, 20, 21, 22, 46, 47] (by decide +kernel) (by decide +kernel)
set_option maxRecDepth 20000 in
theorem gX2_quotient_X1_order : GoodIn wsX2_quotient (wsV RX2 79 RX1 yX1_order wsX1_order) := goodIn_app (goodIn_of _ (by decide +kernel)) ggX2_quotient_X1_order
set_option maxRecDepth 20000 in
theorem ggX2_quotient_X1_becomeDifference : GoodIn wsX2_quotient wsX1_becomeDifference := goodIn_r _ [26, 8, 13, 14, 15, 6, 16, 17, 18, 19, 20, 21, 22, 27, 28, 29, 30, 31, 32, 33, 34, 35, 36, 11, 37, 46, 47] (by decide +kernel) (by decide +kernel)
set_option maxRecDepth 20000 in
theorem gX2_quotient_X1_becomeDifference : GoodIn wsX2_quotient (wsV RX2 82 RX1 yX1_becomeDifference wsX1_becomeDifference) := goodIn_app (goodIn_of _ (by decide +kernel)) ggX2_quotient_X1_becomeDifference
set_option maxRecDepth 20000 in
theorem ggX2_quotient_X1_shiftUp : GoodIn wsX2_quotient wsX1_shiftUp := goodIn_r _ [41, 8, 13, 14, 15, 6, 16, 17, 18, 19, 20, 21, 22, 27, 28, 29, 30, 31, 32, 33, 34, 35, 36, 11, 37, 46, 47] (by decide +kernel) (by decide +kernel)
set_option maxRecDepth 20000 in
theorem gX2_quotient_X1_shiftUp : GoodIn wsX2_quotient (wsV RX2 120 RX1 yX1_shiftUp wsX1_shiftUp) := goodIn_app (goodIn_of _ (by decide +kernel)) ggX2_quotient_X1_shiftUp
theorem dX2_quotient_0 : decode cX2_quotient 0 = .ok (.lconst 0, 1) := by decide +kernel
theorem dX2_quotient_1 : decode cX2_quotient 1 = .ok (.lstore_n 2, 1) := by decide +kernel
theorem dX2_quotient_2 : decode cX2_quotient 2 = .ok (.iconst 0, 1) := by decide +kernel
theorem dX2_quotient_3 : decode cX2_quotient 3 = .ok (.istore 4, 2) := by decide +kernel
theorem dX2_quotient_5 : decode cX2_quotient 5 = .ok (.iload 4, 2) := by decide +kernel
theorem dX2_quotient_7 : decode cX2_quotient 7 = .ok (.iload_n 1, 1) := by decide +kernel
theorem dX2_quotient_8 : decode cX2_quotient 8 = .ok (.if_icmp .ge 54, 3) := by decide +kernel
theorem dX2_quotient_11 : decode cX2_quotient 11 = .ok (.lload_n 2, 1) := by decide +kernel
theorem dX2_quotient_12 : decode cX2_quotient 12 = .ok (.iconst 1, 1) := by decide +kernel
theorem dX2_quotient_13 : decode cX2_quotient 13 = .ok (.lshl, 1) := by decide +kernel
theorem dX2_quotient_14 : decode cX2_quotient 14 = .ok (.lstore_n 2, 1) := by decide +kernel
theorem dX2_quotient_15 : decode cX2_quotient 15 = .ok (.aload_n 0, 1) := by decide +kernel
theorem dX2_quotient_16 : decode cX2_quotient 16 = .ok (.getfield 22, 3) := by decide +kernel
theorem dX2_quotient_19 : decode cX2_quotient 19 = .ok (.aload_n 0, 1) := by decide +kernel
theorem dX2_quotient_20 : decode cX2_quotient 20 = .ok (.getfield 26, 3) := by decide +kernel
theorem dX2_quotient_23 : decode cX2_quotient 23 = .ok (.invokevirtual 79, 3) := by decide +kernel
theorem dX2_quotient_26 : decode cX2_quotient 26 = .ok (.ifCond .lt 22, 3) := by decide +kernel
theorem dX2_quotient_29 : decode cX2_quotient 29 = .ok (.aload_n 0, 1) := by decide +kernel
theorem dX2_quotient_30 : decode cX2_quotient 30 = .ok (.getfield 22, 3) := by decide +kernel
theorem dX2_quotient_33 : decode cX2_quotient 33 = .ok (.aload_n 0, 1) := by decide +kernel
theorem dX2_quotient_34 : decode cX2_quotient 34 = .ok (.getfield 22, 3) := by decide +kernel
theorem dX2_quotient_37 : decode cX2_quotient 37 = .ok (.aload_n 0, 1) := by decide +kernel
theorem dX2_quotient_38 : decode cX2_quotient 38 = .ok (.getfield 26, 3) := by decide +kernel
theorem dX2_quotient_41 : decode cX2_quotient 41 = .ok (.invokevirtual 82, 3) := by decide +kernel
theorem dX2_quotient_44 : decode cX2_quotient 44 = .ok (.lload_n 2, 1) := by decide +kernel
theorem dX2_quotient_45 : decode cX2_quotient 45 = .ok (.lconst 1, 1) := by decide +kernel
theorem dX2_quotient_46 : decode cX2_quotient 46 = .ok (.lor, 1) := by decide +kernel
theorem dX2_quotient_47 : decode cX2_quotient 47 = .ok (.lstore_n 2, 1) := by decide +kernel
theorem dX2_quotient_48 : decode cX2_quotient 48 = .ok (.aload_n 0, 1) := by decide +kernel
theorem dX2_quotient_49 : decode cX2_quotient 49 = .ok (.getfield 22, 3) := by decide +kernel
theorem dX2_quotient_52 : decode cX2_quotient 52 = .ok (.iconst 1, 1) := by decide +kernel
theorem dX2_quotient_53 : decode cX2_quotient 53 = .ok (.invokevirtual 120, 3) := by decide +kernel
theorem dX2_quotient_56 : decode cX2_quotient 56 = .ok (.iinc 4 1, 3) := by decide +kernel
theorem dX2_quotient_59 : decode cX2_quotient 59 = .ok (.goto (-54), 3) := by decide +kernel
theorem dX2_quotient_62 : decode cX2_quotient 62 = .ok (.lload_n 2, 1) := by decide +kernel
theorem dX2_quotient_63 : decode cX2_quotient 63 = .ok (.lreturn, 1) := by decide +kernel
theorem dJ9_max_7cf53_0 : decode cJ9_max_7cf53 0 = .ok (.iload_n 0, 1) := by decide +kernel
theorem dJ9_max_7cf53_1 : decode cJ9_max_7cf53 1 = .ok (.iload_n 1, 1) := by decide +kernel
theorem dJ9_max_7cf53_2 : decode cJ9_max_7cf53 2 = .ok (.if_icmp .lt 7, 3) := by decide +kernel
theorem dJ9_max_7cf53_5 : decode cJ9_max_7cf53 5 = .ok (.iload_n 0, 1) := by decide +kernel
theorem dJ9_max_7cf53_6 : decode cJ9_max_7cf53 6 = .ok (.goto 4, 3) := by decide +kernel
theorem dJ9_max_7cf53_9 : decode cJ9_max_7cf53 9 = .ok (.iload_n 1, 1) := by decide +kernel
theorem dJ9_max_7cf53_10 : decode cJ9_max_7cf53 10 = .ok (.ireturn, 1) := by decide +kernel
theorem dJ9_min_7cf53_0 : decode cJ9_min_7cf53 0 = .ok (.iload_n 0, 1) := by decide +kernel
theorem dJ9_min_7cf53_1 : decode cJ9_min_7cf53 1 = .ok (.iload_n 1, 1) := by decide +kernel
theorem dJ9_min_7cf53_2 : decode cJ9_min_7cf53 2 = .ok (.if_icmp .gt 7, 3) := by decide +kernel
theorem dJ9_min_7cf53_5 : decode cJ9_min_7cf53 5 = .ok (.iload_n 0, 1) := by decide +kernel
theorem dJ9_min_7cf53_6 : decode cJ9_min_7cf53 6 = .ok (.goto 4, 3) := by decide +kernel
theorem dJ9_min_7cf53_9 : decode cJ9_min_7cf53 9 = .ok (.iload_n 1, 1) := by decide +kernel
theorem dJ9_min_7cf53_10 : decode cJ9_min_7cf53 10 = .ok (.ireturn, 1) := by decide +kernel
theorem dL_law_0 : decode cL_law 0 = .ok (.new 7, 3) := by decide +kernel
theorem dL_law_3 : decode cL_law 3 = .ok (.dup, 1) := by decide +kernel
theorem dL_law_4 : decode cL_law 4 = .ok (.invokespecial 9, 3) := by decide +kernel
theorem dL_law_7 : decode cL_law 7 = .ok (.astore_n 1, 1) := by decide +kernel
theorem dL_law_8 : decode cL_law 8 = .ok (.new 10, 3) := by decide +kernel
theorem dL_law_11 : decode cL_law 11 = .ok (.dup, 1) := by decide +kernel
theorem dL_law_12 : decode cL_law 12 = .ok (.invokespecial 12, 3) := by decide +kernel
theorem dL_law_15 : decode cL_law 15 = .ok (.astore_n 2, 1) := by decide +kernel
theorem dL_law_16 : decode cL_law 16 = .ok (.iconst 0, 1) := by decide +kernel
theorem dL_law_17 : decode cL_law 17 = .ok (.istore_n 3, 1) := by decide +kernel
theorem dL_law_18 : decode cL_law 18 = .ok (.iload_n 3, 1) := by decide +kernel
theorem dL_law_19 : decode cL_law 19 = .ok (.aload_n 0, 1) := by decide +kernel
theorem dL_law_20 : decode cL_law 20 = .ok (.arraylength, 1) := by decide +kernel
theorem dL_law_21 : decode cL_law 21 = .ok (.iconst 5, 1) := by decide +kernel
theorem dL_law_22 : decode cL_law 22 = .ok (.isub, 1) := by decide +kernel
theorem dL_law_23 : decode cL_law 23 = .ok (.if_icmp .gt 490, 3) := by decide +kernel
theorem dL_law_26 : decode cL_law 26 = .ok (.aload_n 0, 1) := by decide +kernel
theorem dL_law_27 : decode cL_law 27 = .ok (.iload_n 3, 1) := by decide +kernel
theorem dL_law_28 : decode cL_law 28 = .ok (.iaload, 1) := by decide +kernel
theorem dL_law_29 : decode cL_law 29 = .ok (.bipush 15, 2) := by decide +kernel
theorem dL_law_31 : decode cL_law 31 = .ok (.iand, 1) := by decide +kernel
theorem dL_law_32 : decode cL_law 32 = .ok (.tableswitch 475 0 9 #[56, 79, 132, 205, 264, 287, 336, 369, 412, 425], 56) := by decide +kernel
theorem dL_law_88 : decode cL_law 88 = .ok (.aload_n 1, 1) := by decide +kernel
theorem dL_law_89 : decode cL_law 89 = .ok (.aload_n 0, 1) := by decide +kernel
theorem dL_law_90 : decode cL_law 90 = .ok (.iload_n 3, 1) := by decide +kernel
theorem dL_law_91 : decode cL_law 91 = .ok (.iconst 1, 1) := by decide +kernel
theorem dL_law_92 : decode cL_law 92 = .ok (.iadd, 1) := by decide +kernel
theorem dL_law_93 : decode cL_law 93 = .ok (.iaload, 1) := by decide +kernel
theorem dL_law_94 : decode cL_law 94 = .ok (.invokevirtual 13, 3) := by decide +kernel
theorem dL_law_97 : decode cL_law 97 = .ok (.aload_n 2, 1) := by decide +kernel
theorem dL_law_98 : decode cL_law 98 = .ok (.aload_n 0, 1) := by decide +kernel
theorem dL_law_99 : decode cL_law 99 = .ok (.iload_n 3, 1) := by decide +kernel
theorem dL_law_100 : decode cL_law 100 = .ok (.iconst 1, 1) := by decide +kernel
theorem dL_law_101 : decode cL_law 101 = .ok (.iadd, 1) := by decide +kernel
theorem dL_law_102 : decode cL_law 102 = .ok (.iaload, 1) := by decide +kernel
theorem dL_law_103 : decode cL_law 103 = .ok (.invokevirtual 17, 3) := by decide +kernel
theorem dL_law_106 : decode cL_law 106 = .ok (.if_icmp .eq 401, 3) := by decide +kernel
theorem dL_law_109 : decode cL_law 109 = .ok (.iconst 0, 1) := by decide +kernel
theorem dL_law_110 : decode cL_law 110 = .ok (.ireturn, 1) := by decide +kernel
theorem dL_law_111 : decode cL_law 111 = .ok (.aload_n 1, 1) := by decide +kernel
theorem dL_law_112 : decode cL_law 112 = .ok (.aload_n 0, 1) := by decide +kernel
theorem dL_law_113 : decode cL_law 113 = .ok (.iload_n 3, 1) := by decide +kernel
theorem dL_law_114 : decode cL_law 114 = .ok (.iconst 1, 1) := by decide +kernel
theorem dL_law_115 : decode cL_law 115 = .ok (.iadd, 1) := by decide +kernel
theorem dL_law_116 : decode cL_law 116 = .ok (.iaload, 1) := by decide +kernel
theorem dL_law_117 : decode cL_law 117 = .ok (.aload_n 0, 1) := by decide +kernel
theorem dL_law_118 : decode cL_law 118 = .ok (.iload_n 3, 1) := by decide +kernel
theorem dL_law_119 : decode cL_law 119 = .ok (.iconst 2, 1) := by decide +kernel
theorem dL_law_120 : decode cL_law 120 = .ok (.iadd, 1) := by decide +kernel
theorem dL_law_121 : decode cL_law 121 = .ok (.iaload, 1) := by decide +kernel
theorem dL_law_122 : decode cL_law 122 = .ok (.aload_n 0, 1) := by decide +kernel
theorem dL_law_123 : decode cL_law 123 = .ok (.iload_n 3, 1) := by decide +kernel
theorem dL_law_124 : decode cL_law 124 = .ok (.iconst 3, 1) := by decide +kernel
theorem dL_law_125 : decode cL_law 125 = .ok (.iadd, 1) := by decide +kernel
theorem dL_law_126 : decode cL_law 126 = .ok (.iaload, 1) := by decide +kernel
theorem dL_law_127 : decode cL_law 127 = .ok (.aload_n 0, 1) := by decide +kernel
theorem dL_law_128 : decode cL_law 128 = .ok (.iload_n 3, 1) := by decide +kernel
theorem dL_law_129 : decode cL_law 129 = .ok (.iconst 4, 1) := by decide +kernel
theorem dL_law_130 : decode cL_law 130 = .ok (.iadd, 1) := by decide +kernel
theorem dL_law_131 : decode cL_law 131 = .ok (.iaload, 1) := by decide +kernel
theorem dL_law_132 : decode cL_law 132 = .ok (.invokevirtual 18, 3) := by decide +kernel
theorem dL_law_135 : decode cL_law 135 = .ok (.aload_n 2, 1) := by decide +kernel
theorem dL_law_136 : decode cL_law 136 = .ok (.aload_n 0, 1) := by decide +kernel
theorem dL_law_137 : decode cL_law 137 = .ok (.iload_n 3, 1) := by decide +kernel
theorem dL_law_138 : decode cL_law 138 = .ok (.iconst 1, 1) := by decide +kernel
theorem dL_law_139 : decode cL_law 139 = .ok (.iadd, 1) := by decide +kernel
theorem dL_law_140 : decode cL_law 140 = .ok (.iaload, 1) := by decide +kernel
theorem dL_law_141 : decode cL_law 141 = .ok (.aload_n 0, 1) := by decide +kernel
theorem dL_law_142 : decode cL_law 142 = .ok (.iload_n 3, 1) := by decide +kernel
theorem dL_law_143 : decode cL_law 143 = .ok (.iconst 2, 1) := by decide +kernel
theorem dL_law_144 : decode cL_law 144 = .ok (.iadd, 1) := by decide +kernel
theorem dL_law_145 : decode cL_law 145 = .ok (.iaload, 1) := by decide +kernel
theorem dL_law_146 : decode cL_law 146 = .ok (.aload_n 0, 1) := by decide +kernel
theorem dL_law_147 : decode cL_law 147 = .ok (.iload_n 3, 1) := by decide +kernel
theorem dL_law_148 : decode cL_law 148 = .ok (.iconst 3, 1) := by decide +kernel
theorem dL_law_149 : decode cL_law 149 = .ok (.iadd, 1) := by decide +kernel
theorem dL_law_150 : decode cL_law 150 = .ok (.iaload, 1) := by decide +kernel
theorem dL_law_151 : decode cL_law 151 = .ok (.aload_n 0, 1) := by decide +kernel
theorem dL_law_152 : decode cL_law 152 = .ok (.iload_n 3, 1) := by decide +kernel
theorem dL_law_153 : decode cL_law 153 = .ok (.iconst 4, 1) := by decide +kernel
theorem dL_law_154 : decode cL_law 154 = .ok (.iadd, 1) := by decide +kernel
theorem dL_law_155 : decode cL_law 155 = .ok (.iaload, 1) := by decide +kernel
theorem dL_law_156 : decode cL_law 156 = .ok (.invokevirtual 22, 3) := by decide +kernel
end
section
theorem dL_law_159 : decode cL_law 159 = .ok (.if_icmp .eq 348, 3) := by decide +kernel
theorem dL_law_162 : decode cL_law 162 = .ok (.iconst 0, 1) := by decide +kernel
theorem dL_law_163 : decode cL_law 163 = .ok (.ireturn, 1) := by decide +kernel
theorem dL_law_164 : decode cL_law 164 = .ok (.aload_n 1, 1) := by decide +kernel
theorem dL_law_165 : decode cL_law 165 = .ok (.aload_n 0, 1) := by decide +kernel
theorem dL_law_166 : decode cL_law 166 = .ok (.iload_n 3, 1) := by decide +kernel
theorem dL_law_167 : decode cL_law 167 = .ok (.iconst 1, 1) := by decide +kernel
theorem dL_law_168 : decode cL_law 168 = .ok (.iadd, 1) := by decide +kernel
theorem dL_law_169 : decode cL_law 169 = .ok (.iaload, 1) := by decide +kernel
theorem dL_law_170 : decode cL_law 170 = .ok (.aload_n 0, 1) := by decide +kernel
theorem dL_law_171 : decode cL_law 171 = .ok (.iload_n 3, 1) := by decide +kernel
theorem dL_law_172 : decode cL_law 172 = .ok (.iconst 2, 1) := by decide +kernel
theorem dL_law_173 : decode cL_law 173 = .ok (.iadd, 1) := by decide +kernel
theorem dL_law_174 : decode cL_law 174 = .ok (.iaload, 1) := by decide +kernel
theorem dL_law_175 : decode cL_law 175 = .ok (.aload_n 0, 1) := by decide +kernel
theorem dL_law_176 : decode cL_law 176 = .ok (.iload_n 3, 1) := by decide +kernel
theorem dL_law_177 : decode cL_law 177 = .ok (.iconst 3, 1) := by decide +kernel
theorem dL_law_178 : decode cL_law 178 = .ok (.iadd, 1) := by decide +kernel
theorem dL_law_179 : decode cL_law 179 = .ok (.iaload, 1) := by decide +kernel
theorem dL_law_180 : decode cL_law 180 = .ok (.i2l, 1) := by decide +kernel
theorem dL_law_181 : decode cL_law 181 = .ok (.bipush 32, 2) := by decide +kernel
theorem dL_law_183 : decode cL_law 183 = .ok (.lshl, 1) := by decide +kernel
theorem dL_law_184 : decode cL_law 184 = .ok (.aload_n 0, 1) := by decide +kernel
theorem dL_law_185 : decode cL_law 185 = .ok (.iload_n 3, 1) := by decide +kernel
theorem dL_law_186 : decode cL_law 186 = .ok (.iconst 4, 1) := by decide +kernel
theorem dL_law_187 : decode cL_law 187 = .ok (.iadd, 1) := by decide +kernel
theorem dL_law_188 : decode cL_law 188 = .ok (.iaload, 1) := by decide +kernel
theorem dL_law_189 : decode cL_law 189 = .ok (.i2l, 1) := by decide +kernel
theorem dL_law_190 : decode cL_law 190 = .ok (.ldc2_w 23, 3) := by decide +kernel
theorem dL_law_193 : decode cL_law 193 = .ok (.land, 1) := by decide +kernel
theorem dL_law_194 : decode cL_law 194 = .ok (.lor, 1) := by decide +kernel
theorem dL_law_195 : decode cL_law 195 = .ok (.invokevirtual 25, 3) := by decide +kernel
theorem dL_law_198 : decode cL_law 198 = .ok (.aload_n 2, 1) := by decide +kernel
theorem dL_law_199 : decode cL_law 199 = .ok (.aload_n 0, 1) := by decide +kernel
theorem dL_law_200 : decode cL_law 200 = .ok (.iload_n 3, 1) := by decide +kernel
theorem dL_law_201 : decode cL_law 201 = .ok (.iconst 1, 1) := by decide +kernel
theorem dL_law_202 : decode cL_law 202 = .ok (.iadd, 1) := by decide +kernel
theorem dL_law_203 : decode cL_law 203 = .ok (.iaload, 1) := by decide +kernel
theorem dL_law_204 : decode cL_law 204 = .ok (.aload_n 0, 1) := by decide +kernel
theorem dL_law_205 : decode cL_law 205 = .ok (.iload_n 3, 1) := by decide +kernel
theorem dL_law_206 : decode cL_law 206 = .ok (.iconst 2, 1) := by decide +kernel
theorem dL_law_207 : decode cL_law 207 = .ok (.iadd, 1) := by decide +kernel
theorem dL_law_208 : decode cL_law 208 = .ok (.iaload, 1) := by decide +kernel
theorem dL_law_209 : decode cL_law 209 = .ok (.aload_n 0, 1) := by decide +kernel
theorem dL_law_210 : decode cL_law 210 = .ok (.iload_n 3, 1) := by decide +kernel
theorem dL_law_211 : decode cL_law 211 = .ok (.iconst 3, 1) := by decide +kernel
theorem dL_law_212 : decode cL_law 212 = .ok (.iadd, 1) := by decide +kernel
theorem dL_law_213 : decode cL_law 213 = .ok (.iaload, 1) := by decide +kernel
theorem dL_law_214 : decode cL_law 214 = .ok (.i2l, 1) := by decide +kernel
theorem dL_law_215 : decode cL_law 215 = .ok (.bipush 32, 2) := by decide +kernel
theorem dL_law_217 : decode cL_law 217 = .ok (.lshl, 1) := by decide +kernel
theorem dL_law_218 : decode cL_law 218 = .ok (.aload_n 0, 1) := by decide +kernel
theorem dL_law_219 : decode cL_law 219 = .ok (.iload_n 3, 1) := by decide +kernel
theorem dL_law_220 : decode cL_law 220 = .ok (.iconst 4, 1) := by decide +kernel
theorem dL_law_221 : decode cL_law 221 = .ok (.iadd, 1) := by decide +kernel
theorem dL_law_222 : decode cL_law 222 = .ok (.iaload, 1) := by decide +kernel
theorem dL_law_223 : decode cL_law 223 = .ok (.i2l, 1) := by decide +kernel
theorem dL_law_224 : decode cL_law 224 = .ok (.ldc2_w 23, 3) := by decide +kernel
theorem dL_law_227 : decode cL_law 227 = .ok (.land, 1) := by decide +kernel
theorem dL_law_228 : decode cL_law 228 = .ok (.lor, 1) := by decide +kernel
theorem dL_law_229 : decode cL_law 229 = .ok (.invokevirtual 29, 3) := by decide +kernel
theorem dL_law_232 : decode cL_law 232 = .ok (.if_icmp .eq 275, 3) := by decide +kernel
theorem dL_law_235 : decode cL_law 235 = .ok (.iconst 0, 1) := by decide +kernel
theorem dL_law_236 : decode cL_law 236 = .ok (.ireturn, 1) := by decide +kernel
theorem dL_law_237 : decode cL_law 237 = .ok (.aload_n 1, 1) := by decide +kernel
theorem dL_law_238 : decode cL_law 238 = .ok (.aload_n 0, 1) := by decide +kernel
theorem dL_law_239 : decode cL_law 239 = .ok (.iload_n 3, 1) := by decide +kernel
theorem dL_law_240 : decode cL_law 240 = .ok (.iconst 1, 1) := by decide +kernel
theorem dL_law_241 : decode cL_law 241 = .ok (.iadd, 1) := by decide +kernel
theorem dL_law_242 : decode cL_law 242 = .ok (.iaload, 1) := by decide +kernel
theorem dL_law_243 : decode cL_law 243 = .ok (.aload_n 0, 1) := by decide +kernel
theorem dL_law_244 : decode cL_law 244 = .ok (.iload_n 3, 1) := by decide +kernel
theorem dL_law_245 : decode cL_law 245 = .ok (.iconst 2, 1) := by decide +kernel
theorem dL_law_246 : decode cL_law 246 = .ok (.iadd, 1) := by decide +kernel
theorem dL_law_247 : decode cL_law 247 = .ok (.iaload, 1) := by decide +kernel
theorem dL_law_248 : decode cL_law 248 = .ok (.ifCond .eq 7, 3) := by decide +kernel
theorem dL_law_251 : decode cL_law 251 = .ok (.iconst 1, 1) := by decide +kernel
theorem dL_law_252 : decode cL_law 252 = .ok (.goto 4, 3) := by decide +kernel
theorem dL_law_255 : decode cL_law 255 = .ok (.iconst 0, 1) := by decide +kernel
theorem dL_law_256 : decode cL_law 256 = .ok (.aload_n 0, 1) := by decide +kernel
theorem dL_law_257 : decode cL_law 257 = .ok (.iload_n 3, 1) := by decide +kernel
theorem dL_law_258 : decode cL_law 258 = .ok (.iconst 3, 1) := by decide +kernel
theorem dL_law_259 : decode cL_law 259 = .ok (.iadd, 1) := by decide +kernel
theorem dL_law_260 : decode cL_law 260 = .ok (.iaload, 1) := by decide +kernel
theorem dL_law_261 : decode cL_law 261 = .ok (.invokevirtual 30, 3) := by decide +kernel
theorem dL_law_264 : decode cL_law 264 = .ok (.aload_n 2, 1) := by decide +kernel
theorem dL_law_265 : decode cL_law 265 = .ok (.aload_n 0, 1) := by decide +kernel
theorem dL_law_266 : decode cL_law 266 = .ok (.iload_n 3, 1) := by decide +kernel
theorem dL_law_267 : decode cL_law 267 = .ok (.iconst 1, 1) := by decide +kernel
theorem dL_law_268 : decode cL_law 268 = .ok (.iadd, 1) := by decide +kernel
theorem dL_law_269 : decode cL_law 269 = .ok (.iaload, 1) := by decide +kernel
theorem dL_law_270 : decode cL_law 270 = .ok (.aload_n 0, 1) := by decide +kernel
theorem dL_law_271 : decode cL_law 271 = .ok (.iload_n 3, 1) := by decide +kernel
theorem dL_law_272 : decode cL_law 272 = .ok (.iconst 2, 1) := by decide +kernel
theorem dL_law_273 : decode cL_law 273 = .ok (.iadd, 1) := by decide +kernel
theorem dL_law_274 : decode cL_law 274 = .ok (.iaload, 1) := by decide +kernel
theorem dL_law_275 : decode cL_law 275 = .ok (.ifCond .eq 7, 3) := by decide +kernel
theorem dL_law_278 : decode cL_law 278 = .ok (.iconst 1, 1) := by decide +kernel
theorem dL_law_279 : decode cL_law 279 = .ok (.goto 4, 3) := by decide +kernel
theorem dL_law_282 : decode cL_law 282 = .ok (.iconst 0, 1) := by decide +kernel
theorem dL_law_283 : decode cL_law 283 = .ok (.aload_n 0, 1) := by decide +kernel
theorem dL_law_284 : decode cL_law 284 = .ok (.iload_n 3, 1) := by decide +kernel
theorem dL_law_285 : decode cL_law 285 = .ok (.iconst 3, 1) := by decide +kernel
theorem dL_law_286 : decode cL_law 286 = .ok (.iadd, 1) := by decide +kernel
theorem dL_law_287 : decode cL_law 287 = .ok (.iaload, 1) := by decide +kernel
theorem dL_law_288 : decode cL_law 288 = .ok (.invokevirtual 34, 3) := by decide +kernel
theorem dL_law_291 : decode cL_law 291 = .ok (.if_icmp .eq 216, 3) := by decide +kernel
theorem dL_law_294 : decode cL_law 294 = .ok (.iconst 0, 1) := by decide +kernel
theorem dL_law_295 : decode cL_law 295 = .ok (.ireturn, 1) := by decide +kernel
theorem dL_law_296 : decode cL_law 296 = .ok (.aload_n 1, 1) := by decide +kernel
theorem dL_law_297 : decode cL_law 297 = .ok (.aload_n 0, 1) := by decide +kernel
theorem dL_law_298 : decode cL_law 298 = .ok (.iload_n 3, 1) := by decide +kernel
theorem dL_law_299 : decode cL_law 299 = .ok (.iconst 1, 1) := by decide +kernel
theorem dL_law_300 : decode cL_law 300 = .ok (.iadd, 1) := by decide +kernel
theorem dL_law_301 : decode cL_law 301 = .ok (.iaload, 1) := by decide +kernel
theorem dL_law_302 : decode cL_law 302 = .ok (.invokevirtual 35, 3) := by decide +kernel
theorem dL_law_305 : decode cL_law 305 = .ok (.aload_n 2, 1) := by decide +kernel
theorem dL_law_306 : decode cL_law 306 = .ok (.aload_n 0, 1) := by decide +kernel
theorem dL_law_307 : decode cL_law 307 = .ok (.iload_n 3, 1) := by decide +kernel
theorem dL_law_308 : decode cL_law 308 = .ok (.iconst 1, 1) := by decide +kernel
theorem dL_law_309 : decode cL_law 309 = .ok (.iadd, 1) := by decide +kernel
theorem dL_law_310 : decode cL_law 310 = .ok (.iaload, 1) := by decide +kernel
theorem dL_law_311 : decode cL_law 311 = .ok (.invokevirtual 38, 3) := by decide +kernel
theorem dL_law_314 : decode cL_law 314 = .ok (.if_icmp .eq 193, 3) := by decide +kernel
theorem dL_law_317 : decode cL_law 317 = .ok (.iconst 0, 1) := by decide +kernel
theorem dL_law_318 : decode cL_law 318 = .ok (.ireturn, 1) := by decide +kernel
theorem dL_law_319 : decode cL_law 319 = .ok (.aload_n 1, 1) := by decide +kernel
theorem dL_law_320 : decode cL_law 320 = .ok (.aload_n 0, 1) := by decide +kernel
theorem dL_law_321 : decode cL_law 321 = .ok (.iload_n 3, 1) := by decide +kernel
theorem dL_law_322 : decode cL_law 322 = .ok (.iconst 1, 1) := by decide +kernel
theorem dL_law_323 : decode cL_law 323 = .ok (.iadd, 1) := by decide +kernel
theorem dL_law_324 : decode cL_law 324 = .ok (.iaload, 1) := by decide +kernel
theorem dL_law_325 : decode cL_law 325 = .ok (.aload_n 0, 1) := by decide +kernel
theorem dL_law_326 : decode cL_law 326 = .ok (.iload_n 3, 1) := by decide +kernel
theorem dL_law_327 : decode cL_law 327 = .ok (.iconst 2, 1) := by decide +kernel
theorem dL_law_328 : decode cL_law 328 = .ok (.iadd, 1) := by decide +kernel
theorem dL_law_329 : decode cL_law 329 = .ok (.iaload, 1) := by decide +kernel
theorem dL_law_330 : decode cL_law 330 = .ok (.ifCond .eq 7, 3) := by decide +kernel
theorem dL_law_333 : decode cL_law 333 = .ok (.iconst 1, 1) := by decide +kernel
theorem dL_law_334 : decode cL_law 334 = .ok (.goto 4, 3) := by decide +kernel
theorem dL_law_337 : decode cL_law 337 = .ok (.iconst 0, 1) := by decide +kernel
theorem dL_law_338 : decode cL_law 338 = .ok (.invokevirtual 39, 3) := by decide +kernel
theorem dL_law_341 : decode cL_law 341 = .ok (.aload_n 2, 1) := by decide +kernel
theorem dL_law_342 : decode cL_law 342 = .ok (.aload_n 0, 1) := by decide +kernel
theorem dL_law_343 : decode cL_law 343 = .ok (.iload_n 3, 1) := by decide +kernel
theorem dL_law_344 : decode cL_law 344 = .ok (.iconst 1, 1) := by decide +kernel
theorem dL_law_345 : decode cL_law 345 = .ok (.iadd, 1) := by decide +kernel
theorem dL_law_346 : decode cL_law 346 = .ok (.iaload, 1) := by decide +kernel
theorem dL_law_347 : decode cL_law 347 = .ok (.aload_n 0, 1) := by decide +kernel
theorem dL_law_348 : decode cL_law 348 = .ok (.iload_n 3, 1) := by decide +kernel
theorem dL_law_349 : decode cL_law 349 = .ok (.iconst 2, 1) := by decide +kernel
theorem dL_law_350 : decode cL_law 350 = .ok (.iadd, 1) := by decide +kernel
theorem dL_law_351 : decode cL_law 351 = .ok (.iaload, 1) := by decide +kernel
theorem dL_law_352 : decode cL_law 352 = .ok (.ifCond .eq 7, 3) := by decide +kernel
theorem dL_law_355 : decode cL_law 355 = .ok (.iconst 1, 1) := by decide +kernel
theorem dL_law_356 : decode cL_law 356 = .ok (.goto 4, 3) := by decide +kernel
theorem dL_law_359 : decode cL_law 359 = .ok (.iconst 0, 1) := by decide +kernel
theorem dL_law_360 : decode cL_law 360 = .ok (.invokevirtual 43, 3) := by decide +kernel
theorem dL_law_363 : decode cL_law 363 = .ok (.if_icmp .eq 144, 3) := by decide +kernel
theorem dL_law_366 : decode cL_law 366 = .ok (.iconst 0, 1) := by decide +kernel
theorem dL_law_367 : decode cL_law 367 = .ok (.ireturn, 1) := by decide +kernel
theorem dL_law_368 : decode cL_law 368 = .ok (.aload_n 1, 1) := by decide +kernel
theorem dL_law_369 : decode cL_law 369 = .ok (.aload_n 0, 1) := by decide +kernel
theorem dL_law_370 : decode cL_law 370 = .ok (.iload_n 3, 1) := by decide +kernel
theorem dL_law_371 : decode cL_law 371 = .ok (.iconst 1, 1) := by decide +kernel
theorem dL_law_372 : decode cL_law 372 = .ok (.iadd, 1) := by decide +kernel
theorem dL_law_373 : decode cL_law 373 = .ok (.iaload, 1) := by decide +kernel
theorem dL_law_374 : decode cL_law 374 = .ok (.aload_n 0, 1) := by decide +kernel
theorem dL_law_375 : decode cL_law 375 = .ok (.iload_n 3, 1) := by decide +kernel
theorem dL_law_376 : decode cL_law 376 = .ok (.iconst 2, 1) := by decide +kernel
theorem dL_law_377 : decode cL_law 377 = .ok (.iadd, 1) := by decide +kernel
theorem dL_law_378 : decode cL_law 378 = .ok (.iaload, 1) := by decide +kernel
theorem dL_law_379 : decode cL_law 379 = .ok (.invokevirtual 44, 3) := by decide +kernel
theorem dL_law_382 : decode cL_law 382 = .ok (.aload_n 2, 1) := by decide +kernel
theorem dL_law_383 : decode cL_law 383 = .ok (.aload_n 0, 1) := by decide +kernel
theorem dL_law_384 : decode cL_law 384 = .ok (.iload_n 3, 1) := by decide +kernel
theorem dL_law_385 : decode cL_law 385 = .ok (.iconst 1, 1) := by decide +kernel
theorem dL_law_386 : decode cL_law 386 = .ok (.iadd, 1) := by decide +kernel
theorem dL_law_387 : decode cL_law 387 = .ok (.iaload, 1) := by decide +kernel
theorem dL_law_388 : decode cL_law 388 = .ok (.aload_n 0, 1) := by decide +kernel
theorem dL_law_389 : decode cL_law 389 = .ok (.iload_n 3, 1) := by decide +kernel
theorem dL_law_390 : decode cL_law 390 = .ok (.iconst 2, 1) := by decide +kernel
theorem dL_law_391 : decode cL_law 391 = .ok (.iadd, 1) := by decide +kernel
theorem dL_law_392 : decode cL_law 392 = .ok (.iaload, 1) := by decide +kernel
theorem dL_law_393 : decode cL_law 393 = .ok (.invokevirtual 48, 3) := by decide +kernel
theorem dL_law_396 : decode cL_law 396 = .ok (.if_icmp .eq 111, 3) := by decide +kernel
theorem dL_law_399 : decode cL_law 399 = .ok (.iconst 0, 1) := by decide +kernel
theorem dL_law_400 : decode cL_law 400 = .ok (.ireturn, 1) := by decide +kernel
theorem dL_law_401 : decode cL_law 401 = .ok (.aload_n 1, 1) := by decide +kernel
theorem dL_law_402 : decode cL_law 402 = .ok (.aload_n 0, 1) := by decide +kernel
theorem dL_law_403 : decode cL_law 403 = .ok (.iload_n 3, 1) := by decide +kernel
theorem dL_law_404 : decode cL_law 404 = .ok (.iconst 1, 1) := by decide +kernel
theorem dL_law_405 : decode cL_law 405 = .ok (.iadd, 1) := by decide +kernel
theorem dL_law_406 : decode cL_law 406 = .ok (.iaload, 1) := by decide +kernel
theorem dL_law_407 : decode cL_law 407 = .ok (.aload_n 0, 1) := by decide +kernel
theorem dL_law_408 : decode cL_law 408 = .ok (.iload_n 3, 1) := by decide +kernel
theorem dL_law_409 : decode cL_law 409 = .ok (.iconst 2, 1) := by decide +kernel
theorem dL_law_410 : decode cL_law 410 = .ok (.iadd, 1) := by decide +kernel
theorem dL_law_411 : decode cL_law 411 = .ok (.iaload, 1) := by decide +kernel
theorem dL_law_412 : decode cL_law 412 = .ok (.aload_n 0, 1) := by decide +kernel
theorem dL_law_413 : decode cL_law 413 = .ok (.iload_n 3, 1) := by decide +kernel
theorem dL_law_414 : decode cL_law 414 = .ok (.iconst 3, 1) := by decide +kernel
theorem dL_law_415 : decode cL_law 415 = .ok (.iadd, 1) := by decide +kernel
theorem dL_law_416 : decode cL_law 416 = .ok (.iaload, 1) := by decide +kernel
theorem dL_law_417 : decode cL_law 417 = .ok (.invokevirtual 49, 3) := by decide +kernel
theorem dL_law_420 : decode cL_law 420 = .ok (.aload_n 2, 1) := by decide +kernel
theorem dL_law_421 : decode cL_law 421 = .ok (.aload_n 0, 1) := by decide +kernel
theorem dL_law_422 : decode cL_law 422 = .ok (.iload_n 3, 1) := by decide +kernel
theorem dL_law_423 : decode cL_law 423 = .ok (.iconst 1, 1) := by decide +kernel
theorem dL_law_424 : decode cL_law 424 = .ok (.iadd, 1) := by decide +kernel
theorem dL_law_425 : decode cL_law 425 = .ok (.iaload, 1) := by decide +kernel
theorem dL_law_426 : decode cL_law 426 = .ok (.aload_n 0, 1) := by decide +kernel
theorem dL_law_427 : decode cL_law 427 = .ok (.iload_n 3, 1) := by decide +kernel
theorem dL_law_428 : decode cL_law 428 = .ok (.iconst 2, 1) := by decide +kernel
theorem dL_law_429 : decode cL_law 429 = .ok (.iadd, 1) := by decide +kernel
theorem dL_law_430 : decode cL_law 430 = .ok (.iaload, 1) := by decide +kernel
theorem dL_law_431 : decode cL_law 431 = .ok (.aload_n 0, 1) := by decide +kernel
theorem dL_law_432 : decode cL_law 432 = .ok (.iload_n 3, 1) := by decide +kernel
theorem dL_law_433 : decode cL_law 433 = .ok (.iconst 3, 1) := by decide +kernel
theorem dL_law_434 : decode cL_law 434 = .ok (.iadd, 1) := by decide +kernel
theorem dL_law_435 : decode cL_law 435 = .ok (.iaload, 1) := by decide +kernel
theorem dL_law_436 : decode cL_law 436 = .ok (.invokevirtual 53, 3) := by decide +kernel
theorem dL_law_439 : decode cL_law 439 = .ok (.if_icmp .eq 68, 3) := by decide +kernel
theorem dL_law_442 : decode cL_law 442 = .ok (.iconst 0, 1) := by decide +kernel
theorem dL_law_443 : decode cL_law 443 = .ok (.ireturn, 1) := by decide +kernel
theorem dL_law_444 : decode cL_law 444 = .ok (.aload_n 1, 1) := by decide +kernel
theorem dL_law_445 : decode cL_law 445 = .ok (.invokevirtual 54, 3) := by decide +kernel
theorem dL_law_448 : decode cL_law 448 = .ok (.aload_n 2, 1) := by decide +kernel
theorem dL_law_449 : decode cL_law 449 = .ok (.invokevirtual 58, 3) := by decide +kernel
theorem dL_law_452 : decode cL_law 452 = .ok (.if_icmp .eq 55, 3) := by decide +kernel
theorem dL_law_455 : decode cL_law 455 = .ok (.iconst 0, 1) := by decide +kernel
theorem dL_law_456 : decode cL_law 456 = .ok (.ireturn, 1) := by decide +kernel
theorem dL_law_457 : decode cL_law 457 = .ok (.aload_n 1, 1) := by decide +kernel
theorem dL_law_458 : decode cL_law 458 = .ok (.aload_n 0, 1) := by decide +kernel
theorem dL_law_459 : decode cL_law 459 = .ok (.iload_n 3, 1) := by decide +kernel
theorem dL_law_460 : decode cL_law 460 = .ok (.iconst 1, 1) := by decide +kernel
theorem dL_law_461 : decode cL_law 461 = .ok (.iadd, 1) := by decide +kernel
theorem dL_law_462 : decode cL_law 462 = .ok (.iaload, 1) := by decide +kernel
theorem dL_law_463 : decode cL_law 463 = .ok (.aload_n 0, 1) := by decide +kernel
theorem dL_law_464 : decode cL_law 464 = .ok (.iload_n 3, 1) := by decide +kernel
theorem dL_law_465 : decode cL_law 465 = .ok (.iconst 2, 1) := by decide +kernel
theorem dL_law_466 : decode cL_law 466 = .ok (.iadd, 1) := by decide +kernel
theorem dL_law_467 : decode cL_law 467 = .ok (.iaload, 1) := by decide +kernel
theorem dL_law_468 : decode cL_law 468 = .ok (.ifCond .eq 7, 3) := by decide +kernel
theorem dL_law_471 : decode cL_law 471 = .ok (.iconst 1, 1) := by decide +kernel
theorem dL_law_472 : decode cL_law 472 = .ok (.goto 4, 3) := by decide +kernel
theorem dL_law_475 : decode cL_law 475 = .ok (.iconst 0, 1) := by decide +kernel
theorem dL_law_476 : decode cL_law 476 = .ok (.invokevirtual 59, 3) := by decide +kernel
theorem dL_law_479 : decode cL_law 479 = .ok (.aload_n 2, 1) := by decide +kernel
theorem dL_law_480 : decode cL_law 480 = .ok (.aload_n 0, 1) := by decide +kernel
theorem dL_law_481 : decode cL_law 481 = .ok (.iload_n 3, 1) := by decide +kernel
theorem dL_law_482 : decode cL_law 482 = .ok (.iconst 1, 1) := by decide +kernel
theorem dL_law_483 : decode cL_law 483 = .ok (.iadd, 1) := by decide +kernel
theorem dL_law_484 : decode cL_law 484 = .ok (.iaload, 1) := by decide +kernel
theorem dL_law_485 : decode cL_law 485 = .ok (.aload_n 0, 1) := by decide +kernel
theorem dL_law_486 : decode cL_law 486 = .ok (.iload_n 3, 1) := by decide +kernel
theorem dL_law_487 : decode cL_law 487 = .ok (.iconst 2, 1) := by decide +kernel
theorem dL_law_488 : decode cL_law 488 = .ok (.iadd, 1) := by decide +kernel
theorem dL_law_489 : decode cL_law 489 = .ok (.iaload, 1) := by decide +kernel
theorem dL_law_490 : decode cL_law 490 = .ok (.ifCond .eq 7, 3) := by decide +kernel
theorem dL_law_493 : decode cL_law 493 = .ok (.iconst 1, 1) := by decide +kernel
theorem dL_law_494 : decode cL_law 494 = .ok (.goto 4, 3) := by decide +kernel
theorem dL_law_497 : decode cL_law 497 = .ok (.iconst 0, 1) := by decide +kernel
theorem dL_law_498 : decode cL_law 498 = .ok (.invokevirtual 63, 3) := by decide +kernel
theorem dL_law_501 : decode cL_law 501 = .ok (.lcmp, 1) := by decide +kernel
theorem dL_law_502 : decode cL_law 502 = .ok (.ifCond .eq 5, 3) := by decide +kernel
theorem dL_law_505 : decode cL_law 505 = .ok (.iconst 0, 1) := by decide +kernel
theorem dL_law_506 : decode cL_law 506 = .ok (.ireturn, 1) := by decide +kernel
theorem dL_law_507 : decode cL_law 507 = .ok (.iinc 3 5, 3) := by decide +kernel
theorem dL_law_510 : decode cL_law 510 = .ok (.goto (-492), 3) := by decide +kernel
theorem dL_law_513 : decode cL_law 513 = .ok (.iconst 1, 1) := by decide +kernel
theorem dL_law_514 : decode cL_law 514 = .ok (.ireturn, 1) := by decide +kernel
end
section
/-! ===== lN n to 2^64: shifts, and, or, masks, one bit ===== -/
theorem wb_tb (n : Nat) : (lN n).toBitVec = BitVec.ofNat 64 n := rfl
theorem wb_inj {a b : Int64} (h : a.toBitVec = b.toBitVec) : a = b := Int64.toBitVec_inj.mp h
theorem wb_tn {n : Nat} (h : n < 2 ^ 64) : (lN n).toBitVec.toNat = n := by rw [wb_tb, BitVec.toNat_ofNat, Nat.mod_eq_of_lt h]
theorem wb_of (x : Int64) : ∃ n, n < 2 ^ 64 ∧ x = lN n := ⟨x.toBitVec.toNat, x.toBitVec.isLt, wb_inj (by rw [wb_tb]; simp)⟩
theorem wb_of32 (x : Int32) : ∃ n, n < 2 ^ 32 ∧ x = nI n := ⟨x.toBitVec.toNat, x.toBitVec.isLt, Int32.toBitVec_inj.mp (by show _ = BitVec.ofNat 32 _; simp)⟩
theorem wb_c : ∀ k, k < 64 → ((nI k).toInt64 &&& 63) = lN k := by decide +kernel
theorem wb_cu : ∀ k, k < 64 → ((nI k).toInt64.toUInt64 &&& Int64.toUInt64 63) = UInt64.ofNat k := by decide +kernel
theorem wb_sm : ∀ k, k < 64 → (BitVec.ofNat 64 k).smod 64 = BitVec.ofNat 64 k := by decide +kernel
theorem wb_pw {a b : Nat} (h : a ≤ b) : 2 ^ b = 2 ^ a * 2 ^ (b - a) := by rw [← Nat.pow_add]; congr 1; omega
theorem wb_lt2 {a b : Nat} (h : a < b) : 2 ^ a < 2 ^ b := Nat.pow_lt_pow_right (by decide) h
theorem wb_mod (n : Nat) : lN n = lN (n % 2 ^ 64) := wb_inj (by rw [wb_tb, wb_tb]; apply BitVec.eq_of_toNat_eq; rw [BitVec.toNat_ofNat, BitVec.toNat_ofNat, Nat.mod_mod])
theorem wb_shr {n k : Nat} (hn : n < 2 ^ 64) (hk : k < 64) : ((lN n).toUInt64 >>> ((nI k).toInt64.toUInt64 &&& Int64.toUInt64 63)).toInt64 = lN (n / 2 ^ k) := by
  rw [wb_cu k hk]
  apply wb_inj
  apply BitVec.eq_of_toNat_eq
  show ((lN n).toUInt64 >>> UInt64.ofNat k).toNat = (BitVec.ofNat 64 _).toNat
  have h1 : (UInt64.ofNat k).toNat = k := by
    show (BitVec.ofNat 64 k).toNat = k
    rw [BitVec.toNat_ofNat, Nat.mod_eq_of_lt (by omega)]
  have h2 : (lN n).toUInt64.toNat = n := wb_tn hn
  rw [UInt64.toNat_shiftRight, h1, h2, Nat.mod_eq_of_lt hk, Nat.shiftRight_eq_div_pow, BitVec.toNat_ofNat, Nat.mod_eq_of_lt (Nat.lt_of_le_of_lt (Nat.div_le_self _ _) hn)]
theorem wb_shl (n : Nat) {k : Nat} (hk : k < 64) : lN n <<< ((nI k).toInt64 &&& 63) = lN (n * 2 ^ k) := by
  rw [wb_c k hk]
  apply wb_inj
  rw [Int64.toBitVec_shiftLeft, wb_tb, wb_tb, wb_tb, wb_sm k hk]
  apply BitVec.eq_of_toNat_eq
  rw [BitVec.shiftLeft_eq', BitVec.toNat_shiftLeft, BitVec.toNat_ofNat, BitVec.toNat_ofNat, BitVec.toNat_ofNat, Nat.mod_eq_of_lt (show k < 2 ^ 64 by omega), Nat.shiftLeft_eq, Nat.mul_mod, Nat.mod_mod, ← Nat.mul_mod]
theorem wb_and {a b : Nat} (ha : a < 2 ^ 64) (hb : b < 2 ^ 64) : lN a &&& lN b = lN (a &&& b) := by
  apply wb_inj
  rw [Int64.toBitVec_and, wb_tb, wb_tb, wb_tb]
  apply BitVec.eq_of_toNat_eq
  rw [BitVec.toNat_and, BitVec.toNat_ofNat, BitVec.toNat_ofNat, BitVec.toNat_ofNat, Nat.mod_eq_of_lt ha, Nat.mod_eq_of_lt hb, Nat.mod_eq_of_lt (Nat.and_lt_two_pow _ hb)]
theorem wb_or {a b : Nat} (ha : a < 2 ^ 64) (hb : b < 2 ^ 64) : lN a ||| lN b = lN (a ||| b) := by
  apply wb_inj
  rw [Int64.toBitVec_or, wb_tb, wb_tb, wb_tb]
  apply BitVec.eq_of_toNat_eq
  rw [BitVec.toNat_or, BitVec.toNat_ofNat, BitVec.toNat_ofNat, BitVec.toNat_ofNat, Nat.mod_eq_of_lt ha, Nat.mod_eq_of_lt hb, Nat.mod_eq_of_lt (Nat.or_lt_two_pow ha hb)]
theorem wb_mask {n k : Nat} (hn : n < 2 ^ 64) (hk : k < 64) : lN n &&& lN (2 ^ k - 1) = lN (n % 2 ^ k) := by
  rw [wb_and hn (by have := wb_lt2 hk; omega), Nat.and_two_pow_sub_one_eq_mod]
theorem wb_a1 {n : Nat} (hn : n < 2 ^ 64) : lN n &&& 1 = lN (n % 2) := wb_mask (k := 1) hn (by decide)
theorem wb_bit {n k : Nat} (hn : n < 2 ^ 64) (hk : k < 64) : ((lN n).toUInt64 >>> ((nI k).toInt64.toUInt64 &&& Int64.toUInt64 63)).toInt64 &&& 1 = lN (n / 2 ^ k % 2) := by
  rw [wb_shr hn hk, wb_a1 (Nat.lt_of_le_of_lt (Nat.div_le_self _ _) hn)]
theorem wb_xor {q k : Nat} (hk : k < 63) (h : 2 ^ k ≤ q) (h2 : q < 2 ^ (k + 1)) : lN q ^^^ lN (2 ^ k) = lN (q - 2 ^ k) := by
  obtain ⟨r, rfl⟩ : ∃ r, q = 2 ^ k + r := ⟨q - 2 ^ k, by omega⟩
  have hr : r < 2 ^ k := by rw [Nat.pow_succ] at h2; omega
  have hx : (2 ^ k + r) ^^^ 2 ^ k = r := by
    apply Nat.eq_of_testBit_eq
    intro i
    rw [Nat.testBit_xor, Nat.testBit_two_pow]
    rcases Nat.lt_trichotomy i k with h | h | h
    · rw [Nat.testBit_two_pow_add_gt h]
      simp [show ¬ k = i by omega]
    · subst h
      rw [Nat.testBit_two_pow_add_eq]
      simp
    · have a1 : 2 ^ (k + 1) ≤ 2 ^ i := Nat.pow_le_pow_right (by decide) h
      rw [Nat.testBit_lt_two_pow (show 2 ^ k + r < 2 ^ i by omega), Nat.testBit_lt_two_pow (show r < 2 ^ i by omega)]
      simp [show ¬ k = i by omega]
  have b1 := wb_lt2 (show k + 1 < 64 by omega)
  have b2 := wb_lt2 (show k < 64 by omega)
  apply wb_inj
  rw [Int64.toBitVec_xor, wb_tb, wb_tb, wb_tb]
  apply BitVec.eq_of_toNat_eq
  rw [BitVec.toNat_xor, BitVec.toNat_ofNat, BitVec.toNat_ofNat, BitVec.toNat_ofNat, Nat.mod_eq_of_lt (by omega : 2 ^ k + r < 2 ^ 64), Nat.mod_eq_of_lt b2, hx, Nat.add_sub_cancel_left, Nat.mod_eq_of_lt (by omega)]
/-! ===== lN: masks, 'or' of parts that don't overlap is a sum ===== -/
theorem u_tn {n : Nat} (h : n < 2 ^ 64) : (UInt64.ofNat n).toNat = n := Nat.mod_eq_of_lt h
theorem g_and {a b c : Nat} (ha : a < 2 ^ 64) (hb : b < 2 ^ 64) (hc : a &&& b = c) : lN a &&& lN b = lN c := by
  subst hc
  have h : UInt64.ofNat a &&& UInt64.ofNat b = UInt64.ofNat (a &&& b) := UInt64.toNat_inj.mp (by rw [UInt64.toNat_and, u_tn ha, u_tn hb, u_tn (Nat.and_lt_two_pow a hb)])
  have h2 := congrArg UInt64.toInt64 h
  exact h2
theorem g_and1 {a : Nat} (ha : a < 2 ^ 64) : lN a &&& 1 = lN (a % 2) := g_and (b := 1) ha (by decide) (Nat.and_two_pow_sub_one_eq_mod a 1)
theorem g_mask {a s p : Nat} (hp : 2 ^ s = p) (hs : s < 64) (ha : a < 2 ^ 64) : lN a &&& lN (p - 1) = lN (a % p) := by
  subst hp
  have := Nat.pow_lt_pow_right (show 1 < 2 by decide) hs
  exact g_and ha (by omega) (Nat.and_two_pow_sub_one_eq_mod a s)
theorem g_or {k p a b : Nat} (hp : 2 ^ k = p) (ha : a < p) (h : b * p + a < 2 ^ 64) : lN (b * p) ||| lN a = lN (b * p + a) := by
  subst hp
  have h1 : b * 2 ^ k ||| a = b * 2 ^ k + a := by rw [← Nat.shiftLeft_eq, Nat.shiftLeft_add_eq_or_of_lt ha]
  have h3 : UInt64.ofNat (b * 2 ^ k) ||| UInt64.ofNat a = UInt64.ofNat (b * 2 ^ k + a) := UInt64.toNat_inj.mp (by rw [UInt64.toNat_or, u_tn (by omega), u_tn (by omega), u_tn h, h1])
  have h2 := congrArg UInt64.toInt64 h3
  exact h2
theorem g_or' {k p a b : Nat} (hp : 2 ^ k = p) (ha : a < p) (h : a + b * p < 2 ^ 64) : lN a ||| lN (b * p) = lN (a + b * p) := by
  rw [Int64.or_comm, g_or hp ha (by omega), Nat.add_comm]
theorem g_ushr {a k p : Nat} {y : UInt64} (hy : y = UInt64.ofNat k) (hk : k < 64) (hp : 2 ^ k = p) (ha : a < 2 ^ 64) : ((lN a).toUInt64 >>> y).toInt64 = lN (a / p) := by
  subst hy hp
  have h : UInt64.ofNat a >>> UInt64.ofNat k = UInt64.ofNat (a / 2 ^ k) := UInt64.toNat_inj.mp (by rw [UInt64.toNat_shiftRight, u_tn ha, u_tn (by omega), u_tn (Nat.lt_of_le_of_lt (Nat.div_le_self _ _) ha), Nat.mod_eq_of_lt hk, Nat.shiftRight_eq_div_pow])
  have h2 := congrArg UInt64.toInt64 h
  exact h2
theorem g_shl {a k p : Nat} {y : Int64} (hy : y.toBitVec.smod 64 = BitVec.ofNat 64 k) (hk : k < 64) (hp : 2 ^ k = p) (ha : a < 2 ^ 64) : lN a <<< y = lN (a * p) := by
  subst hp
  apply Int64.toBitVec_inj.mp
  rw [Int64.toBitVec_shiftLeft, hy]
  apply BitVec.eq_of_toNat_eq
  have hb : (lN a).toBitVec.toNat = a := Nat.mod_eq_of_lt ha
  have hk' : (BitVec.ofNat 64 k).toNat = k := Nat.mod_eq_of_lt (by omega)
  have h : ((lN a).toBitVec <<< BitVec.ofNat 64 k).toNat = (a * 2 ^ k) % 2 ^ 64 := by simp only [BitVec.shiftLeft_eq', BitVec.toNat_shiftLeft, hb, hk', Nat.shiftLeft_eq]
  exact h
/-! Numbers of the machine as integers: ints are iv z, longs are jv z. -/
def iv (z : Int) : Int32 := Int32.ofInt z
def jv (z : Int) : Int64 := Int64.ofInt z
def ir (z : Int) : Prop := -2147483648 ≤ z ∧ z < 2147483648
def jr (z : Int) : Prop := -9223372036854775808 ≤ z ∧ z < 9223372036854775808
theorem iv_add (a b : Int) : iv a + iv b = iv (a + b) := (Int32.ofInt_add a b).symm
theorem iv_sub (a b : Int) : iv a - iv b = iv (a - b) := (Int32.ofInt_sub a b).symm
theorem iv_mul (a b : Int) : iv a * iv b = iv (a * b) := (Int32.ofInt_mul a b).symm
theorem iv_neg (a : Int) : -iv a = iv (-a) := (Int32.ofInt_neg a).symm
theorem jv_add (a b : Int) : jv a + jv b = jv (a + b) := (Int64.ofInt_add a b).symm
theorem jv_sub (a b : Int) : jv a - jv b = jv (a - b) := (Int64.ofInt_sub a b).symm
theorem jv_mul (a b : Int) : jv a * jv b = jv (a * b) := (Int64.ofInt_mul a b).symm
theorem iv_toInt {z : Int} (h : ir z) : (iv z).toInt = z := Int32.toInt_ofInt_of_le (by have := h.1; omega) (by have := h.2; omega)
theorem jv_toInt {z : Int} (h : jr z) : (jv z).toInt = z := Int64.toInt_ofInt_of_le (by have := h.1; omega) (by have := h.2; omega)
theorem iv_le {a b : Int} (ha : ir a) (hb : ir b) : iv a ≤ iv b ↔ a ≤ b := by rw [Int32.le_iff_toInt_le, iv_toInt ha, iv_toInt hb]
theorem iv_lt {a b : Int} (ha : ir a) (hb : ir b) : iv a < iv b ↔ a < b := by rw [Int32.lt_iff_toInt_lt, iv_toInt ha, iv_toInt hb]
theorem iv_eq {a b : Int} (ha : ir a) (hb : ir b) : iv a = iv b ↔ a = b := by rw [← Int32.toInt_inj, iv_toInt ha, iv_toInt hb]
theorem jv_lt {a b : Int} (ha : jr a) (hb : jr b) : jv a < jv b ↔ a < b := by rw [Int64.lt_iff_toInt_lt, jv_toInt ha, jv_toInt hb]
theorem jv_eq {a b : Int} (ha : jr a) (hb : jr b) : jv a = jv b ↔ a = b := by rw [← Int64.toInt_inj, jv_toInt ha, jv_toInt hb]
theorem iv_0 : iv 0 = 0 := rfl
theorem jv_0 : jv 0 = 0 := rfl
theorem ir_0 : ir 0 := ⟨by decide, by decide⟩
theorem iv_nI (n : Nat) : iv (n : Int) = nI n := Int32.ofInt_eq_ofNat
theorem jv_nat (n : Nat) : jv (n : Int) = lN n := Int64.ofInt_eq_ofNat
theorem iv_of (x : Int32) : iv x.toInt = x := Int32.ofInt_toInt x
theorem jv_of (x : Int64) : jv x.toInt = x := Int64.ofInt_toInt x
theorem ir_of (x : Int32) : ir x.toInt := ⟨Int32.le_toInt x, Int32.toInt_lt x⟩
theorem jr_of (x : Int64) : jr x.toInt := ⟨Int64.le_toInt x, Int64.toInt_lt x⟩
theorem iv_clamp {n : Nat} (h : n < 2147483648) : (iv (n : Int)).toNatClampNeg = n := by rw [iv_nI]; exact nI_clamp (by omega)
theorem iv_in {n N : Nat} (h : n < N) (hN : N < 2147483648) : vp_in (iv (n : Int)) N := by rw [iv_nI]; exact vp_in_nI h (by omega)
theorem iv_j (z : Int) : (jv z).toInt32 = iv z := Int64.toInt32_ofInt
theorem jv_i {z : Int} (h : ir z) : (iv z).toInt64 = jv z := Int32.toInt64_ofInt (by have := h.1; show (-2147483648 : Int) ≤ z; omega) (by have := h.2; show z ≤ (2147483647 : Int); omega)
theorem iv_inc (n : Nat) : iv (n : Int) + Int32.ofInt 1 = iv ((n + 1 : Nat) : Int) := by
  have h := iv_add (n : Int) 1
  exact h
theorem iv_cong {a b : Int} (h : a % 4294967296 = b % 4294967296) : iv a = iv b := by
  apply Int32.toBitVec_inj.mp
  apply BitVec.eq_of_toNat_eq
  show (BitVec.ofInt 32 a).toNat = (BitVec.ofInt 32 b).toNat
  rw [BitVec.toNat_ofInt, BitVec.toNat_ofInt]
  show (a % 4294967296).toNat = (b % 4294967296).toNat
  rw [h]
theorem jv_cong {a b : Int} (h : a % 18446744073709551616 = b % 18446744073709551616) : jv a = jv b := by
  apply Int64.toBitVec_inj.mp
  apply BitVec.eq_of_toNat_eq
  show (BitVec.ofInt 64 a).toNat = (BitVec.ofInt 64 b).toNat
  rw [BitVec.toNat_ofInt, BitVec.toNat_ofInt]
  show (a % 18446744073709551616).toNat = (b % 18446744073709551616).toNat
  rw [h]
theorem jv_and (z : Int) : jv z &&& 4294967295 = jv (z % 4294967296) := by
  apply Int64.toBitVec_inj.mp
  apply BitVec.eq_of_toNat_eq
  show (BitVec.ofInt 64 z &&& 4294967295#64).toNat = (BitVec.ofInt 64 (z % 4294967296)).toNat
  rw [BitVec.toNat_and, BitVec.toNat_ofInt, BitVec.toNat_ofInt]
  show (z % 18446744073709551616).toNat &&& (2 ^ 32 - 1) = (z % 4294967296 % 18446744073709551616).toNat
  rw [Nat.and_two_pow_sub_one_eq_mod]
  show (z % 18446744073709551616).toNat % 4294967296 = _
  omega
theorem jv_ushr {z : Int} (h0 : 0 ≤ z) (h1 : z < 18446744073709551616) : ((jv z).toUInt64 >>> ((iv 32).toInt64.toUInt64 &&& Int64.toUInt64 63)).toInt64 = jv (z / 4294967296) := by
  obtain ⟨n, rfl⟩ : ∃ n : Nat, z = n := ⟨z.toNat, by omega⟩
  have e : iv 32 = nI 32 := rfl
  rw [jv_nat, e, wb_shr (by omega) (by decide), ← jv_nat]
  rfl
theorem jv_shr {z : Int} (h : jr z) : jv z >>> ((iv 32).toInt64 &&& 63) = jv (z / 4294967296) := by
  apply Int64.toInt_inj.mp
  have e : (jv z >>> ((iv 32).toInt64 &&& 63)).toInt = (jv z).toInt >>> 32 := by
    have hD : ((((iv 32).toInt64 &&& 63)).toBitVec.smod 64).toNat = 32 := by decide
    have := BitVec.toInt_sshiftRight (x := (jv z).toBitVec) (n := ((((iv 32).toInt64 &&& 63)).toBitVec.smod 64).toNat)
    rw [hD] at this
    exact this
  have h1 := h.1
  have h2 := h.2
  rw [e, Int.shiftRight_eq_div_pow, jv_toInt h, jv_toInt ⟨by omega, by omega⟩]
  rfl
theorem iv_emod (z : Int) : (iv z).toInt % 4294967296 = z % 4294967296 := by
  show (Int32.ofInt z).toInt % 4294967296 = _
  rw [Int32.toInt_ofInt]
  exact Int.bmod_emod
theorem iv_u0 {a : Int} (h : 0 ≤ a) (h2 : a < 4294967296) : iv a = 0 ↔ a = 0 := by
  constructor
  · intro q
    have h3 := iv_emod a
    rw [q] at h3
    have : (0 : Int32).toInt = 0 := rfl
    rw [this] at h3
    omega
  · intro q
    rw [q]; rfl
/-- the sign of a comparison, as lcmp has it -/
def zc (a b : Int) : Int := if b < a then 1 else if a = b then 0 else -1
theorem lg_zc {a b : Int} (ha : jr a) (hb : jr b) : lg_cmp (jv a) (jv b) = iv (zc a b) := by
  unfold lg_cmp zc
  by_cases h1 : b < a
  · rw [if_pos ((jv_lt hb ha).2 h1), if_pos h1]; rfl
  · rw [if_neg (fun h => h1 ((jv_lt hb ha).1 h)), if_neg h1]
    by_cases h2 : a = b
    · rw [if_pos ((jv_eq ha hb).2 h2), if_pos h2]; rfl
    · rw [if_neg (fun h => h2 ((jv_eq ha hb).1 h)), if_neg h2]; rfl
end
section
section ROWS
variable {p : Program} {l : Launch} {e : Env} {R : Room} {s : State} {m : MethodId} {args : Array Value} {below : List Frame} {meth : Method} {c : Code} {H : Heap} {locs : List Loc} {cells slots : Nat} {Q : State → Prop} {cc : ByteArray} {pc : Nat} {ls : Array Slot} {rest : List Value}
theorem iw_iadd (hx : p.tables.exec = Jvm.exec) (hb : c.code = cc) {a b : Int} (hdg : decode cc pc = .ok (.iadd, 1)) (k : W p l e R s m args below meth c H locs cells slots Q (F0 m (pc + 1) ls (.int (iv (a + b)) :: rest))) : W p l e R s m args below meth c H locs cells slots Q (F0 m pc ls (.int (iv b) :: .int (iv a) :: rest)) := lv_iadd hx hb hdg (by rw [iv_add]; exact k)
theorem iw_isub (hx : p.tables.exec = Jvm.exec) (hb : c.code = cc) {a b : Int} (hdg : decode cc pc = .ok (.isub, 1)) (k : W p l e R s m args below meth c H locs cells slots Q (F0 m (pc + 1) ls (.int (iv (a - b)) :: rest))) : W p l e R s m args below meth c H locs cells slots Q (F0 m pc ls (.int (iv b) :: .int (iv a) :: rest)) := lv_isub hx hb hdg (by rw [iv_sub]; exact k)
theorem iw_imul (hx : p.tables.exec = Jvm.exec) (hb : c.code = cc) {a b : Int} (hdg : decode cc pc = .ok (.imul, 1)) (k : W p l e R s m args below meth c H locs cells slots Q (F0 m (pc + 1) ls (.int (iv (a * b)) :: rest))) : W p l e R s m args below meth c H locs cells slots Q (F0 m pc ls (.int (iv b) :: .int (iv a) :: rest)) := lv_imul hx hb hdg (by rw [iv_mul]; exact k)
theorem iw_ladd (hx : p.tables.exec = Jvm.exec) (hb : c.code = cc) {a b : Int} (hdg : decode cc pc = .ok (.ladd, 1)) (k : W p l e R s m args below meth c H locs cells slots Q (F0 m (pc + 1) ls (.long (jv (a + b)) :: rest))) : W p l e R s m args below meth c H locs cells slots Q (F0 m pc ls (.long (jv b) :: .long (jv a) :: rest)) := lv_ladd hx hb hdg (by rw [jv_add]; exact k)
theorem iw_lsub (hx : p.tables.exec = Jvm.exec) (hb : c.code = cc) {a b : Int} (hdg : decode cc pc = .ok (.lsub, 1)) (k : W p l e R s m args below meth c H locs cells slots Q (F0 m (pc + 1) ls (.long (jv (a - b)) :: rest))) : W p l e R s m args below meth c H locs cells slots Q (F0 m pc ls (.long (jv b) :: .long (jv a) :: rest)) := lv_lsub hx hb hdg (by rw [jv_sub]; exact k)
theorem iw_lmul (hx : p.tables.exec = Jvm.exec) (hb : c.code = cc) {a b : Int} (hdg : decode cc pc = .ok (.lmul, 1)) (k : W p l e R s m args below meth c H locs cells slots Q (F0 m (pc + 1) ls (.long (jv (a * b)) :: rest))) : W p l e R s m args below meth c H locs cells slots Q (F0 m pc ls (.long (jv b) :: .long (jv a) :: rest)) := lv_lmul hx hb hdg (by rw [jv_mul]; exact k)
theorem iw_ineg (hx : p.tables.exec = Jvm.exec) (hb : c.code = cc) {a : Int} (hdg : decode cc pc = .ok (.ineg, 1)) (k : W p l e R s m args below meth c H locs cells slots Q (F0 m (pc + 1) ls (.int (iv (-a)) :: rest))) : W p l e R s m args below meth c H locs cells slots Q (F0 m pc ls (.int (iv a) :: rest)) := lv_ineg hx hb hdg (by rw [iv_neg]; exact k)
theorem iw_i2l (hx : p.tables.exec = Jvm.exec) (hb : c.code = cc) {a : Int} (ha : ir a) (hdg : decode cc pc = .ok (.i2l, 1)) (k : W p l e R s m args below meth c H locs cells slots Q (F0 m (pc + 1) ls (.long (jv a) :: rest))) : W p l e R s m args below meth c H locs cells slots Q (F0 m pc ls (.int (iv a) :: rest)) := lv_i2l hx hb hdg (jv_i ha) k
theorem iw_l2i (hx : p.tables.exec = Jvm.exec) (hb : c.code = cc) {a : Int} (hdg : decode cc pc = .ok (.l2i, 1)) (k : W p l e R s m args below meth c H locs cells slots Q (F0 m (pc + 1) ls (.int (iv a) :: rest))) : W p l e R s m args below meth c H locs cells slots Q (F0 m pc ls (.long (jv a) :: rest)) := lv_l2i hx hb hdg (iv_j a) k
theorem iw_lushr (hx : p.tables.exec = Jvm.exec) (hb : c.code = cc) {a : Int} (h0 : 0 ≤ a) (h1 : a < 18446744073709551616) (hdg : decode cc pc = .ok (.lushr, 1)) (k : W p l e R s m args below meth c H locs cells slots Q (F0 m (pc + 1) ls (.long (jv (a / 4294967296)) :: rest))) : W p l e R s m args below meth c H locs cells slots Q (F0 m pc ls (.int (iv 32) :: .long (jv a) :: rest)) := lv_lushr hx hb hdg (jv_ushr h0 h1) k
theorem iw_lshr (hx : p.tables.exec = Jvm.exec) (hb : c.code = cc) {a : Int} (ha : jr a) (hdg : decode cc pc = .ok (.lshr, 1)) (k : W p l e R s m args below meth c H locs cells slots Q (F0 m (pc + 1) ls (.long (jv (a / 4294967296)) :: rest))) : W p l e R s m args below meth c H locs cells slots Q (F0 m pc ls (.int (iv 32) :: .long (jv a) :: rest)) := lv_lshr hx hb hdg (jv_shr ha) k
theorem iw_land (hx : p.tables.exec = Jvm.exec) (hb : c.code = cc) {a : Int} (hdg : decode cc pc = .ok (.land, 1)) (k : W p l e R s m args below meth c H locs cells slots Q (F0 m (pc + 1) ls (.long (jv (a % 4294967296)) :: rest))) : W p l e R s m args below meth c H locs cells slots Q (F0 m pc ls (.long 4294967295 :: .long (jv a) :: rest)) := lv_land hx hb hdg (by rw [jv_and]; exact k)
theorem iw_lcmp (hx : p.tables.exec = Jvm.exec) (hb : c.code = cc) {a b : Int} (ha : jr a) (hb2 : jr b) (hdg : decode cc pc = .ok (.lcmp, 1)) (k : W p l e R s m args below meth c H locs cells slots Q (F0 m (pc + 1) ls (.int (iv (zc a b)) :: rest))) : W p l e R s m args below meth c H locs cells slots Q (F0 m pc ls (.long (jv b) :: .long (jv a) :: rest)) := W.lcmp hx hb hdg (by rw [lg_zc ha hb2]; exact k)
theorem iw_topi {x y : Int32} (h : x = y) (k : W p l e R s m args below meth c H locs cells slots Q (F0 m pc ls (.int y :: rest))) : W p l e R s m args below meth c H locs cells slots Q (F0 m pc ls (.int x :: rest)) := by rw [h]; exact k
theorem iw_topl {x y : Int64} (h : x = y) (k : W p l e R s m args below meth c H locs cells slots Q (F0 m pc ls (.long y :: rest))) : W p l e R s m args below meth c H locs cells slots Q (F0 m pc ls (.long x :: rest)) := by rw [h]; exact k
theorem iw_icmp_eq (hx : p.tables.exec = Jvm.exec) (hb : c.code = cc) {a b : Int} {off : Int} {tgt : Nat} (hdg : decode cc pc = .ok (.if_icmp .eq off, 3)) (ht : (pc : Int) + off = (tgt : Int)) (ra : ir a) (rb : ir b) (kt : a = b → W p l e R s m args below meth c H locs cells slots Q (F0 m tgt ls (rest))) (kf : a ≠ b → W p l e R s m args below meth c H locs cells slots Q (F0 m (pc + 3) ls (rest))) : W p l e R s m args below meth c H locs cells slots Q (F0 m pc ls (.int (iv b) :: .int (iv a) :: rest)) := lv_icmp_eq hx hb hdg ht (fun h => kt ((iv_eq ra rb).1 h)) (fun h => kf (by have h9 := mt (iv_eq ra rb).2 h; omega))
theorem iw_if_eq (hx : p.tables.exec = Jvm.exec) (hb : c.code = cc) {a : Int} {off : Int} {tgt : Nat} (hdg : decode cc pc = .ok (.ifCond .eq off, 3)) (ht : (pc : Int) + off = (tgt : Int)) (ra : ir a) (kt : a = 0 → W p l e R s m args below meth c H locs cells slots Q (F0 m tgt ls (rest))) (kf : a ≠ 0 → W p l e R s m args below meth c H locs cells slots Q (F0 m (pc + 3) ls (rest))) : W p l e R s m args below meth c H locs cells slots Q (F0 m pc ls (.int (iv a) :: rest)) := lv_if_eq hx hb hdg ht (fun h => kt ((iv_eq ra ir_0).1 h)) (fun h => kf (by have h9 := mt (iv_eq ra ir_0).2 h; omega))
theorem iw_icmp_ne (hx : p.tables.exec = Jvm.exec) (hb : c.code = cc) {a b : Int} {off : Int} {tgt : Nat} (hdg : decode cc pc = .ok (.if_icmp .ne off, 3)) (ht : (pc : Int) + off = (tgt : Int)) (ra : ir a) (rb : ir b) (kt : a ≠ b → W p l e R s m args below meth c H locs cells slots Q (F0 m tgt ls (rest))) (kf : a = b → W p l e R s m args below meth c H locs cells slots Q (F0 m (pc + 3) ls (rest))) : W p l e R s m args below meth c H locs cells slots Q (F0 m pc ls (.int (iv b) :: .int (iv a) :: rest)) := lv_icmp_ne hx hb hdg ht (fun h => kt (fun q => h ((iv_eq ra rb).2 q))) (fun h => kf ((iv_eq ra rb).1 h))
theorem iw_if_ne (hx : p.tables.exec = Jvm.exec) (hb : c.code = cc) {a : Int} {off : Int} {tgt : Nat} (hdg : decode cc pc = .ok (.ifCond .ne off, 3)) (ht : (pc : Int) + off = (tgt : Int)) (ra : ir a) (kt : a ≠ 0 → W p l e R s m args below meth c H locs cells slots Q (F0 m tgt ls (rest))) (kf : a = 0 → W p l e R s m args below meth c H locs cells slots Q (F0 m (pc + 3) ls (rest))) : W p l e R s m args below meth c H locs cells slots Q (F0 m pc ls (.int (iv a) :: rest)) := lv_if_ne hx hb hdg ht (fun h => kt (fun q => h ((iv_eq ra ir_0).2 q))) (fun h => kf ((iv_eq ra ir_0).1 h))
theorem iw_icmp_lt (hx : p.tables.exec = Jvm.exec) (hb : c.code = cc) {a b : Int} {off : Int} {tgt : Nat} (hdg : decode cc pc = .ok (.if_icmp .lt off, 3)) (ht : (pc : Int) + off = (tgt : Int)) (ra : ir a) (rb : ir b) (kt : a < b → W p l e R s m args below meth c H locs cells slots Q (F0 m tgt ls (rest))) (kf : b ≤ a → W p l e R s m args below meth c H locs cells slots Q (F0 m (pc + 3) ls (rest))) : W p l e R s m args below meth c H locs cells slots Q (F0 m pc ls (.int (iv b) :: .int (iv a) :: rest)) := lv_icmp_lt hx hb hdg ht (fun h => kt ((iv_lt ra rb).1 h)) (fun h => kf (by have h9 := mt (iv_lt ra rb).2 h; omega))
theorem iw_if_lt (hx : p.tables.exec = Jvm.exec) (hb : c.code = cc) {a : Int} {off : Int} {tgt : Nat} (hdg : decode cc pc = .ok (.ifCond .lt off, 3)) (ht : (pc : Int) + off = (tgt : Int)) (ra : ir a) (kt : a < 0 → W p l e R s m args below meth c H locs cells slots Q (F0 m tgt ls (rest))) (kf : 0 ≤ a → W p l e R s m args below meth c H locs cells slots Q (F0 m (pc + 3) ls (rest))) : W p l e R s m args below meth c H locs cells slots Q (F0 m pc ls (.int (iv a) :: rest)) := lv_if_lt hx hb hdg ht (fun h => kt ((iv_lt ra ir_0).1 h)) (fun h => kf (by have h9 := mt (iv_lt ra ir_0).2 h; omega))
theorem iw_icmp_ge (hx : p.tables.exec = Jvm.exec) (hb : c.code = cc) {a b : Int} {off : Int} {tgt : Nat} (hdg : decode cc pc = .ok (.if_icmp .ge off, 3)) (ht : (pc : Int) + off = (tgt : Int)) (ra : ir a) (rb : ir b) (kt : b ≤ a → W p l e R s m args below meth c H locs cells slots Q (F0 m tgt ls (rest))) (kf : a < b → W p l e R s m args below meth c H locs cells slots Q (F0 m (pc + 3) ls (rest))) : W p l e R s m args below meth c H locs cells slots Q (F0 m pc ls (.int (iv b) :: .int (iv a) :: rest)) := lv_icmp_ge hx hb hdg ht (fun h => kt ((iv_le rb ra).1 h)) (fun h => kf (by have h9 := mt (iv_le rb ra).2 h; omega))
theorem iw_if_ge (hx : p.tables.exec = Jvm.exec) (hb : c.code = cc) {a : Int} {off : Int} {tgt : Nat} (hdg : decode cc pc = .ok (.ifCond .ge off, 3)) (ht : (pc : Int) + off = (tgt : Int)) (ra : ir a) (kt : 0 ≤ a → W p l e R s m args below meth c H locs cells slots Q (F0 m tgt ls (rest))) (kf : a < 0 → W p l e R s m args below meth c H locs cells slots Q (F0 m (pc + 3) ls (rest))) : W p l e R s m args below meth c H locs cells slots Q (F0 m pc ls (.int (iv a) :: rest)) := lv_if_ge hx hb hdg ht (fun h => kt ((iv_le ir_0 ra).1 h)) (fun h => kf (by have h9 := mt (iv_le ir_0 ra).2 h; omega))
theorem iw_icmp_gt (hx : p.tables.exec = Jvm.exec) (hb : c.code = cc) {a b : Int} {off : Int} {tgt : Nat} (hdg : decode cc pc = .ok (.if_icmp .gt off, 3)) (ht : (pc : Int) + off = (tgt : Int)) (ra : ir a) (rb : ir b) (kt : b < a → W p l e R s m args below meth c H locs cells slots Q (F0 m tgt ls (rest))) (kf : a ≤ b → W p l e R s m args below meth c H locs cells slots Q (F0 m (pc + 3) ls (rest))) : W p l e R s m args below meth c H locs cells slots Q (F0 m pc ls (.int (iv b) :: .int (iv a) :: rest)) := lv_icmp_gt hx hb hdg ht (fun h => kt ((iv_lt rb ra).1 h)) (fun h => kf (by have h9 := mt (iv_lt rb ra).2 h; omega))
theorem iw_if_gt (hx : p.tables.exec = Jvm.exec) (hb : c.code = cc) {a : Int} {off : Int} {tgt : Nat} (hdg : decode cc pc = .ok (.ifCond .gt off, 3)) (ht : (pc : Int) + off = (tgt : Int)) (ra : ir a) (kt : 0 < a → W p l e R s m args below meth c H locs cells slots Q (F0 m tgt ls (rest))) (kf : a ≤ 0 → W p l e R s m args below meth c H locs cells slots Q (F0 m (pc + 3) ls (rest))) : W p l e R s m args below meth c H locs cells slots Q (F0 m pc ls (.int (iv a) :: rest)) := lv_if_gt hx hb hdg ht (fun h => kt ((iv_lt ir_0 ra).1 h)) (fun h => kf (by have h9 := mt (iv_lt ir_0 ra).2 h; omega))
theorem iw_icmp_le (hx : p.tables.exec = Jvm.exec) (hb : c.code = cc) {a b : Int} {off : Int} {tgt : Nat} (hdg : decode cc pc = .ok (.if_icmp .le off, 3)) (ht : (pc : Int) + off = (tgt : Int)) (ra : ir a) (rb : ir b) (kt : a ≤ b → W p l e R s m args below meth c H locs cells slots Q (F0 m tgt ls (rest))) (kf : b < a → W p l e R s m args below meth c H locs cells slots Q (F0 m (pc + 3) ls (rest))) : W p l e R s m args below meth c H locs cells slots Q (F0 m pc ls (.int (iv b) :: .int (iv a) :: rest)) := lv_icmp_le hx hb hdg ht (fun h => kt ((iv_le ra rb).1 h)) (fun h => kf (by have h9 := mt (iv_le ra rb).2 h; omega))
theorem iw_if_le (hx : p.tables.exec = Jvm.exec) (hb : c.code = cc) {a : Int} {off : Int} {tgt : Nat} (hdg : decode cc pc = .ok (.ifCond .le off, 3)) (ht : (pc : Int) + off = (tgt : Int)) (ra : ir a) (kt : a ≤ 0 → W p l e R s m args below meth c H locs cells slots Q (F0 m tgt ls (rest))) (kf : 0 < a → W p l e R s m args below meth c H locs cells slots Q (F0 m (pc + 3) ls (rest))) : W p l e R s m args below meth c H locs cells slots Q (F0 m pc ls (.int (iv a) :: rest)) := lv_if_le hx hb hdg ht (fun h => kt ((iv_le ra ir_0).1 h)) (fun h => kf (by have h9 := mt (iv_le ra ir_0).2 h; omega))
/-- an array of ints by numbers: its place j holds F j -/
def wA (F : Nat → Nat) : Nat → Int32 := fun j => iv (F j)
theorem wA_up (F : Nat → Nat) (i v : Nat) : upd (wA F) i (iv (v : Int)) = wA (va_up F i v) := by
  funext j
  show (if j = i then iv (v : Int) else iv (F j)) = iv (((if j = i then v else F j) : Nat) : Int)
  by_cases h : j = i
  · rw [if_pos h, if_pos h]
  · rw [if_neg h, if_neg h]
theorem vp_cell_cong {cA : ClassId} {n : Nat} {f g : Nat → Int32} (h : ∀ j, j < n → f j = g j) : vp_cell cA (n, .inl f) = vp_cell cA (n, .inl g) := by
  rw [vp_cell_i, vp_cell_i]
  unfold arrV
  congr 1
  apply Array.ext
  · simp
  · intro i h1 h2
    simp at h1 ⊢
    exact h i h1
theorem iw_mmax (hx : p.tables.exec = Jvm.exec) (hb : c.code = cc) (hml : c.maxLocals = ls.size) {own : String} {index : Nat} (hown : s.vm.findClass own = some m.cls) (hlink : (Cond.methodLink own index Lib.Math.max.name).before args s = true) (hstat : (Cond.static Lib.Math.max.name).before args s = true) (hini : (Cond.initialized "java/lang/Math").before args s = true) (hcode : (Cond.code Lib.Math.max.name Lib.Math.max.code 2 (some .int)).before args s = true) (hframes : 1 ≤ R.frames) (hlocals : (rest.map fun v => v.category).sum + 13 ≤ R.locals) (hc : cells ≤ R.cells) (hs : slots ≤ R.slots) {a b : Int} (ra : ir a) (rb : ir b) (hdg : decode cc pc = .ok (.invokestatic index, 3)) (kk : W p l e R s m args below meth c H locs cells slots Q (F0 m (pc + 3) ls (.int (iv (if a < b then b else a)) :: rest))) : W p l e R s m args below meth c H locs cells slots Q (F0 m pc ls (.int (iv b) :: .int (iv a) :: rest)) := va_mmax hx hb hml hown hlink hstat hini hcode hframes hlocals hc hs hdg (by
  by_cases h : a < b
  · rw [if_pos ((iv_lt ra rb).2 h)]; rw [if_pos h] at kk; exact kk
  · rw [if_neg (fun q => h ((iv_lt ra rb).1 q))]; rw [if_neg h] at kk; exact kk)
theorem iw_mmin (hx : p.tables.exec = Jvm.exec) (hb : c.code = cc) (hml : c.maxLocals = ls.size) {own : String} {index : Nat} (hown : s.vm.findClass own = some m.cls) (hlink : (Cond.methodLink own index Lib.Math.min.name).before args s = true) (hstat : (Cond.static Lib.Math.min.name).before args s = true) (hini : (Cond.initialized "java/lang/Math").before args s = true) (hcode : (Cond.code Lib.Math.min.name Lib.Math.min.code 2 (some .int)).before args s = true) (hframes : 1 ≤ R.frames) (hlocals : (rest.map fun v => v.category).sum + 13 ≤ R.locals) (hc : cells ≤ R.cells) (hs : slots ≤ R.slots) {a b : Int} (ra : ir a) (rb : ir b) (hdg : decode cc pc = .ok (.invokestatic index, 3)) (kk : W p l e R s m args below meth c H locs cells slots Q (F0 m (pc + 3) ls (.int (iv (if b < a then b else a)) :: rest))) : W p l e R s m args below meth c H locs cells slots Q (F0 m pc ls (.int (iv b) :: .int (iv a) :: rest)) := va_mmin hx hb hml hown hlink hstat hini hcode hframes hlocals hc hs hdg (by
  by_cases h : b < a
  · rw [if_pos ((iv_lt rb ra).2 h)]; rw [if_pos h] at kk; exact kk
  · rw [if_neg (fun q => h ((iv_lt rb ra).1 q))]; rw [if_neg h] at kk; exact kk)
theorem iv_ushr {a k : Nat} (ha : a < 4294967296) (hk : k < 32) : ((iv (a : Int)).toUInt32 >>> ((iv (k : Int)).toUInt32 &&& Int32.toUInt32 31)).toInt32 = iv ((a / 2 ^ k : Nat) : Int) := by
  rw [iv_nI, iv_nI, iv_nI]
  refine pk_ushrN (by omega) (nI k) k ?_
  have h : ∀ n, n < 32 → (((nI n).toUInt32 &&& Int32.toUInt32 31).toBitVec % 32).toNat = n := by decide +kernel
  exact h k hk
theorem iw_iushr (hx : p.tables.exec = Jvm.exec) (hb : c.code = cc) {a k : Nat} (ha : a < 4294967296) (hk : k < 32) (hdg : decode cc pc = .ok (.iushr, 1)) (kk : W p l e R s m args below meth c H locs cells slots Q (F0 m (pc + 1) ls (.int (iv ((a / 2 ^ k : Nat) : Int)) :: rest))) : W p l e R s m args below meth c H locs cells slots Q (F0 m pc ls (.int (iv (k : Int)) :: .int (iv (a : Int)) :: rest)) := lv_iushr hx hb hdg (iv_ushr ha hk) kk
theorem iw_ifu_eq (hx : p.tables.exec = Jvm.exec) (hb : c.code = cc) {a : Int} {off : Int} {tgt : Nat} (hdg : decode cc pc = .ok (.ifCond .eq off, 3)) (ht : (pc : Int) + off = (tgt : Int)) (h0 : 0 ≤ a) (h1 : a < 4294967296) (kt : a = 0 → W p l e R s m args below meth c H locs cells slots Q (F0 m tgt ls (rest))) (kf : a ≠ 0 → W p l e R s m args below meth c H locs cells slots Q (F0 m (pc + 3) ls (rest))) : W p l e R s m args below meth c H locs cells slots Q (F0 m pc ls (.int (iv a) :: rest)) := lv_if_eq hx hb hdg ht (fun h => kt ((iv_u0 h0 h1).1 h)) (fun h => kf (fun q => h ((iv_u0 h0 h1).2 q)))
theorem iw_ifu_ne (hx : p.tables.exec = Jvm.exec) (hb : c.code = cc) {a : Int} {off : Int} {tgt : Nat} (hdg : decode cc pc = .ok (.ifCond .ne off, 3)) (ht : (pc : Int) + off = (tgt : Int)) (h0 : 0 ≤ a) (h1 : a < 4294967296) (kt : a ≠ 0 → W p l e R s m args below meth c H locs cells slots Q (F0 m tgt ls (rest))) (kf : a = 0 → W p l e R s m args below meth c H locs cells slots Q (F0 m (pc + 3) ls (rest))) : W p l e R s m args below meth c H locs cells slots Q (F0 m pc ls (.int (iv a) :: rest)) := lv_if_ne hx hb hdg ht (fun h => kt (fun q => h ((iv_u0 h0 h1).2 q))) (fun h => kf ((iv_u0 h0 h1).1 h))
theorem iv_shr5 {k : Nat} (h : k < 2147483648) : iv (k : Int) >>> (iv 5 &&& 31) = iv ((k / 32 : Nat) : Int) := by
  rw [iv_nI, iv_nI]
  exact pk_shrN (by omega) (iv 5 &&& 31) 5 (by decide)
theorem iv_and31 {k : Nat} (h : k < 2147483648) : iv (k : Int) &&& iv 31 = iv ((k % 32 : Nat) : Int) := by
  rw [iv_nI, iv_nI]
  exact pk_andN (by omega) (m := iv 31) 5 (by decide)
theorem jv_shl (w : Nat) {k : Nat} (hk : k < 64) : jv (w : Int) <<< ((iv (k : Int)).toInt64 &&& 63) = jv ((w * 2 ^ k : Nat) : Int) := by
  rw [jv_nat, iv_nI, jv_nat]
  exact wb_shl w hk
theorem jv_or {w v : Nat} (hw : w < 4294967296) (hv : v < 4294967296) : jv ((w * 4294967296 : Nat) : Int) ||| jv (v : Int) = jv ((w * 4294967296 + v : Nat) : Int) := by
  rw [jv_nat, jv_nat, jv_nat]
  exact g_or (k := 32) (p := 4294967296) rfl hv (by omega)
theorem jv_ushrk {z k : Nat} (hz : z < 18446744073709551616) (hk : k < 64) : ((jv (z : Int)).toUInt64 >>> ((iv (k : Int)).toInt64.toUInt64 &&& Int64.toUInt64 63)).toInt64 = jv ((z / 2 ^ k : Nat) : Int) := by
  rw [jv_nat, iv_nI, jv_nat]
  exact wb_shr (by omega) hk
theorem iw_ishr5 (hx : p.tables.exec = Jvm.exec) (hb : c.code = cc) {k : Nat} (hk : k < 2147483648) (hdg : decode cc pc = .ok (.ishr, 1)) (kk : W p l e R s m args below meth c H locs cells slots Q (F0 m (pc + 1) ls (.int (iv ((k / 32 : Nat) : Int)) :: rest))) : W p l e R s m args below meth c H locs cells slots Q (F0 m pc ls (.int (iv 5) :: .int (iv (k : Int)) :: rest)) := lv_ishr hx hb hdg (by rw [iv_shr5 hk]; exact kk)
theorem iw_iand31 (hx : p.tables.exec = Jvm.exec) (hb : c.code = cc) {k : Nat} (hk : k < 2147483648) (hdg : decode cc pc = .ok (.iand, 1)) (kk : W p l e R s m args below meth c H locs cells slots Q (F0 m (pc + 1) ls (.int (iv ((k % 32 : Nat) : Int)) :: rest))) : W p l e R s m args below meth c H locs cells slots Q (F0 m pc ls (.int (iv 31) :: .int (iv (k : Int)) :: rest)) := lv_iand hx hb hdg (by rw [iv_and31 hk]; exact kk)
theorem iw_lshlk (hx : p.tables.exec = Jvm.exec) (hb : c.code = cc) {w k : Nat} (hk : k < 64) (hdg : decode cc pc = .ok (.lshl, 1)) (kk : W p l e R s m args below meth c H locs cells slots Q (F0 m (pc + 1) ls (.long (jv ((w * 2 ^ k : Nat) : Int)) :: rest))) : W p l e R s m args below meth c H locs cells slots Q (F0 m pc ls (.int (iv (k : Int)) :: .long (jv (w : Int)) :: rest)) := lv_lshl hx hb hdg (jv_shl w hk) kk
theorem iw_lor (hx : p.tables.exec = Jvm.exec) (hb : c.code = cc) {w v : Nat} (hw : w < 4294967296) (hv : v < 4294967296) (hdg : decode cc pc = .ok (.lor, 1)) (kk : W p l e R s m args below meth c H locs cells slots Q (F0 m (pc + 1) ls (.long (jv ((w * 4294967296 + v : Nat) : Int)) :: rest))) : W p l e R s m args below meth c H locs cells slots Q (F0 m pc ls (.long (jv (v : Int)) :: .long (jv ((w * 4294967296 : Nat) : Int)) :: rest)) := lv_lor hx hb hdg (by rw [jv_or hw hv]; exact kk)
theorem iw_lushrk (hx : p.tables.exec = Jvm.exec) (hb : c.code = cc) {z k : Nat} (hz : z < 18446744073709551616) (hk : k < 64) (hdg : decode cc pc = .ok (.lushr, 1)) (kk : W p l e R s m args below meth c H locs cells slots Q (F0 m (pc + 1) ls (.long (jv ((z / 2 ^ k : Nat) : Int)) :: rest))) : W p l e R s m args below meth c H locs cells slots Q (F0 m pc ls (.int (iv (k : Int)) :: .long (jv (z : Int)) :: rest)) := lv_lushr hx hb hdg (jv_ushrk hz hk) kk
variable {D : va_G} {cl : List vw_C} {tys : List (ClassId × FieldType)} {ws : va_W} {A : Nat → Prop} {H0 : Heap} {a : Nat}
theorem iw_iald (hx : p.tables.exec = Jvm.exec) (hb : c.code = cc) (hK : va_K D cl tys s) (hP : va_P D cl ws H) (q0 t0 : Nat) {cA : ClassId} {n : Nat} {F : Nat → Nat} (ha : ws[q0]? = some (a, .inl (cA, n, .inl (wA F)))) (ht : tys[t0]? = some (cA, .int)) {i : Nat} (hi : i < n) (hn : n < 2147483648) (hdg : decode cc pc = .ok (.iaload, 1)) (kk : W p l e R s m args below meth c H locs cells slots Q (F0 m (pc + 1) ls (.int (iv (F i)) :: rest))) : W p l e R s m args below meth c H locs cells slots Q (F0 m pc ls (.int (iv (i : Int)) :: .ref a :: rest)) := va_iald hx hb hK hP q0 t0 ha ht (iv_in hi hn) hdg (by rw [iv_clamp (by omega)]; exact kk)
theorem iw_iast (hx : p.tables.exec = Jvm.exec) (hb : c.code = cc) (hK : va_K D cl tys s) (hP : va_P D cl ws H) (hD : va_D A ws) (hS : va_S A H0 H locs) (q0 t0 : Nat) {cA : ClassId} {n : Nat} {F : Nat → Nat} (ha : ws[q0]? = some (a, .inl (cA, n, .inl (wA F)))) (ht : tys[t0]? = some (cA, .int)) {i v : Nat} (hi : i < n) (hn : n < 2147483648) (hdg : decode cc pc = .ok (.iastore, 1)) (kk : ∀ (H1 : Heap) (locs1 : List Loc), va_P D cl (ws.set q0 (a, .inl (cA, n, .inl (wA (va_up F i v))))) H1 → va_D A (ws.set q0 (a, .inl (cA, n, .inl (wA (va_up F i v))))) → va_S A H0 H1 locs1 → W p l e R s m args below meth c H1 locs1 cells slots Q (F0 m (pc + 1) ls (rest))) : W p l e R s m args below meth c H locs cells slots Q (F0 m pc ls (.int (iv (v : Int)) :: .int (iv (i : Int)) :: .ref a :: rest)) := va_iast hx hb hK hP hD hS q0 t0 ha ht (iv_in hi hn) hdg (fun H1 locs1 h1 h2 h3 => by rw [iv_clamp (by omega), wA_up] at h1 h2; exact kk H1 locs1 h1 h2 h3)
end ROWS
/-! A method that makes nothing, as a contract over a whole world ws: 'post answer world-behind' -/
def ef_isNest : Cond → Bool
  | .fieldLinkNest _ _ _ _ _ _ => true
  | .methodLinkNest _ _ _ _ => true
  | _ => false
theorem ef_nestW {w : Cond} (h : ef_isNest w = true) {s U : State} (hW : s.WarmedH U.vm) (hZ : va_Nw w s) : va_Nw w U := by
  cases w <;> first | exact va_Nw.warmF hW hZ | exact va_Nw.warmM hW hZ | cases h
theorem ef_nestT {w : Cond} (h : ef_isNest w = true) : w.onTables = true := by
  cases w <;> first | rfl | cases h
/-- the tables' words on private members of nest mates -/
def ef_nest : List Cond := lw_tbl.filter ef_isNest
def ef_X (U : State) : Prop := ∀ w ∈ ef_nest, va_Nw w U
theorem ef_X.warm {s U : State} (hW : s.WarmedH U.vm) (h : ef_X s) : ef_X U := fun w hw => ef_nestW (List.mem_filter.mp hw).2 hW (h w hw)
theorem ef_X.same {s U : State} (e : s.vm = U.vm) (h : ef_X s) : ef_X U := fun w hw => va_Nw.same (ef_nestT (List.mem_filter.mp hw).2) e (h w hw)
theorem ef_X.use {args : Array Value} {s : State} (h : ef_X s) {w : Cond} (hm : w ∈ lw_tbl) (hw : ef_isNest w = true) : w.before args s = true := va_Nw.use (ef_nestT hw) (h w (List.mem_filter.mpr ⟨hm, hw⟩))
def ef_A (ws : va_W) : Nat → Prop := fun q => ∃ (k : Nat) (x : va_E), ws[k]? = some (q, x)
def ef_Q (D : va_G) (cl : List vw_C) (ws : va_W) (post : Option Value → va_W → Prop) : Array Value → State → Outcome → State → Prop := fun _ st oc t => (∃ (o : Option Value) (w1 : va_W), oc = .returned o ∧ post o w1 ∧ va_P D cl w1 t.heap ∧ va_D (ef_A ws) w1) ∧ va_F (ef_A ws) st t
def ef_C (l : Launch) (y : MethodName) (w : List Cond) (rm : Room) (av : List Value) (D : va_G) (cl : List vw_C) (tys : List (ClassId × FieldType)) (ws : va_W) (post : Option Value → va_W → Prop) : Prop := Met l y w rm (va_Pc av (fun U => va_P D cl ws U.heap ∧ va_K D cl tys U ∧ va_D (fun _ => True) ws ∧ ef_X U)) (ef_Q D cl ws post) 0 0 (ef_A ws)
abbrev ef_R (below : List Frame) (D : va_G) (cl : List vw_C) (ws : va_W) (post : Option Value → va_W → Prop) (av : List Value) (s : State) : State → Prop := MQ below (ef_Q D cl ws post) av.toArray s 0 0 (ef_A ws)
theorem ef_C.of {l : Launch} {y : MethodName} {w w' : List Cond} {rm : Room} {av : List Value} {D : va_G} {cl : List vw_C} {tys : List (ClassId × FieldType)} {ws : va_W} {post : Option Value → va_W → Prop} {cc : ByteArray} {maxL : Nat} {ret : Option FieldType} (hy : plainName y.cls = true) (hw : w = Cond.code y cc maxL ret :: w') (hn : (lg_sl av).length ≤ maxL)
    (body : ∀ (p : Program) (e : Env) (s : State) (m : MethodId) (below : List Frame) (meth : Method) (c : Code) (ls : Array Slot), p.tables.exec = Jvm.exec → c.code = cc → c.maxLocals = maxL → meth.sig.returnType = ret → (∀ x ∈ w, x.before av.toArray s = true) → s.vm.findClass y.cls = some m.cls → meth.locks = false → va_K D cl tys s → ef_X s → va_P D cl ws s.heap → va_D (ef_A ws) ws → va_S (ef_A ws) s.heap s.heap [] → lv_has ls maxL (lv_args 0 av) → W p l e rm s m av.toArray below meth c s.heap [] 0 0 (ef_R below D cl ws post av s) (F0 m 0 ls [])) : ef_C l y w rm av D cl tys ws post := by
  refine Met.ofW (cc := cc) (maxL := maxL) (ret := ret) hy hw ?_
  intro p e s m args below meth c s₁ B hml hv
  obtain ⟨rfl, hP, hK, hD0, hX⟩ := hv
  have hl := lv_entry av (n := maxL) hn
  rw [lg_entry_eq]
  exact body p e s m below meth c _ B.exec B.bytes hml B.returns (atoms_spec (ws := w) B.pre) (findClass_of_methodNamed B.named) B.notSynchronized hK hX hP ⟨hD0.1, fun k q hk => ⟨k, q.2, hk⟩⟩ va_S.rf hl
section CALLS
variable {p : Program} {l : Launch} {e : Env} {R : Room} {s : State} {m : MethodId} {args : Array Value} {below : List Frame} {meth : Method} {c : Code} {H : Heap} {locs : List Loc} {cells slots : Nat} {Q : State → Prop} {cc : ByteArray} {pc : Nat} {ls : Array Slot} {rest : List Value}
variable {D : va_G} {cl : List vw_C} {tys : List (ClassId × FieldType)} {ws : va_W} {A : Nat → Prop} {H0 : Heap} {post : Option Value → va_W → Prop} {av : List Value}
theorem ef_iret {v : Int32} {w1 : va_W} (hx : p.tables.exec = Jvm.exec) (hb : c.code = cc) (hr : meth.sig.returnType = some .int) (hlocks : meth.locks = false) (hP : va_P D cl w1 H) (hD : va_D (ef_A ws) w1) (hS : va_S (ef_A ws) s.heap H locs) (hdg : decode cc pc = .ok (.ireturn, 1)) (hp : post (some (.int v)) w1) : W p l e R s m av.toArray below meth c H locs 0 0 (ef_R below D cl ws post av s) (F0 m pc ls [.int v]) :=
  W.iret hx hb hr (fun t ht _ => ⟨⟨_, w1, rfl, hp, by rw [ht]; exact hP, hD⟩, hS.F ht⟩) hS.2.2 hdg hlocks
theorem ef_zret {v : Int32} {w1 : va_W} (hx : p.tables.exec = Jvm.exec) (hb : c.code = cc) (hr : meth.sig.returnType = some .boolean) (hlocks : meth.locks = false) (hn : narrow .boolean (.int v) = .int v) (hP : va_P D cl w1 H) (hD : va_D (ef_A ws) w1) (hS : va_S (ef_A ws) s.heap H locs) (hdg : decode cc pc = .ok (.ireturn, 1)) (hp : post (some (.int v)) w1) : W p l e R s m av.toArray below meth c H locs 0 0 (ef_R below D cl ws post av s) (F0 m pc ls [.int v]) :=
  W.zret hx hb hr hn (fun t ht _ => ⟨⟨_, w1, rfl, hp, by rw [ht]; exact hP, hD⟩, hS.F ht⟩) hS.2.2 hdg hlocks
theorem ef_lret {v : Int64} {w1 : va_W} (hx : p.tables.exec = Jvm.exec) (hb : c.code = cc) (hr : meth.sig.returnType = some .long) (hlocks : meth.locks = false) (hP : va_P D cl w1 H) (hD : va_D (ef_A ws) w1) (hS : va_S (ef_A ws) s.heap H locs) (hdg : decode cc pc = .ok (.lreturn, 1)) (hp : post (some (.long v)) w1) : W p l e R s m av.toArray below meth c H locs 0 0 (ef_R below D cl ws post av s) (F0 m pc ls [.long v]) :=
  W.lret hx hb hr (fun t ht _ => ⟨⟨_, w1, rfl, hp, by rw [ht]; exact hP, hD⟩, hS.F ht⟩) hS.2.2 hdg hlocks
theorem ef_vret {w1 : va_W} (hx : p.tables.exec = Jvm.exec) (hb : c.code = cc) (hr : meth.sig.returnType = none) (hlocks : meth.locks = false) (hP : va_P D cl w1 H) (hD : va_D (ef_A ws) w1) (hS : va_S (ef_A ws) s.heap H locs) (hdg : decode cc pc = .ok (.return_, 1)) (hp : post none w1) : W p l e R s m av.toArray below meth c H locs 0 0 (ef_R below D cl ws post av s) (F0 m pc ls []) :=
  W.vret hx hb hr (fun t ht _ => ⟨⟨_, w1, rfl, hp, by rw [ht]; exact hP, hD⟩, hS.F ht⟩) hS.2.2 hdg hlocks
theorem ef_aret {v : Value} {w1 : va_W} {rt : FieldType} (hx : p.tables.exec = Jvm.exec) (hb : c.code = cc) (hr : meth.sig.returnType = some rt) (hrt : (∃ n, rt = .object n) ∨ ∃ t, rt = .array t) (hv : v = .null ∨ ∃ a, v = .ref a) (hlocks : meth.locks = false) (hP : va_P D cl w1 H) (hD : va_D (ef_A ws) w1) (hS : va_S (ef_A ws) s.heap H locs) (hdg : decode cc pc = .ok (.areturn, 1)) (hp : post (some v) w1) : W p l e R s m av.toArray below meth c H locs 0 0 (ef_R below D cl ws post av s) (F0 m pc ls [v]) :=
  W.aret hx hb hr hrt hv (fun t ht _ => ⟨⟨_, w1, rfl, hp, by rw [ht]; exact hP, hD⟩, hS.F ht⟩) hS.2.2 hdg hlocks
theorem ef_cont {a : Array Value} {st0 : List Value} (hr : va_Run p l e R s m args below meth c H locs cells slots 0 0 (F0 m pc ls st0) rest (ef_Q D cl ws post a) (ef_A ws)) (hD : va_D A ws) (hS : va_S A H0 H locs)
    (kk : ∀ (o : Option Value) (w1 : va_W) (H1 : Heap) (locs1 : List Loc), post o w1 → va_P D cl w1 H1 → va_D A w1 → va_S A H0 H1 locs1 → W p l e R s m args below meth c H1 locs1 cells slots Q (F0 m (pc + 3) ls (o.toList ++ rest))) : W p l e R s m args below meth c H locs cells slots Q (F0 m pc ls st0) := by
  intro T hT X
  obtain ⟨v, st₀, t, T', L, h0, X', hL, e1, e2, ⟨⟨o, w1, hv, hp, hb, hd⟩, hz, hk⟩, st⟩ := hr T hT X
  cases hv
  rw [h0] at hz hk
  have hA : ∀ q, ef_A ws q → A q := fun q h => by
    obtain ⟨k, x, h⟩ := h
    exact hD.2 k (q, x) h
  obtain ⟨t2, a1, b1⟩ := kk v w1 T'.heap (locs ++ L) hp (by rw [e1]; exact hb) (hd.weaken (fun _ q _ h => hA q.1 h)) ⟨Nat.le_trans hS.1 (by rw [e1]; exact hz), fun q h1 h2 => by rw [e1, hk q (Nat.lt_of_lt_of_le h1 hS.1) (fun z => h2 (hA q z))]; exact hS.2.1 q h1 h2, fun q hq => by
      rcases List.mem_append.mp hq with h | h
      · exact hS.2.2 q h
      · exact hA _ (hL q h)⟩ T' rfl X'
  exact ⟨t2, st t2 a1, b1⟩
variable {y : MethodName} {w : List Cond} {rm : Room} {Ts : List Cond} {bytes : ByteArray} {nL maxL index n : Nat} {own C : String} {ret : Option FieldType} {b : Nat} {As st0 : List Value} {ci : Nat} {fs : List Value} {qc : vw_C}
theorem ef_pre (hK : va_K D cl tys s) (hX : ef_X s) (hP : va_P D cl ws H) (hD : va_D A ws) : PreS s H (va_Pc av (fun U => va_P D cl ws U.heap ∧ va_K D cl tys U ∧ va_D (fun _ => True) ws ∧ ef_X U)) av :=
  ⟨fun a U g mk q => by obtain ⟨q0, qP, qK, qD, qX⟩ := q; exact ⟨q0, qP, va_K.moved (u := U) (U := U.calling g mk a) (Vm.Alike.refl U.vm) qK, qD, ef_X.same (s := U) (U := U.calling g mk a) rfl qX⟩, fun U hU hW => ⟨rfl, by rw [hU]; exact hP, va_K.moved hW.alike hK, hD.weaken (fun _ _ _ _ => trivial), hX.warm hW⟩⟩
theorem ef_callV (S : CallFix p m c cc nL s args Ts own) (hM : ef_C l y w rm (.ref b :: As) D cl tys ws post) (cw : CallW R s args own C index y bytes maxL ret w rm 0 0 n) (hK : va_K D cl tys s) (hX : ef_X s) (hP : va_P D cl ws H) (hD : va_D A ws) (hS : va_S A H0 H locs) (q0 : Nat) (he : ws[q0]? = some (b, .inr (ci, fs))) (hc : cl[ci]? = some qc) (hqc : qc.1 = C) (hn : As.length = n) (hsize : ls.size = nL) (hstack : st0 = As.reverse ++ .ref b :: rest) (hW : (rest.map fun v => v.category).sum ≤ 8) (hdg : decode cc pc = .ok (.invokevirtual index, 3)) (hf : cells ≤ R.cells ∧ slots ≤ R.slots)
    (kk : ∀ (o : Option Value) (w1 : va_W) (H1 : Heap) (locs1 : List Loc), post o w1 → va_P D cl w1 H1 → va_D A w1 → va_S A H0 H1 locs1 → W p l e R s m args below meth c H1 locs1 cells slots Q (F0 m (pc + 3) ls (o.toList ++ rest))) : W p l e R s m args below meth c H locs cells slots Q (F0 m pc ls st0) := by
  have hp := ef_pre (av := .ref b :: As) hK hX hP hD
  have hrv := va_recv hK hP hc he
  rw [hqc] at hrv
  exact ef_cont (va_runV S hM cw ⟨hp.1, hrv, hp.2⟩ rfl hn hsize hstack (lv_room hW) hdg hf) hD hS kk
theorem ef_callVN {host : String} (S : CallFix p m c cc nL s args Ts own) (hM : ef_C l y w rm (.ref b :: As) D cl tys ws post) (cw : va_CN R s args own index y host bytes maxL ret w rm 0 0 n ∧ (Cond.instanceMethod y).before args s = true ∧ (Cond.selects C y y).before args s = true) (hK : va_K D cl tys s) (hX : ef_X s) (hP : va_P D cl ws H) (hD : va_D A ws) (hS : va_S A H0 H locs) (q0 : Nat) (he : ws[q0]? = some (b, .inr (ci, fs))) (hc : cl[ci]? = some qc) (hqc : qc.1 = C) (hn : As.length = n) (hsize : ls.size = nL) (hstack : st0 = As.reverse ++ .ref b :: rest) (hW : (rest.map fun v => v.category).sum ≤ 8) (hdg : decode cc pc = .ok (.invokevirtual index, 3)) (hf : cells ≤ R.cells ∧ slots ≤ R.slots)
    (kk : ∀ (o : Option Value) (w1 : va_W) (H1 : Heap) (locs1 : List Loc), post o w1 → va_P D cl w1 H1 → va_D A w1 → va_S A H0 H1 locs1 → W p l e R s m args below meth c H1 locs1 cells slots Q (F0 m (pc + 3) ls (o.toList ++ rest))) : W p l e R s m args below meth c H locs cells slots Q (F0 m pc ls st0) := by
  have hp := ef_pre (av := .ref b :: As) hK hX hP hD
  have hrv := va_recv hK hP hc he
  rw [hqc] at hrv
  exact ef_cont (va_runVN S hM cw ⟨hp.1, hrv, hp.2⟩ rfl hn hsize hstack (lv_room hW) hdg hf) hD hS kk
theorem ef_callS (S : CallFix p m c cc nL s args Ts own) (hM : ef_C l y w rm As D cl tys ws post) (cw : CallB R s args own index y bytes maxL ret w rm 0 0 n ∧ (Cond.static y).before args s = true) (hK : va_K D cl tys s) (hX : ef_X s) (hP : va_P D cl ws H) (hD : va_D A ws) (hS : va_S A H0 H locs) (hn : As.length = n) (hsize : ls.size = nL) (hstack : st0 = As.reverse ++ rest) (hW : (rest.map fun v => v.category).sum ≤ 8) (hdg : decode cc pc = .ok (.invokestatic index, 3)) (hf : cells ≤ R.cells ∧ slots ≤ R.slots)
    (kk : ∀ (o : Option Value) (w1 : va_W) (H1 : Heap) (locs1 : List Loc), post o w1 → va_P D cl w1 H1 → va_D A w1 → va_S A H0 H1 locs1 → W p l e R s m args below meth c H1 locs1 cells slots Q (F0 m (pc + 3) ls (o.toList ++ rest))) : W p l e R s m args below meth c H locs cells slots Q (F0 m pc ls st0) :=
  ef_cont (va_runS S hM cw (ef_pre (av := As) hK hX hP hD) rfl hn hsize hstack (lv_room hW) hdg hf) hD hS kk
end CALLS
/-- the frame: what stands beside a method's world stays -/
theorem ef_C.frame {l : Launch} {y : MethodName} {w : List Cond} {rm : Room} {av : List Value} {D : va_G} {cl : List vw_C} {tys : List (ClassId × FieldType)} {ws : va_W} {post : Option Value → va_W → Prop} (h : ef_C l y w rm av D cl tys ws post) (wl wr : va_W) : ef_C l y w rm av D cl tys (wl ++ ws ++ wr) (fun o w1 => ∃ w2, post o w2 ∧ w1 = wl ++ w2 ++ wr) := by
  have hin : ∀ q, ef_A ws q → ef_A (wl ++ ws ++ wr) q := fun q h => by
    obtain ⟨k, x, hk⟩ := h
    have hlt : k < ws.length := (List.getElem?_eq_some_iff.mp hk).1
    refine ⟨wl.length + k, x, ?_⟩
    rw [List.append_assoc, List.getElem?_append_right (by omega), List.getElem?_append_left (by omega)]
    rw [show wl.length + k - wl.length = k by omega]
    exact hk
  unfold ef_C Met at h ⊢
  refine MetFree.mono h ?_ (fun _ _ _ _ _ h => h) ?_
  · rintro a U ⟨h1, h2, h3, h4, hX⟩
    have g : ∀ (k : Nat) (q : Nat × va_E), ws[k]? = some q → (wl ++ ws ++ wr)[wl.length + k]? = some q := fun k q hk => by
      have hlt : k < ws.length := (List.getElem?_eq_some_iff.mp hk).1
      rw [List.append_assoc, List.getElem?_append_right (by omega), List.getElem?_append_left (by omega), show wl.length + k - wl.length = k by omega]
      exact hk
    exact ⟨h1, h2.by (fun k => wl.length + k) g, h3, h4.by (fun k => wl.length + k) g (fun i j _ _ h => by omega), hX⟩
  · rintro a U o t ⟨h1, h2, h3, h4, hX⟩ ⟨⟨⟨o1, w1, e1, hp, hP, hD⟩, hF⟩, L, hL, hLf⟩
    have sid : ∀ (k : Nat) (q : Nat × va_E), (wl ++ ws ++ wr)[k]? = some q → (k < wl.length ∨ wl.length + ws.length ≤ k) → t.heap[q.1]? = U.heap[q.1]? := by
      intro k q hk hs
      refine hF.2 q.1 ((h2 k q hk).lt) ?_
      rintro ⟨j, x, hj⟩
      have hlt : j < ws.length := (List.getElem?_eq_some_iff.mp hj).1
      have hj2 : (wl ++ ws ++ wr)[wl.length + j]? = some (q.1, x) := by
        rw [List.append_assoc, List.getElem?_append_right (by omega), List.getElem?_append_left (by omega), show wl.length + j - wl.length = j by omega]
        exact hj
      have := h4.1 k (wl.length + j) q (q.1, x) hk hj2 rfl
      omega
    have hl : ∀ (k : Nat) (q : Nat × va_E), wl[k]? = some q → (wl ++ ws ++ wr)[k]? = some q := fun k q hk => by
      have hlt : k < wl.length := (List.getElem?_eq_some_iff.mp hk).1
      rw [List.append_assoc, List.getElem?_append_left hlt]
      exact hk
    have hr : ∀ (k : Nat) (q : Nat × va_E), wr[k]? = some q → (wl ++ ws ++ wr)[wl.length + ws.length + k]? = some q := fun k q hk => by
      rw [List.getElem?_append_right (by rw [List.length_append]; omega), List.length_append, show wl.length + ws.length + k - (wl.length + ws.length) = k by omega]
      exact hk
    have hPl : va_P D cl wl t.heap := fun k q hk => (h2 _ _ (hl k q hk)).kept (sid _ _ (hl k q hk) (Or.inl (List.getElem?_eq_some_iff.mp hk).1))
    have hPr : va_P D cl wr t.heap := fun k q hk => (h2 _ _ (hr k q hk)).kept (sid _ _ (hr k q hk) (Or.inr (by omega)))
    have hap : ∀ (k : Nat) (q : Nat × va_E), (wl ++ ws ++ wr)[k]? = some q → (k < wl.length ∨ wl.length + ws.length ≤ k) → ¬ ef_A ws q.1 := by
      rintro k q hk hs ⟨j, x, hj⟩
      have hlt : j < ws.length := (List.getElem?_eq_some_iff.mp hj).1
      have hj2 : (wl ++ ws ++ wr)[wl.length + j]? = some (q.1, x) := by
        rw [List.append_assoc, List.getElem?_append_right (by omega), List.getElem?_append_left (by omega), show wl.length + j - wl.length = j by omega]
        exact hj
      have := h4.1 k (wl.length + j) q (q.1, x) hk hj2 rfl
      omega
    have hDl : va_D (ef_A (wl ++ ws ++ wr)) wl := ⟨fun i j x y hi hj hxy => h4.1 i j x y (hl i x hi) (hl j y hj) hxy, fun k q hk => ⟨k, q.2, hl k q hk⟩⟩
    have hDr : va_D (ef_A (wl ++ ws ++ wr)) wr := ⟨fun i j x y hi hj hxy => by have := h4.1 _ _ x y (hr i x hi) (hr j y hj) hxy; omega, fun k q hk => ⟨_, q.2, hr k q hk⟩⟩
    have hD' : va_D (ef_A (wl ++ ws ++ wr)) w1 := hD.weaken (fun _ q _ h => hin q.1 h)
    have hlw : ∀ (i j : Nat) (x y : Nat × va_E), wl[i]? = some x → w1[j]? = some y → x.1 ≠ y.1 := fun i j x y hi hj hxy => hap i x (hl i x hi) (Or.inl (List.getElem?_eq_some_iff.mp hi).1) (by rw [hxy]; exact hD.2 j y hj)
    have hwr : ∀ (i j : Nat) (x y : Nat × va_E), w1[i]? = some x → wr[j]? = some y → x.1 ≠ y.1 := fun i j x y hi hj hxy => hap _ y (hr j y hj) (Or.inr (by omega)) (by rw [← hxy]; exact hD.2 i x hi)
    have hlr : ∀ (i j : Nat) (x y : Nat × va_E), wl[i]? = some x → wr[j]? = some y → x.1 ≠ y.1 := fun i j x y hi hj hxy => by
      have h5 := h4.1 _ _ x y (hl i x hi) (hr j y hj) hxy
      have h6 := (List.getElem?_eq_some_iff.mp hi).1
      omega
    refine ⟨⟨⟨o1, wl ++ w1 ++ wr, e1, ⟨w1, hp, rfl⟩, (hPl.app hP).app hPr, va_D.app (va_D.app hDl hD' hlw) hDr ?_⟩, hF.1, fun q h5 h6 => hF.2 q h5 (fun h => h6 (hin q h))⟩, L, hL, fun q hq => hin _ (hLf q hq)⟩
    intro i j x y hi hj hxy
    rcases Nat.lt_or_ge i wl.length with h7 | h7
    · rw [List.getElem?_append_left h7] at hi
      exact hlr i j x y hi hj hxy
    · rw [List.getElem?_append_right h7] at hi
      exact hwr _ j x y hi hj hxy
/-! two cells of a world put anew -/
def ef_w (ws : va_W) (k0 k1 : Nat) (x0 x1 : Nat × va_E) : va_W := (ws.set k0 x0).set k1 x1
theorem ef_w0 {ws : va_W} {k0 k1 : Nat} {x0 x1 z : Nat × va_E} (h : ws[k0]? = some z) (hne : k0 ≠ k1) : (ef_w ws k0 k1 x0 x1)[k0]? = some x0 := by
  have hlt : k0 < ws.length := (List.getElem?_eq_some_iff.mp h).1
  unfold ef_w
  rw [List.getElem?_set_ne (Ne.symm hne), List.getElem?_set_self hlt]
theorem ef_w1 {ws : va_W} {k0 k1 : Nat} {x0 x1 z : Nat × va_E} (h : ws[k1]? = some z) : (ef_w ws k0 k1 x0 x1)[k1]? = some x1 := by
  have hlt : k1 < ws.length := (List.getElem?_eq_some_iff.mp h).1
  unfold ef_w
  rw [List.getElem?_set_self (by rw [List.length_set]; exact hlt)]
theorem ef_wo {ws : va_W} {k0 k1 j : Nat} {x0 x1 : Nat × va_E} (h0 : j ≠ k0) (h1 : j ≠ k1) : (ef_w ws k0 k1 x0 x1)[j]? = ws[j]? := by
  unfold ef_w
  rw [List.getElem?_set_ne (Ne.symm h1), List.getElem?_set_ne (Ne.symm h0)]
theorem ef_ws0 {ws : va_W} {k0 k1 : Nat} {x0 x1 y : Nat × va_E} (hne : k0 ≠ k1) : (ef_w ws k0 k1 x0 x1).set k0 y = ef_w ws k0 k1 y x1 := by
  unfold ef_w
  rw [List.set_comm _ _ (Ne.symm hne), List.set_set]
theorem ef_ws1 {ws : va_W} {k0 k1 : Nat} {x0 x1 y : Nat × va_E} : (ef_w ws k0 k1 x0 x1).set k1 y = ef_w ws k0 k1 x0 y := by
  unfold ef_w
  rw [List.set_set]
theorem ef_wid {ws : va_W} {k0 k1 : Nat} {x0 x1 : Nat × va_E} (h0 : ws[k0]? = some x0) (h1 : ws[k1]? = some x1) : ef_w ws k0 k1 x0 x1 = ws := by
  have e : ∀ (l : va_W) (k : Nat) (x : Nat × va_E), l[k]? = some x → l.set k x = l := by
    intro l k x h
    obtain ⟨hlt, he⟩ := List.getElem?_eq_some_iff.mp h
    subst he
    exact List.set_getElem_self hlt
  unfold ef_w
  rw [e ws k0 x0 h0, e ws k1 x1 h1]
theorem ef_ww {ws : va_W} {k0 k1 : Nat} {x0 x1 y0 y1 : Nat × va_E} (hne : k0 ≠ k1) : ef_w (ef_w ws k0 k1 x0 x1) k0 k1 y0 y1 = ef_w ws k0 k1 y0 y1 := by
  show ((ef_w ws k0 k1 x0 x1).set k0 y0).set k1 y1 = _
  rw [ef_ws0 hne, ef_ws1]
end
section
/-! Whole numbers in words of 32 bits -/
def nv (F : Nat → Nat) : Nat → Nat
  | 0 => 0
  | k + 1 => nv F k + F k * 2 ^ (32 * k)
def wd (X j : Nat) : Nat := X / 2 ^ (32 * j) % 4294967296
def bl (X : Nat) : Nat := if X = 0 then 0 else X.log2 + 1
def wl (X : Nat) : Nat := if X = 0 then 0 else X.log2 / 32 + 1
theorem p32 (k : Nat) : 2 ^ (32 * (k + 1)) = 2 ^ (32 * k) * 4294967296 := by
  rw [show 32 * (k + 1) = 32 * k + 32 by omega, Nat.pow_add]
theorem p32_pos (k : Nat) : 0 < 2 ^ (32 * k) := Nat.pow_pos (by decide)
theorem nv_lt {F : Nat → Nat} : ∀ {k : Nat}, (∀ j, j < k → F j < 4294967296) → nv F k < 2 ^ (32 * k)
  | 0, _ => by show 0 < 2 ^ 0; decide
  | k + 1, h => by
    have h1 := nv_lt (F := F) (k := k) (fun j hj => h j (by omega))
    have h2 := h k (by omega)
    rw [p32]
    show nv F k + F k * 2 ^ (32 * k) < _
    have h3 : (F k + 1) * 2 ^ (32 * k) ≤ 4294967296 * 2 ^ (32 * k) := Nat.mul_le_mul_right _ (by omega)
    rw [Nat.add_mul, Nat.one_mul] at h3
    rw [Nat.mul_comm (2 ^ (32 * k)) 4294967296]
    omega
theorem nv_cong {F G : Nat → Nat} : ∀ {k : Nat}, (∀ j, j < k → F j = G j) → nv F k = nv G k
  | 0, _ => rfl
  | k + 1, h => by
    show nv F k + F k * 2 ^ (32 * k) = nv G k + G k * 2 ^ (32 * k)
    rw [nv_cong (fun j hj => h j (by omega)), h k (by omega)]
/-- words above k that are 0 add nothing -/
theorem nv_zero {F : Nat → Nat} {k : Nat} : ∀ {n : Nat}, (∀ j, k ≤ j → j < k + n → F j = 0) → nv F (k + n) = nv F k
  | 0, _ => rfl
  | n + 1, h => by
    show nv F (k + n) + F (k + n) * 2 ^ (32 * (k + n)) = nv F k
    rw [nv_zero (fun j h1 h2 => h j h1 (by omega)), h (k + n) (by omega) (by omega), Nat.zero_mul, Nat.add_zero]
theorem nv_wd (X : Nat) : ∀ k, nv (wd X) k = X % 2 ^ (32 * k)
  | 0 => by show 0 = X % 2 ^ 0; rw [Nat.pow_zero, Nat.mod_one]
  | k + 1 => by
    show nv (wd X) k + wd X k * 2 ^ (32 * k) = _
    rw [nv_wd X k, p32, Nat.mod_mul]
    unfold wd
    rw [Nat.mul_comm (2 ^ (32 * k))]
theorem wd_lt (X j : Nat) : wd X j < 4294967296 := Nat.mod_lt _ (by decide)
theorem wd_nv {F : Nat → Nat} {k : Nat} (h : ∀ j, j < k → F j < 4294967296) {j : Nat} (hj : j < k) : wd (nv F k) j = F j := by
  induction k with
  | zero => omega
  | succ k ih =>
    have hlt := nv_lt (F := F) (k := k) (fun j hj => h j (by omega))
    show (nv F k + F k * 2 ^ (32 * k)) / 2 ^ (32 * j) % 4294967296 = F j
    rcases Nat.lt_or_ge j k with h1 | h1
    · have e : F k * 2 ^ (32 * k) = (F k * 2 ^ (32 * (k - 1 - j))) * 4294967296 * 2 ^ (32 * j) := by
        rw [Nat.mul_assoc (F k), ← p32, Nat.mul_assoc, ← Nat.pow_add]
        congr 2
        omega
      rw [e, Nat.add_mul_div_right _ _ (p32_pos j), Nat.add_mul_mod_self_right]
      exact ih (fun j hj => h j (by omega)) h1
    · have : j = k := by omega
      subst this
      rw [Nat.add_mul_div_right _ _ (p32_pos j), Nat.div_eq_of_lt hlt, Nat.zero_add, Nat.mod_eq_of_lt (h j (by omega))]
theorem wd_big {X j : Nat} (h : X < 2 ^ (32 * j)) : wd X j = 0 := by unfold wd; rw [Nat.div_eq_of_lt h]
theorem wl_lt (X : Nat) : X < 2 ^ (32 * wl X) := by
  unfold wl
  by_cases h : X = 0
  · rw [if_pos h, h]; decide
  · rw [if_neg h]
    have h1 : X < 2 ^ (X.log2 + 1) := Nat.lt_log2_self
    exact Nat.lt_of_lt_of_le h1 (Nat.pow_le_pow_right (by decide) (by omega))
theorem wl_le {X k : Nat} (h : X < 2 ^ (32 * k)) : wl X ≤ k := by
  unfold wl
  by_cases h0 : X = 0
  · rw [if_pos h0]; omega
  · rw [if_neg h0]
    have := (Nat.log2_lt h0).2 h
    omega
theorem wl_0 {X : Nat} : wl X = 0 ↔ X = 0 := by
  unfold wl
  by_cases h0 : X = 0
  · rw [if_pos h0]; simp [h0]
  · rw [if_neg h0]; simp [h0]
theorem wl_ge {X : Nat} (h : X ≠ 0) : 2 ^ (32 * (wl X - 1)) ≤ X := by
  unfold wl
  rw [if_neg h]
  exact Nat.le_trans (Nat.pow_le_pow_right (by decide) (by omega)) (Nat.log2_self_le h)
theorem wl_eq {X n : Nat} (h1 : X < 2 ^ (32 * n)) (h2 : n = 0 ∨ 2 ^ (32 * (n - 1)) ≤ X) : wl X = n := by
  have h3 := wl_le h1
  rcases h2 with h2 | h2
  · omega
  · rcases Nat.lt_or_ge (wl X) n with h4 | h4
    · have h5 := wl_lt X
      have h6 : 2 ^ (32 * wl X) ≤ 2 ^ (32 * (n - 1)) := Nat.pow_le_pow_right (by decide) (by omega)
      omega
    · omega
theorem wd_above {X j : Nat} (h : wl X ≤ j) : wd X j = 0 := wd_big (Nat.lt_of_lt_of_le (wl_lt X) (Nat.pow_le_pow_right (by decide) (by omega)))
theorem wd_top {X : Nat} (h : X ≠ 0) : wd X (wl X - 1) ≠ 0 := by
  have h1 := wl_ge h
  have h2 := wl_lt X
  have h0 : wl X ≠ 0 := fun q => h (wl_0.1 q)
  have e := p32 (wl X - 1)
  rw [show wl X - 1 + 1 = wl X by omega] at e
  have hp := p32_pos (wl X - 1)
  have h3 : X / 2 ^ (32 * (wl X - 1)) < 4294967296 := Nat.div_lt_of_lt_mul (by rw [← e]; exact h2)
  have h4 : 0 < X / 2 ^ (32 * (wl X - 1)) := Nat.div_pos h1 hp
  unfold wd
  rw [Nat.mod_eq_of_lt h3]
  omega
theorem nv_self (X : Nat) : nv (wd X) (wl X) = X := by rw [nv_wd, Nat.mod_eq_of_lt (wl_lt X)]
theorem nv_self' {X k : Nat} (h : wl X ≤ k) : nv (wd X) k = X := by rw [nv_wd, Nat.mod_eq_of_lt (Nat.lt_of_lt_of_le (wl_lt X) (Nat.pow_le_pow_right (by decide) (by omega)))]
theorem bl_lt (X : Nat) : X < 2 ^ bl X := by
  unfold bl
  by_cases h : X = 0
  · rw [if_pos h, h]; decide
  · rw [if_neg h]; exact Nat.lt_log2_self
theorem bl_ge {X : Nat} (h : X ≠ 0) : 2 ^ (bl X - 1) ≤ X := by
  unfold bl
  rw [if_neg h]
  exact Nat.log2_self_le h
theorem bl_0 {X : Nat} : bl X = 0 ↔ X = 0 := by
  unfold bl
  by_cases h0 : X = 0
  · rw [if_pos h0]; simp [h0]
  · rw [if_neg h0]; simp [h0]
theorem bl_le {X k : Nat} (h : X < 2 ^ k) : bl X ≤ k := by
  unfold bl
  by_cases h0 : X = 0
  · rw [if_pos h0]; omega
  · rw [if_neg h0]
    have := (Nat.log2_lt h0).2 h
    omega
theorem bl_eq {X n : Nat} (h1 : X < 2 ^ n) (h2 : n = 0 ∨ 2 ^ (n - 1) ≤ X) : bl X = n := by
  have h3 := bl_le h1
  rcases h2 with h2 | h2
  · omega
  · rcases Nat.lt_or_ge (bl X) n with h4 | h4
    · have h5 := bl_lt X
      have h6 : 2 ^ bl X ≤ 2 ^ (n - 1) := Nat.pow_le_pow_right (by decide) (by omega)
      omega
    · omega
theorem bl_wl {X : Nat} (h : X ≠ 0) : bl X = 32 * (wl X - 1) + bl (wd X (wl X - 1)) := by
  have h1 := wl_ge h
  have h2 := wl_lt X
  have h0 : wl X ≠ 0 := fun q => h (wl_0.1 q)
  have e := p32 (wl X - 1)
  rw [show wl X - 1 + 1 = wl X by omega] at e
  have hp := p32_pos (wl X - 1)
  have h3 : X / 2 ^ (32 * (wl X - 1)) < 4294967296 := Nat.div_lt_of_lt_mul (by rw [← e]; exact h2)
  have ew : wd X (wl X - 1) = X / 2 ^ (32 * (wl X - 1)) := by unfold wd; rw [Nat.mod_eq_of_lt h3]
  have ht := wd_top h
  rw [ew] at ht ⊢
  apply bl_eq
  · rw [Nat.pow_add, Nat.mul_comm]
    exact (Nat.div_lt_iff_lt_mul hp).1 (bl_lt _)
  · right
    have hb : bl (X / 2 ^ (32 * (wl X - 1))) ≠ 0 := fun q => ht (bl_0.1 q)
    rw [show 32 * (wl X - 1) + bl (X / 2 ^ (32 * (wl X - 1))) - 1 = 32 * (wl X - 1) + (bl (X / 2 ^ (32 * (wl X - 1))) - 1) by omega, Nat.pow_add, Nat.mul_comm]
    exact (Nat.le_div_iff_mul_le hp).1 (bl_ge ht)
theorem bl_div (T k : Nat) : T / 2 ^ k ≠ 0 ↔ k < bl T := by
  have hp : 0 < 2 ^ k := Nat.pow_pos (by decide)
  constructor
  · intro h
    rcases Nat.lt_or_ge k (bl T) with h1 | h1
    · exact h1
    · exact absurd (Nat.div_eq_of_lt (Nat.lt_of_lt_of_le (bl_lt T) (Nat.pow_le_pow_right (by decide) h1))) h
  · intro h
    have h0 : T ≠ 0 := fun q => by rw [bl_0.2 q] at h; omega
    have h1 : 2 ^ k ≤ T := Nat.le_trans (Nat.pow_le_pow_right (by decide) (by omega)) (bl_ge h0)
    have := Nat.div_pos h1 hp
    omega
theorem wd_div (X r : Nat) : X / 2 ^ (32 * r) = X / 2 ^ (32 * (r + 1)) * 4294967296 + wd X r := by
  unfold wd
  rw [p32, ← Nat.div_div_eq_div_mul]
  omega
theorem zc_0 (a b : Int) : zc a b = 0 ↔ a = b := by unfold zc; (repeat split) <;> omega
theorem zc_ge (a b : Int) : 0 ≤ zc a b ↔ b ≤ a := by unfold zc; (repeat split) <;> omega
theorem ir_zc (a b : Int) : ir (zc a b) := by unfold zc; (repeat split) <;> exact ⟨by omega, by omega⟩
theorem zc_lt {a b : Int} (h : a < b) : zc a b = -1 := by unfold zc; rw [if_neg (by omega), if_neg (by omega)]
theorem zc_gt {a b : Int} (h : b < a) : zc a b = 1 := by unfold zc; rw [if_pos h]
theorem zc_eq (a : Int) : zc a a = 0 := by unfold zc; rw [if_neg (by omega), if_pos rfl]
theorem div_lt_of {X Y P : Nat} (h : X / P < Y / P) : X < Y := by
  rcases Nat.lt_or_ge X Y with h1 | h1
  · exact h1
  · exact absurd (Nat.div_le_div_right (c := P) h1) (by omega)
theorem amul_step {A w mu i pl f N : Nat} : (N + mu * A * 2 ^ (32 * pl)) + (w * mu + f) * 2 ^ (32 * (pl + i)) = (N + f * 2 ^ (32 * (pl + i))) + mu * (A + w * 2 ^ (32 * i)) * 2 ^ (32 * pl) := by
  have e : 2 ^ (32 * (pl + i)) = 2 ^ (32 * i) * 2 ^ (32 * pl) := by rw [← Nat.pow_add]; congr 1; omega
  rw [e, Nat.mul_add mu, Nat.add_mul (mu * A), Nat.add_mul (w * mu), ← Nat.mul_assoc mu w, Nat.mul_comm mu w, Nat.mul_assoc (w * mu)]
  omega
theorem pow_le32 {r : Nat} (h : r < 32) : 2 ^ (32 - r) * 2 ^ r = 4294967296 := by rw [← Nat.pow_add, show 32 - r + r = 32 by omega]
theorem wd_shift (X p r i : Nat) (hr : r < 32) : wd (X * 2 ^ (32 * p + r)) i = ((if p ≤ i then wd X (i - p) else 0) * 4294967296 + (if p + 1 ≤ i then wd X (i - p - 1) else 0)) / 2 ^ (32 - r) % 4294967296 := by
  have hq := pow_le32 hr
  have hp1 : 0 < 2 ^ (32 - r) := Nat.pow_pos (by decide)
  have hp2 : 0 < 2 ^ r := Nat.pow_pos (by decide)
  rcases Nat.lt_or_ge i p with h | h
  · rw [if_neg (by omega), if_neg (by omega), Nat.zero_mul, Nat.zero_add, Nat.zero_div]
    unfold wd
    have e : X * 2 ^ (32 * p + r) = (X * 2 ^ (32 * (p - i - 1) + r) * 4294967296) * 2 ^ (32 * i) := by
      rw [Nat.mul_assoc X, Nat.mul_assoc X]
      congr 1
      rw [show (4294967296 : Nat) = 2 ^ 32 from rfl, ← Nat.pow_add, ← Nat.pow_add]
      congr 1
      omega
    rw [e, Nat.mul_div_cancel _ (p32_pos i), Nat.mul_mod_left]
  · obtain ⟨d, rfl⟩ : ∃ d, i = p + d := ⟨i - p, by omega⟩
    rw [if_pos h, show p + d - p = d by omega]
    have e0 : X * 2 ^ (32 * p + r) / 2 ^ (32 * (p + d)) = X * 2 ^ r / 2 ^ (32 * d) := by
      rw [Nat.pow_add, show 32 * (p + d) = 32 * p + 32 * d by omega, Nat.pow_add, Nat.mul_left_comm, Nat.mul_div_mul_left _ _ (p32_pos p)]
    rcases Nat.eq_zero_or_pos d with hd | hd
    · subst hd
      rw [if_neg (by omega)]
      have e6 : ∀ Y, Y * 4294967296 / 2 ^ (32 - r) = Y * 2 ^ r := fun Y => by rw [← hq, Nat.mul_comm (2 ^ (32 - r)), ← Nat.mul_assoc, Nat.mul_div_cancel _ hp1]
      show X * 2 ^ (32 * p + r) / 2 ^ (32 * (p + 0)) % 4294967296 = (X / 2 ^ (32 * 0) % 4294967296 * 4294967296 + 0) / 2 ^ (32 - r) % 4294967296
      rw [e0, Nat.add_zero, Nat.mul_zero, Nat.pow_zero, Nat.div_one, Nat.div_one, e6, Nat.mul_mod (X % 4294967296), Nat.mod_mod, ← Nat.mul_mod]
    · obtain ⟨f, rfl⟩ : ∃ f, d = f + 1 := ⟨d - 1, by omega⟩
      rw [if_pos (by omega), show f + 1 - 1 = f by omega]
      have e1 : X * 2 ^ r / 2 ^ (32 * (f + 1)) = X / 2 ^ (32 * f) / 2 ^ (32 - r) := by
        rw [p32, ← hq, ← Nat.mul_assoc, Nat.mul_div_mul_right _ _ hp2, Nat.div_div_eq_div_mul]
      have e2 := wd_div X f
      have e3 : wd X (f + 1) = X / 2 ^ (32 * (f + 1)) % 4294967296 := rfl
      have e4 : X / 2 ^ (32 * f) % 18446744073709551616 = wd X (f + 1) * 4294967296 + wd X f := by
        have := wd_lt X f
        rw [e2, e3]
        omega
      show X * 2 ^ (32 * p + r) / 2 ^ (32 * (p + (f + 1))) % 4294967296 = _
      rw [e0, e1, ← e4]
      generalize X / 2 ^ (32 * f) = Q
      have e5 : (18446744073709551616 : Nat) = 2 ^ (32 - r) * (2 ^ r * 4294967296) := by rw [← Nat.mul_assoc, hq]
      rw [e5, Nat.mod_mul_right_div_self, Nat.mul_comm (2 ^ r), Nat.mod_mul_right_mod]
end
section
abbrev vwCl : List vw_C := [(RX0, TX0, 4), (RX1, TX1, 2), (RX2, TX2, 4)]
/-! The cells of a Whole: the object (its array, its used), and the array of 301 words -/
abbrev wo (h a : Nat) (u : Int) : Nat × va_E := (h, .inr (1, [.ref a, .int (iv u)]))
abbrev wa (cI : ClassId) (a : Nat) (F : Nat → Nat) : Nat × va_E := (a, .inl (cI, 301, .inl (wA F)))
def isW (ws : va_W) (k0 k1 h a : Nat) (cI : ClassId) (u : Int) (F : Nat → Nat) : Prop := k0 ≠ k1 ∧ ws[k0]? = some (wo h a u) ∧ ws[k1]? = some (wa cI a F)
abbrev wW (ws : va_W) (k0 k1 h a : Nat) (cI : ClassId) (u : Int) (F : Nat → Nat) : va_W := ef_w ws k0 k1 (wo h a u) (wa cI a F)
def apt (k0 k1 j0 j1 : Nat) : Prop := j0 ≠ k0 ∧ j0 ≠ k1 ∧ j1 ≠ k0 ∧ j1 ≠ k1
theorem isW.w {ws : va_W} {k0 k1 h a : Nat} {cI : ClassId} {u : Int} {F : Nat → Nat} (q : isW ws k0 k1 h a cI u F) (u' : Int) (F' : Nat → Nat) : isW (wW ws k0 k1 h a cI u' F') k0 k1 h a cI u' F' := ⟨q.1, ef_w0 q.2.1 q.1, ef_w1 q.2.2⟩
theorem isW.o {ws : va_W} {k0 k1 j0 j1 g b : Nat} {cI : ClassId} {v : Int} {G : Nat → Nat} (q : isW ws j0 j1 g b cI v G) (hap : apt k0 k1 j0 j1) (x0 x1 : Nat × va_E) : isW (ef_w ws k0 k1 x0 x1) j0 j1 g b cI v G := ⟨q.1, (ef_wo hap.1 hap.2.1).trans q.2.1, (ef_wo hap.2.2.1 hap.2.2.2).trans q.2.2⟩
theorem isW.id {ws : va_W} {k0 k1 h a : Nat} {cI : ClassId} {u : Int} {F : Nat → Nat} (q : isW ws k0 k1 h a cI u F) : wW ws k0 k1 h a cI u F = ws := ef_wid q.2.1 q.2.2
theorem isW.s1 {ws : va_W} {k0 k1 h a : Nat} {cI : ClassId} {u : Int} {F : Nat → Nat} (q : isW ws k0 k1 h a cI u F) (F' : Nat → Nat) : ws.set k1 (wa cI a F') = wW ws k0 k1 h a cI u F' := by
  have e := ef_ws1 (ws := ws) (k0 := k0) (k1 := k1) (x0 := wo h a u) (x1 := wa cI a F) (y := wa cI a F')
  rw [ef_wid q.2.1 q.2.2] at e
  exact e
theorem isW.s0 {ws : va_W} {k0 k1 h a : Nat} {cI : ClassId} {u : Int} {F : Nat → Nat} (q : isW ws k0 k1 h a cI u F) (u' : Int) : ws.set k0 (wo h a u') = wW ws k0 k1 h a cI u' F := by
  have e := ef_ws0 (ws := ws) (k0 := k0) (k1 := k1) (x0 := wo h a u) (x1 := wa cI a F) (y := wo h a u') q.1
  rw [ef_wid q.2.1 q.2.2] at e
  exact e
theorem isW.D {A : Nat → Prop} {ws : va_W} {k0 k1 h a : Nat} {cI : ClassId} {u : Int} {F : Nat → Nat} (q : isW ws k0 k1 h a cI u F) (hD : va_D A ws) (u' : Int) (F' : Nat → Nat) : va_D A (wW ws k0 k1 h a cI u' F') := by
  have h1 := hD.set (e := (wo h a u').2) q.2.1
  exact h1.set (e0 := (wa cI a F).2) (by rw [List.getElem?_set_ne q.1]; exact q.2.2)
/-- what the array holds from 301 on is nothing -/
theorem isW.P {D : va_G} {cl : List vw_C} {H : Heap} {ws : va_W} {k0 k1 h a : Nat} {cI : ClassId} {u : Int} {F : Nat → Nat} (q : isW ws k0 k1 h a cI u F) (u' : Int) {G G' : Nat → Nat} (hP : va_P D cl (wW ws k0 k1 h a cI u' G) H) (hG : ∀ j, j < 301 → G j = G' j) : va_P D cl (wW ws k0 k1 h a cI u' G') H := by
  intro k x hk
  have q1 := q.w u' G
  by_cases h1 : k = k1
  · subst h1
    have e2 : (wW ws k0 k h a cI u' G')[k]? = some (wa cI a G') := ef_w1 q.2.2
    rw [e2] at hk
    cases hk
    have h3 := hP k _ q1.2.2
    show H[a]? = some (vp_cell cI (301, .inl (wA G')))
    rw [show H[a]? = some (vp_cell cI (301, .inl (wA G))) from h3]
    exact congrArg some (vp_cell_cong (fun j hj => by show iv ((G j : Nat) : Int) = iv ((G' j : Nat) : Int); rw [hG j hj]))
  · refine hP k x ?_
    rw [← hk]
    show ((ws.set k0 _).set k1 _)[k]? = ((ws.set k0 _).set k1 _)[k]?
    rw [List.getElem?_set_ne (Ne.symm h1), List.getElem?_set_ne (Ne.symm h1)]
/-- the word at a place, and what 'put' leaves -/
def wz (F : Nat → Nat) (z : Int) : Nat := if 0 ≤ z ∧ z < 301 then F z.toNat else 0
def wp (F : Nat → Nat) (z v : Int) : Nat → Nat := if 0 ≤ z ∧ z < 301 then va_up F z.toNat (v % 4294967296).toNat else F
theorem wz_in {F : Nat → Nat} {n : Nat} (h : n < 301) : wz F (n : Int) = F n := by unfold wz; rw [if_pos ⟨by omega, by omega⟩]; rfl
theorem wz_out {F : Nat → Nat} {z : Int} (h : z < 0 ∨ 301 ≤ z) : wz F z = 0 := by unfold wz; rw [if_neg (by omega)]
theorem wz_lt {F : Nat → Nat} (h : ∀ j, F j < 4294967296) (z : Int) : wz F z < 4294967296 := by
  unfold wz
  split
  · exact h _
  · decide
theorem wp_in {F : Nat → Nat} {n : Nat} (v : Int) (h : n < 301) : wp F (n : Int) v = va_up F n (v % 4294967296).toNat := by unfold wp; rw [if_pos ⟨by omega, by omega⟩]; rfl
theorem wp_out {F : Nat → Nat} {z v : Int} (h : z < 0 ∨ 301 ≤ z) : wp F z v = F := by unfold wp; rw [if_neg (by omega)]
theorem ef_up_at {F : Nat → Nat} {k v : Nat} : va_up F k v k = v := if_pos rfl
theorem ef_up_ne {F : Nat → Nat} {k v j : Nat} (h : j ≠ k) : va_up F k v j = F j := if_neg h
theorem wp_lt {F : Nat → Nat} (h : ∀ j, F j < 4294967296) (z v : Int) : ∀ j, wp F z v j < 4294967296 := by
  intro j
  unfold wp
  split
  · show (if j = z.toNat then (v % 4294967296).toNat else F j) < _
    split
    · omega
    · exact h j
  · exact h j
theorem wp_at {F : Nat → Nat} {n v : Nat} (h : n < 301) : wp F (n : Int) (v : Int) n = v % 4294967296 := by
  rw [wp_in _ h, ef_up_at]
  omega
theorem wp_ne {F : Nat → Nat} {z v : Int} {j : Nat} (h : (j : Int) ≠ z) : wp F z v j = F j := by
  unfold wp
  split
  · exact ef_up_ne (by omega)
  · rfl
/-- a step of a sum with carry -/
theorem nv_step {G : Nat → Nat} {i c z y S : Nat} (hi : i < 301) (hinv : nv G i + c * 2 ^ (32 * i) = S) (hz : z = c + y) : nv (wp G (i : Int) (z : Int)) (i + 1) + z / 4294967296 * 2 ^ (32 * (i + 1)) = S + y * 2 ^ (32 * i) := by
  show nv (wp G (i : Int) (z : Int)) i + wp G (i : Int) (z : Int) i * 2 ^ (32 * i) + _ = _
  rw [nv_cong (G := G) (fun j hj => wp_ne (by omega)), wp_at hi, p32, Nat.mul_comm (2 ^ (32 * i)) 4294967296, ← Nat.mul_assoc]
  have e : z % 4294967296 * 2 ^ (32 * i) + z / 4294967296 * 4294967296 * 2 ^ (32 * i) = z * 2 ^ (32 * i) := by
    rw [← Nat.add_mul]
    congr 1
    omega
  have e2 : z * 2 ^ (32 * i) = c * 2 ^ (32 * i) + y * 2 ^ (32 * i) := by rw [hz, Nat.add_mul]
  omega
/-- the words from t to n put to 0 -/
def zf (F : Nat → Nat) (t i : Nat) : Nat → Nat := fun j => if t ≤ j ∧ j < i then 0 else F j
theorem zf_0 (F : Nat → Nat) (t : Nat) : zf F t t = F := by funext j; unfold zf; rw [if_neg (by omega)]
theorem zf_s {F : Nat → Nat} {t i : Nat} (h : t ≤ i) (h2 : i < 301) : wp (zf F t i) (i : Int) 0 = zf F t (i + 1) := by
  rw [wp_in _ h2]
  funext j
  by_cases hj : j = i
  · subst hj
    rw [ef_up_at]
    unfold zf
    rw [if_pos ⟨h, by omega⟩]
    rfl
  · rw [ef_up_ne hj]
    unfold zf
    by_cases h3 : t ≤ j ∧ j < i
    · rw [if_pos h3, if_pos ⟨h3.1, by omega⟩]
    · rw [if_neg h3, if_neg (by omega)]
theorem zf_lt {F : Nat → Nat} (h : ∀ j, F j < 4294967296) (t i : Nat) : ∀ j, zf F t i j < 4294967296 := by
  intro j
  unfold zf
  split
  · decide
  · exact h j
/-- what 'settle' ends with -/
theorem settled {G : Nat → Nat} {q T : Nat} (hG : ∀ j, G j < 4294967296) (hq : q ≤ T) (hT : T ≤ 301) (hz : ∀ j, q ≤ j → j < 301 → G j = 0) (ht : q = 0 ∨ G (q - 1) ≠ 0) : wl (nv G T) = q ∧ ∀ j, j < 301 → G j = wd (nv G T) j := by
  have e : nv G T = nv G q := by
    have := nv_zero (F := G) (k := q) (n := T - q) (fun j h1 h2 => hz j h1 (by omega))
    rw [show q + (T - q) = T by omega] at this
    exact this
  rw [e]
  have h1 := nv_lt (F := G) (k := q) (fun j _ => hG j)
  have h2 : q = 0 ∨ 2 ^ (32 * (q - 1)) ≤ nv G q := by
    rcases ht with h | h
    · exact Or.inl h
    · rcases Nat.eq_zero_or_pos q with h3 | h3
      · exact Or.inl h3
      · right
        obtain ⟨r, rfl⟩ : ∃ r, q = r + 1 := ⟨q - 1, by omega⟩
        show 2 ^ (32 * (r + 1 - 1)) ≤ nv G r + G r * 2 ^ (32 * r)
        rw [show r + 1 - 1 = r by omega] at h ⊢
        have h5 : 1 * 2 ^ (32 * r) ≤ G r * 2 ^ (32 * r) := Nat.mul_le_mul_right _ (by omega)
        omega
  have h3 := wl_eq h1 h2
  refine ⟨h3, fun j hj => ?_⟩
  rcases Nat.lt_or_ge j q with h4 | h4
  · rw [wd_nv (fun j _ => hG j) h4]
  · rw [hz j h4 hj, wd_above (by omega)]
theorem efP0 {D : va_G} {cl : List vw_C} {H : Heap} {ws : va_W} {k0 k1 h a : Nat} {cI : ClassId} {u : Int} {F : Nat → Nat} (q : isW ws k0 k1 h a cI u F) (hP : va_P D cl ws H) : va_P D cl (wW ws k0 k1 h a cI u F) H := by rw [isW.id q]; exact hP
theorem efD0 {A : Nat → Prop} {ws : va_W} {k0 k1 h a : Nat} {cI : ClassId} {u : Int} {F : Nat → Nat} (q : isW ws k0 k1 h a cI u F) (hD : va_D A ws) : va_D A (wW ws k0 k1 h a cI u F) := by rw [isW.id q]; exact hD
theorem efP2 {D : va_G} {cl : List vw_C} {H : Heap} {ws : va_W} {k0 k1 h a : Nat} {cI : ClassId} {u u' : Int} {F F' : Nat → Nat} (q : k0 ≠ k1) (hP : va_P D cl (wW (wW ws k0 k1 h a cI u F) k0 k1 h a cI u' F') H) : va_P D cl (wW ws k0 k1 h a cI u' F') H := Eq.mp (congrArg (fun w => va_P D cl w H) (ef_ww q)) hP
theorem efD2 {A : Nat → Prop} {ws : va_W} {k0 k1 h a : Nat} {cI : ClassId} {u u' : Int} {F F' : Nat → Nat} (q : k0 ≠ k1) (hD : va_D A (wW (wW ws k0 k1 h a cI u F) k0 k1 h a cI u' F')) : va_D A (wW ws k0 k1 h a cI u' F') := Eq.mp (congrArg (fun w => va_D A w) (ef_ww q)) hD
theorem efPu {D : va_G} {cl : List vw_C} {H : Heap} {ws : va_W} {k0 k1 h a : Nat} {cI : ClassId} {u u' : Int} {F : Nat → Nat} (q : k0 ≠ k1) (hP : va_P D cl ((wW ws k0 k1 h a cI u F).set k0 (wo h a u')) H) : va_P D cl (wW ws k0 k1 h a cI u' F) H := Eq.mp (congrArg (fun w => va_P D cl w H) (ef_ws0 q)) hP
theorem efDu {A : Nat → Prop} {ws : va_W} {k0 k1 h a : Nat} {cI : ClassId} {u u' : Int} {F : Nat → Nat} (q : k0 ≠ k1) (hD : va_D A ((wW ws k0 k1 h a cI u F).set k0 (wo h a u'))) : va_D A (wW ws k0 k1 h a cI u' F) := Eq.mp (congrArg (fun w => va_D A w) (ef_ws0 q)) hD
theorem efPa {D : va_G} {cl : List vw_C} {H : Heap} {ws : va_W} {k0 k1 h a : Nat} {cI : ClassId} {u : Int} {F F' : Nat → Nat} (hP : va_P D cl ((wW ws k0 k1 h a cI u F).set k1 (wa cI a F')) H) : va_P D cl (wW ws k0 k1 h a cI u F') H := Eq.mp (congrArg (fun w => va_P D cl w H) ef_ws1) hP
theorem efDa {A : Nat → Prop} {ws : va_W} {k0 k1 h a : Nat} {cI : ClassId} {u : Int} {F F' : Nat → Nat} (hD : va_D A ((wW ws k0 k1 h a cI u F).set k1 (wa cI a F'))) : va_D A (wW ws k0 k1 h a cI u F') := Eq.mp (congrArg (fun w => va_D A w) ef_ws1) hD
theorem become_val (F : Nat → Nat) (v : Nat) (hv : v < 18446744073709551616) : nv (wp (wp F 0 (v : Int)) 1 ((v : Int) / 4294967296)) (min 2 301) = v := by
  show 0 + wp (wp F 0 (v : Int)) 1 ((v : Int) / 4294967296) 0 * 2 ^ (32 * 0) + wp (wp F 0 (v : Int)) 1 ((v : Int) / 4294967296) 1 * 2 ^ (32 * 1) = v
  rw [wp_ne (by omega), show ((0 : Int)) = ((0 : Nat) : Int) from rfl, wp_at (by decide), show ((1 : Int)) = ((1 : Nat) : Int) from rfl, show (v : Int) / 4294967296 = ((v / 4294967296 : Nat) : Int) by omega, wp_at (by decide)]
  show 0 + v % 4294967296 * 1 + v / 4294967296 % 4294967296 * 4294967296 = v
  omega
/-- a step of a difference with borrow -/
theorem nv_dstep {G Y Z : Nat → Nat} {i bo bo2 : Nat} {z : Int} (hi : i < 301) (h : nv G i + nv Z i = nv Y i + bo * 2 ^ (32 * i)) (hz : (z % 4294967296).toNat + Z i + bo = Y i + bo2 * 4294967296) : nv (wp G (i : Int) z) (i + 1) + nv Z (i + 1) = nv Y (i + 1) + bo2 * 2 ^ (32 * (i + 1)) := by
  show nv (wp G (i : Int) z) i + wp G (i : Int) z i * 2 ^ (32 * i) + (nv Z i + Z i * 2 ^ (32 * i)) = nv Y i + Y i * 2 ^ (32 * i) + _
  rw [nv_cong (G := G) (fun j hj => wp_ne (by omega)), wp_in _ hi, ef_up_at, p32, Nat.mul_comm (2 ^ (32 * i)) 4294967296, ← Nat.mul_assoc]
  have e : ((z % 4294967296).toNat + Z i + bo) * 2 ^ (32 * i) = (Y i + bo2 * 4294967296) * 2 ^ (32 * i) := by rw [hz]
  rw [Nat.add_mul, Nat.add_mul, Nat.add_mul] at e
  omega
end
section
set_option maxRecDepth 100000 in
set_option maxHeartbeats 4000000 in
/-- wordAt(i): the word, 0 outside -/
theorem c_wordAt (l : Launch) (dC : Nat → ClassId) (dI : Nat → Nat → Nat) {cI : ClassId} {tys : List (ClassId × FieldType)} (ht : tys[0]? = some (cI, .int)) {ws : va_W} {k0 k1 h a : Nat} {u : Int} {F : Nat → Nat} (hw : isW ws k0 k1 h a cI u F) (i : Int) (hi : ir i) : ef_C l yX1_wordAt wsX1_wordAt ({ frames := 0, cells := 0, slots := 0, locals := 0 } : Room) [.ref h, .int (iv (i))] (dC, dI) vwCl tys ws (fun o w1 => o = some (.int (iv (wz F i))) ∧ w1 = ws) := by
  have hi0 := hi
  obtain ⟨hi1, hi2⟩ := hi
  refine ef_C.of (cc := cX1_wordAt) (maxL := 2) (ret := (some .int)) (by decide) rfl (Nat.le_of_ble_eq_true rfl) ?_
  intro p e s m below meth c ls hx hb hml hr hts hown hlocks hK hNX hP hD hS hl
  have hl : lv_has ls 2 [(0, .ref h), (1, .int (iv (i)))] := hl
  have hown : s.vm.findClass RX1 = some m.cls := hown
  generalize hH : s.heap = H at hP ⊢
  have hS : va_S (ef_A ws) s.heap H [] := by rw [← hH]; exact hS
  generalize ([] : List Loc) = locs at hS ⊢
  refine lv_iload_n hx hb dX1_wordAt_0 rfl (lv_at hl 1 rfl) ?_
  refine iw_if_lt (tgt := 22) hx hb dX1_wordAt_1 (by decide) (hi0) (fun c1 => ?_) (fun c1 => ?_)
  ·
    refine lv_iconst (v := iv (0)) hx hb dX1_wordAt_22 (by decide) ?_
    exact ef_iret hx hb hr hlocks hP hD hS dX1_wordAt_23 (by rw [wz_out (Or.inl c1)]; exact ⟨rfl, rfl⟩)
  ·
    refine lv_iload_n hx hb dX1_wordAt_4 rfl (lv_at hl 1 rfl) ?_
    refine lv_aload_n hx hb dX1_wordAt_5 rfl (lv_at hl 0 rfl) ?_
    refine va_get (D := (dC, dI)) (ci := 1) (v := .ref a) (C := RX1) (T := TX1) (N := 2) hx hb hts (by decide +kernel) hown hK hP k0 hw.2.1 rfl 0 (by decide) (hts (.fieldLink RX1 9 "ExactFractions$Whole" "words" "[I") (by decide +kernel)) (fun _ h9 => h9) rfl dX1_wordAt_6 ?_
    refine va_alen (v := iv (301)) hx hb hK hP k1 0 hw.2.2 ht rfl dX1_wordAt_9 ?_
    refine iw_icmp_ge (tgt := 22) hx hb dX1_wordAt_10 (by decide) (hi0) ⟨by omega, by omega⟩ (fun c2 => ?_) (fun c2 => ?_)
    ·
      refine lv_iconst (v := iv (0)) hx hb dX1_wordAt_22 (by decide) ?_
      exact ef_iret hx hb hr hlocks hP hD hS dX1_wordAt_23 (by rw [wz_out (Or.inr c2)]; exact ⟨rfl, rfl⟩)
    ·
      obtain ⟨n, rfl⟩ : ∃ n : Nat, i = n := ⟨i.toNat, by omega⟩
      refine lv_aload_n hx hb dX1_wordAt_13 rfl (lv_at hl 0 rfl) ?_
      refine va_get (D := (dC, dI)) (ci := 1) (v := .ref a) (C := RX1) (T := TX1) (N := 2) hx hb hts (by decide +kernel) hown hK hP k0 hw.2.1 rfl 0 (by decide) (hts (.fieldLink RX1 9 "ExactFractions$Whole" "words" "[I") (by decide +kernel)) (fun _ h9 => h9) rfl dX1_wordAt_14 ?_
      refine lv_iload_n hx hb dX1_wordAt_17 rfl (lv_at hl 1 rfl) ?_
      refine iw_iald (i := n) hx hb hK hP k1 0 hw.2.2 ht (by omega) (by decide) dX1_wordAt_18 ?_
      refine lv_goto (tgt := 23) hx hb dX1_wordAt_19 (by decide) ?_
      exact ef_iret hx hb hr hlocks hP hD hS dX1_wordAt_23 (by rw [wz_in (by omega)]; exact ⟨rfl, rfl⟩)

set_option maxRecDepth 100000 in
set_option maxHeartbeats 4000000 in
/-- valueAt(i): the word without sign -/
theorem c_valueAt (l : Launch) (dC : Nat → ClassId) (dI : Nat → Nat → Nat) {cI : ClassId} {tys : List (ClassId × FieldType)} (ht : tys[0]? = some (cI, .int)) {ws : va_W} {k0 k1 h a : Nat} {u : Int} {F : Nat → Nat} (hw : isW ws k0 k1 h a cI u F) (hF : ∀ j, F j < 4294967296) (i : Int) (hi : ir i) : ef_C l yX1_valueAt wsX1_valueAt ({ frames := 1, cells := 0, slots := 0, locals := 21 } : Room) [.ref h, .int (iv (i))] (dC, dI) vwCl tys ws (fun o w1 => o = some (.long (jv (wz F i))) ∧ w1 = ws) := by
  refine ef_C.of (cc := cX1_valueAt) (maxL := 2) (ret := (some .long)) (by decide) rfl (Nat.le_of_ble_eq_true rfl) ?_
  intro p e s m below meth c ls hx hb hml hr hts hown hlocks hK hNX hP hD hS hl
  have hl : lv_has ls 2 [(0, .ref h), (1, .int (iv (i)))] := hl
  have hown : s.vm.findClass RX1 = some m.cls := hown
  generalize hH : s.heap = H at hP ⊢
  have hS : va_S (ef_A ws) s.heap H [] := by rw [← hH]; exact hS
  generalize ([] : List Loc) = locs at hS ⊢
  refine lv_aload_n hx hb dX1_valueAt_0 rfl (lv_at hl 0 rfl) ?_
  refine lv_iload_n hx hb dX1_valueAt_1 rfl (lv_at hl 1 rfl) ?_
  refine ef_callV (As := [.int (iv (i))]) (rest := []) ⟨hx, hb, hml, hown, hts⟩ (c_wordAt l dC dI ht hw i hi) (cwV 1 hts gX1_valueAt_X1_wordAt rfl rfl rfl (by decide +kernel) ⟨Nat.le_of_ble_eq_true rfl, Nat.le_of_ble_eq_true rfl⟩) hK hNX hP hD hS k0 hw.2.1 rfl rfl rfl hl.1 rfl (Nat.le_of_ble_eq_true rfl) dX1_valueAt_2 ⟨Nat.zero_le _, Nat.zero_le _⟩ (fun o w1 H locs hq hP hD hS => ?_)
  obtain ⟨rfl, e9⟩ := hq
  rw [e9] at hP hD
  refine W.eq (g2 := F0 m 5 ls [.int (iv (wz F i))]) rfl ?_
  refine iw_topi (y := iv ((iv (wz F i)).toInt)) ((iv_of _).symm) ?_
  refine iw_i2l hx hb (ir_of _) dX1_valueAt_5 ?_
  refine lv_ldc2 (v := 4294967295) hx hb hown (hts (.constantLong RX1 23 (4294967295)) (by decide +kernel)) dX1_valueAt_6 ?_
  refine iw_land hx hb dX1_valueAt_9 ?_
  refine iw_topl (y := jv (wz F i)) (congrArg jv (by rw [iv_emod]; have := wz_lt hF i; omega)) ?_
  exact ef_lret hx hb hr hlocks hP hD hS dX1_valueAt_10 (⟨rfl, rfl⟩)

set_option maxRecDepth 100000 in
set_option maxHeartbeats 4000000 in
/-- put(i, z): the word, nothing outside -/
theorem c_put (l : Launch) (dC : Nat → ClassId) (dI : Nat → Nat → Nat) {cI : ClassId} {tys : List (ClassId × FieldType)} (ht : tys[0]? = some (cI, .int)) {ws : va_W} {k0 k1 h a : Nat} {u : Int} {F : Nat → Nat} (hw : isW ws k0 k1 h a cI u F) (i : Int) (hi : ir i) (z : Int) : ef_C l yX1_put wsX1_put ({ frames := 0, cells := 0, slots := 0, locals := 0 } : Room) [.ref h, .int (iv (i)), .long (jv (z))] (dC, dI) vwCl tys ws (fun o w1 => o = none ∧ w1 = wW ws k0 k1 h a cI u (wp F i z)) := by
  have hi0 := hi
  obtain ⟨hi1, hi2⟩ := hi
  refine ef_C.of (cc := cX1_put) (maxL := 4) (ret := none) (by decide) rfl (Nat.le_of_ble_eq_true rfl) ?_
  intro p e s m below meth c ls hx hb hml hr hts hown hlocks hK hNX hP hD hS hl
  have hl : lv_has ls 4 [(0, .ref h), (1, .int (iv (i))), (2, .long (jv (z)))] := hl
  have hown : s.vm.findClass RX1 = some m.cls := hown
  generalize hH : s.heap = H at hP ⊢
  have hS : va_S (ef_A ws) s.heap H [] := by rw [← hH]; exact hS
  generalize ([] : List Loc) = locs at hS ⊢
  refine lv_iload_n hx hb dX1_put_0 rfl (lv_at hl 1 rfl) ?_
  refine iw_if_lt (tgt := 21) hx hb dX1_put_1 (by decide) (hi0) (fun c1 => ?_) (fun c1 => ?_)
  ·
    exact ef_vret hx hb hr hlocks hP hD hS dX1_put_21 (by rw [wp_out (Or.inl c1), isW.id hw]; exact ⟨rfl, rfl⟩)
  ·
    refine lv_iload_n hx hb dX1_put_4 rfl (lv_at hl 1 rfl) ?_
    refine lv_aload_n hx hb dX1_put_5 rfl (lv_at hl 0 rfl) ?_
    refine va_get (D := (dC, dI)) (ci := 1) (v := .ref a) (C := RX1) (T := TX1) (N := 2) hx hb hts (by decide +kernel) hown hK hP k0 hw.2.1 rfl 0 (by decide) (hts (.fieldLink RX1 9 "ExactFractions$Whole" "words" "[I") (by decide +kernel)) (fun _ h9 => h9) rfl dX1_put_6 ?_
    refine va_alen (v := iv (301)) hx hb hK hP k1 0 hw.2.2 ht rfl dX1_put_9 ?_
    refine iw_icmp_ge (tgt := 21) hx hb dX1_put_10 (by decide) (hi0) ⟨by omega, by omega⟩ (fun c2 => ?_) (fun c2 => ?_)
    ·
      exact ef_vret hx hb hr hlocks hP hD hS dX1_put_21 (by rw [wp_out (Or.inr c2), isW.id hw]; exact ⟨rfl, rfl⟩)
    ·
      obtain ⟨n, rfl⟩ : ∃ n : Nat, i = n := ⟨i.toNat, by omega⟩
      refine lv_aload_n hx hb dX1_put_13 rfl (lv_at hl 0 rfl) ?_
      refine va_get (D := (dC, dI)) (ci := 1) (v := .ref a) (C := RX1) (T := TX1) (N := 2) hx hb hts (by decide +kernel) hown hK hP k0 hw.2.1 rfl 0 (by decide) (hts (.fieldLink RX1 9 "ExactFractions$Whole" "words" "[I") (by decide +kernel)) (fun _ h9 => h9) rfl dX1_put_14 ?_
      refine lv_iload_n hx hb dX1_put_17 rfl (lv_at hl 1 rfl) ?_
      refine lv_lload_n hx hb dX1_put_18 rfl (lv_at hl 2 rfl) ?_
      refine iw_l2i hx hb dX1_put_19 ?_
      refine iw_topi (y := iv (((z % 4294967296).toNat : Int))) (iv_cong (by omega)) ?_
      refine iw_iast (i := n) (v := (z % 4294967296).toNat) hx hb hK hP hD hS k1 0 hw.2.2 ht (by omega) (by decide) dX1_put_20 (fun H locs hP hD hS => ?_)
      exact ef_vret hx hb hr hlocks hP hD hS dX1_put_21 (by rw [wp_in _ (by omega)]; exact ⟨rfl, isW.s1 hw _⟩)

set_option maxRecDepth 100000 in
set_option maxHeartbeats 4000000 in
/-- settle(t): what stands below t, with its used -/
theorem c_settle (l : Launch) (dC : Nat → ClassId) (dI : Nat → Nat → Nat) {cI : ClassId} {tys : List (ClassId × FieldType)} (ht : tys[0]? = some (cI, .int)) {ws : va_W} {k0 k1 h a n : Nat} {F : Nat → Nat} (hw : isW ws k0 k1 h a cI (n : Int) F) (hn : n ≤ 301) (hF : ∀ j, F j < 4294967296) (t : Nat) (htt : t ≤ 1000) (hz : ∀ j, t ≤ j → n ≤ j → j < 301 → F j = 0) : ef_C l yX1_settle wsX1_settle ({ frames := 1, cells := 0, slots := 0, locals := 23 } : Room) [.ref h, .int (iv ((t : Int)))] (dC, dI) vwCl tys ws (fun o w1 => o = none ∧ w1 = wW ws k0 k1 h a cI (wl (nv F (min t 301))) (wd (nv F (min t 301)))) := by
  refine ef_C.of (cc := cX1_settle) (maxL := 3) (ret := none) (by decide) rfl (Nat.le_of_ble_eq_true rfl) ?_
  intro p e s m below meth c ls hx hb hml hr hts hown hlocks hK hNX hP hD hS hl
  have hl : lv_has ls 3 [(0, .ref h), (1, .int (iv ((t : Int))))] := hl
  have hown : s.vm.findClass RX1 = some m.cls := hown
  generalize hH : s.heap = H at hP ⊢
  have hS : va_S (ef_A ws) s.heap H [] := by rw [← hH]; exact hS
  generalize ([] : List Loc) = locs at hS ⊢
  have hD0 := hD
  have hw0 := hw
  have hP := efP0 hw0 hP
  have hD := efD0 hw0 hD
  have hw : isW (wW ws k0 k1 h a cI ((n : Int)) (F)) k0 k1 h a cI ((n : Int)) (F) := hw0.w _ _
  refine lv_iload_n hx hb dX1_settle_0 rfl (lv_at hl 1 rfl) ?_
  refine lv_istore_n (lv' := [(2, .int (iv ((t : Int)))), (0, .ref h), (1, .int (iv ((t : Int))))]) hx hb dX1_settle_1 rfl hl (by decide) rfl (fun ls hl => ?_)
  rw [← zf_0 F t] at hP hD
  have loop : ∀ (fuel : Nat) (i : Nat), (t ≤ i) → (i ≤ 1000) → (1001 < i + fuel) → ∀ (H : Heap) (locs : List Loc) (ls : Array Slot), va_P (dC, dI) vwCl (wW ws k0 k1 h a cI (n : Int) (zf F t i)) H → va_D (ef_A ws) (wW ws k0 k1 h a cI (n : Int) (zf F t i)) → va_S (ef_A ws) s.heap H locs → lv_has ls 3 [(0, .ref h), (1, .int (iv ((t : Int)))), (2, .int (iv ((i : Int))))] → W p l e ({ frames := 1, cells := 0, slots := 0, locals := 23 } : Room) s m ([.ref h, .int (iv ((t : Int)))] : List Value).toArray below meth c H locs 0 0 (ef_R below (dC, dI) vwCl ws (fun o w1 => o = none ∧ w1 = wW ws k0 k1 h a cI (wl (nv F (min t 301))) (wd (nv F (min t 301)))) [.ref h, .int (iv ((t : Int)))] s) (F0 m 2 ls []) := by
    intro fuel
    induction fuel with
    | zero => intro i h1 h2 h3; exfalso; omega
    | succ fuel ih =>
      intro i h1 h2 h3 H locs ls hP hD hS hl
      have hw : isW (wW ws k0 k1 h a cI (n : Int) (zf F t i)) k0 k1 h a cI (n : Int) (zf F t i) := hw0.w _ _
      refine lv_iload_n hx hb dX1_settle_2 rfl (lv_at hl 2 rfl) ?_
      refine lv_aload_n hx hb dX1_settle_3 rfl (lv_at hl 0 rfl) ?_
      refine va_get (D := (dC, dI)) (ci := 1) (v := .int (iv ((n : Int)))) (C := RX1) (T := TX1) (N := 2) hx hb hts (by decide +kernel) hown hK hP k0 hw.2.1 rfl 1 (by decide) (hts (.fieldLink RX1 15 "ExactFractions$Whole" "used" "I") (by decide +kernel)) (fun _ h9 => h9) rfl dX1_settle_4 ?_
      refine iw_icmp_ge (tgt := 22) hx hb dX1_settle_7 (by decide) ⟨by omega, by omega⟩ ⟨by omega, by omega⟩ (fun c1 => ?_) (fun c1 => ?_)
      ·
        refine lv_aload_n hx hb dX1_settle_22 rfl (lv_at hl 0 rfl) ?_
        refine lv_iload_n hx hb dX1_settle_23 rfl (lv_at hl 1 rfl) ?_
        refine lv_aload_n hx hb dX1_settle_24 rfl (lv_at hl 0 rfl) ?_
        refine va_get (D := (dC, dI)) (ci := 1) (v := .ref a) (C := RX1) (T := TX1) (N := 2) hx hb hts (by decide +kernel) hown hK hP k0 hw.2.1 rfl 0 (by decide) (hts (.fieldLink RX1 9 "ExactFractions$Whole" "words" "[I") (by decide +kernel)) (fun _ h9 => h9) rfl dX1_settle_25 ?_
        refine va_alen (v := iv (301)) hx hb hK hP k1 0 hw.2.2 ht rfl dX1_settle_28 ?_
        refine iw_mmin hx hb (hml.trans hl.1.symm) hown (hts (.methodLink RX1 29 Lib.Math.min.name) (by decide +kernel)) (hts (.static Lib.Math.min.name) (by decide +kernel)) (hts (.initialized "java/lang/Math") (by decide +kernel)) (hts (.code Lib.Math.min.name Lib.Math.min.code 2 (some .int)) (by decide +kernel)) (Nat.le_of_ble_eq_true rfl) (Nat.le_of_ble_eq_true rfl) (Nat.zero_le _) (Nat.zero_le _) ⟨by omega, by omega⟩ ⟨by omega, by omega⟩ dX1_settle_29 ?_
        refine iw_topi (y := iv (((min t 301 : Nat) : Int))) (congrArg iv (by split <;> omega : ((if (301) < ((t : Int)) then (301) else ((t : Int))) : Int) = (((min t 301 : Nat) : Int)))) ?_
        refine va_put (D := (dC, dI)) (ci := 1) (v := .int (iv (((min t 301 : Nat) : Int)))) (ty := .int) (C := RX1) (T := TX1) (N := 2) hx hb hts (by decide +kernel) tyX1 tyX1_ok nmX1 hown hK hP hD hS k0 hw.2.1 rfl 1 (by decide) (hts (.fieldLink RX1 15 "ExactFractions$Whole" "used" "I") (by decide +kernel)) (fun _ h9 => h9) rfl (by decide +kernel) rfl rfl (Nat.le_of_ble_eq_true rfl) dX1_settle_32 (fun H locs hP hD hS => ?_)
        have hP := efPu hw0.1 hP
        have hD := efDu hw0.1 hD
        have hG := zf_lt hF t i
        have hG0 : ∀ j, min t 301 ≤ j → j < 301 → zf F t i j = 0 := by
          intro j q1 q2
          unfold zf
          by_cases q3 : t ≤ j ∧ j < i
          · rw [if_pos q3]
          · rw [if_neg q3]
            exact hz j (by omega) (by omega) q2
        have hGt : nv (zf F t i) (min t 301) = nv F (min t 301) := nv_cong (fun j hj => by unfold zf; rw [if_neg (by omega)])
        generalize zf F t i = G at hP hD hG hG0 hGt
        have loop2 : ∀ (fuel : Nat) (q : Nat), (q ≤ min t 301) → (∀ j, q ≤ j → j < 301 → G j = 0) → (q < fuel) → ∀ (H : Heap) (locs : List Loc) (ls : Array Slot), va_P (dC, dI) vwCl (wW ws k0 k1 h a cI (q : Int) G) H → va_D (ef_A ws) (wW ws k0 k1 h a cI (q : Int) G) → va_S (ef_A ws) s.heap H locs → lv_has ls 3 [(0, .ref h), (1, .int (iv ((t : Int))))] → W p l e ({ frames := 1, cells := 0, slots := 0, locals := 23 } : Room) s m ([.ref h, .int (iv ((t : Int)))] : List Value).toArray below meth c H locs 0 0 (ef_R below (dC, dI) vwCl ws (fun o w1 => o = none ∧ w1 = wW ws k0 k1 h a cI (wl (nv F (min t 301))) (wd (nv F (min t 301)))) [.ref h, .int (iv ((t : Int)))] s) (F0 m 35 ls []) := by
          intro fuel
          induction fuel with
          | zero => intro q g1 g2 g3; exfalso; omega
          | succ fuel ih =>
            intro q g1 g2 g3 H locs ls hP hD hS hl
            have hw : isW (wW ws k0 k1 h a cI (q : Int) G) k0 k1 h a cI (q : Int) G := hw0.w _ _
            refine lv_aload_n hx hb dX1_settle_35 rfl (lv_at hl 0 rfl) ?_
            refine va_get (D := (dC, dI)) (ci := 1) (v := .int (iv ((q : Int)))) (C := RX1) (T := TX1) (N := 2) hx hb hts (by decide +kernel) hown hK hP k0 hw.2.1 rfl 1 (by decide) (hts (.fieldLink RX1 15 "ExactFractions$Whole" "used" "I") (by decide +kernel)) (fun _ h9 => h9) rfl dX1_settle_36 ?_
            refine iw_if_le (tgt := 68) hx hb dX1_settle_39 (by decide) ⟨by omega, by omega⟩ (fun c2 => ?_) (fun c2 => ?_)
            ·
              have hs := settled hG g1 (by omega) g2 (Or.inl (by omega))
              rw [hGt] at hs
              have hP := isW.P hw0 _ hP hs.2
              have hD := isW.D hw0 hD0 ((q : Int)) (wd (nv F (min t 301)))
              rw [← hs.1] at hP hD
              exact ef_vret hx hb hr hlocks hP hD hS dX1_settle_68 (⟨rfl, rfl⟩)
            ·
              obtain ⟨r, rfl⟩ : ∃ r : Nat, q = r + 1 := ⟨q - 1, by omega⟩
              refine lv_aload_n hx hb dX1_settle_42 rfl (lv_at hl 0 rfl) ?_
              refine lv_aload_n hx hb dX1_settle_43 rfl (lv_at hl 0 rfl) ?_
              refine va_get (D := (dC, dI)) (ci := 1) (v := .int (iv (((r + 1 : Nat) : Int)))) (C := RX1) (T := TX1) (N := 2) hx hb hts (by decide +kernel) hown hK hP k0 hw.2.1 rfl 1 (by decide) (hts (.fieldLink RX1 15 "ExactFractions$Whole" "used" "I") (by decide +kernel)) (fun _ h9 => h9) rfl dX1_settle_44 ?_
              refine lv_iconst (v := iv (1)) hx hb dX1_settle_47 (by decide) ?_
              refine iw_isub hx hb dX1_settle_48 ?_
              refine iw_topi (y := iv ((r : Int))) (congrArg iv (by omega : (((((r + 1 : Nat) : Int)) - (1)) : Int) = ((r : Int)))) ?_
              refine ef_callV (As := [.int (iv ((r : Int)))]) (rest := []) ⟨hx, hb, hml, hown, hts⟩ (c_wordAt l dC dI ht hw (r : Int) ⟨by omega, by omega⟩) (cwV 1 hts gX1_settle_X1_wordAt rfl rfl rfl (by decide +kernel) ⟨Nat.le_of_ble_eq_true rfl, Nat.le_of_ble_eq_true rfl⟩) hK hNX hP hD hS k0 hw.2.1 rfl rfl rfl hl.1 rfl (Nat.le_of_ble_eq_true rfl) dX1_settle_49 ⟨Nat.zero_le _, Nat.zero_le _⟩ (fun o w1 H locs hq hP hD hS => ?_)
              obtain ⟨rfl, e9⟩ := hq
              rw [e9] at hP hD
              refine W.eq (g2 := F0 m 52 ls [.int (iv (wz G (r : Int)))]) rfl ?_
              refine iw_topi (y := iv ((G r : Int))) (by rw [wz_in (by omega)]) ?_
              have hGr := hG r
              refine iw_ifu_ne (tgt := 68) hx hb dX1_settle_52 (by decide) (by omega) (by omega) (fun c3 => ?_) (fun c3 => ?_)
              ·
                have hs := settled hG g1 (by omega) g2 (Or.inr (by rw [show r + 1 - 1 = r by omega]; omega))
                rw [hGt] at hs
                have hP := isW.P hw0 _ hP hs.2
                have hD := isW.D hw0 hD0 (((r + 1 : Nat) : Int)) (wd (nv F (min t 301)))
                rw [← hs.1] at hP hD
                exact ef_vret hx hb hr hlocks hP hD hS dX1_settle_68 (⟨rfl, rfl⟩)
              ·
                refine lv_aload_n hx hb dX1_settle_55 rfl (lv_at hl 0 rfl) ?_
                refine lv_dup hx hb dX1_settle_56 rfl ?_
                refine va_get (D := (dC, dI)) (ci := 1) (v := .int (iv (((r + 1 : Nat) : Int)))) (C := RX1) (T := TX1) (N := 2) hx hb hts (by decide +kernel) hown hK hP k0 hw.2.1 rfl 1 (by decide) (hts (.fieldLink RX1 15 "ExactFractions$Whole" "used" "I") (by decide +kernel)) (fun _ h9 => h9) rfl dX1_settle_57 ?_
                refine lv_iconst (v := iv (1)) hx hb dX1_settle_60 (by decide) ?_
                refine iw_isub hx hb dX1_settle_61 ?_
                refine iw_topi (y := iv ((r : Int))) (congrArg iv (by omega : (((((r + 1 : Nat) : Int)) - (1)) : Int) = ((r : Int)))) ?_
                refine va_put (D := (dC, dI)) (ci := 1) (v := .int (iv ((r : Int)))) (ty := .int) (C := RX1) (T := TX1) (N := 2) hx hb hts (by decide +kernel) tyX1 tyX1_ok nmX1 hown hK hP hD hS k0 hw.2.1 rfl 1 (by decide) (hts (.fieldLink RX1 15 "ExactFractions$Whole" "used" "I") (by decide +kernel)) (fun _ h9 => h9) rfl (by decide +kernel) rfl rfl (Nat.le_of_ble_eq_true rfl) dX1_settle_62 (fun H locs hP hD hS => ?_)
                have hP := efPu hw0.1 hP
                have hD := efDu hw0.1 hD
                refine lv_goto (tgt := 35) hx hb dX1_settle_65 (by decide) ?_
                exact ih (r) (by omega) (fun j q1 q2 => by rcases Nat.lt_or_ge r j with q3 | q3; exact g2 j (by omega) q2; rw [show j = r by omega]; omega) (by omega) H locs ls hP hD hS (lv_sub hl [0, 1] rfl)
        exact loop2 (302) (min t 301) (Nat.le_refl _) (hG0) (by omega) H locs ls hP hD hS (lv_sub hl [0, 1] rfl)
      ·
        refine lv_aload_n hx hb dX1_settle_10 rfl (lv_at hl 0 rfl) ?_
        refine lv_iload_n hx hb dX1_settle_11 rfl (lv_at hl 2 rfl) ?_
        refine lv_lconst (v := jv (0)) hx hb dX1_settle_12 (by decide) ?_
        refine ef_callV (As := [.int (iv ((i : Int))), .long (jv (0))]) (rest := []) ⟨hx, hb, hml, hown, hts⟩ (c_put l dC dI ht hw (i : Int) ⟨by omega, by omega⟩ 0) (cwV 2 hts gX1_settle_X1_put rfl rfl rfl (by decide +kernel) ⟨Nat.le_of_ble_eq_true rfl, Nat.le_of_ble_eq_true rfl⟩) hK hNX hP hD hS k0 hw.2.1 rfl rfl rfl hl.1 rfl (Nat.le_of_ble_eq_true rfl) dX1_settle_13 ⟨Nat.zero_le _, Nat.zero_le _⟩ (fun o w1 H locs hq hP hD hS => ?_)
        obtain ⟨rfl, rfl⟩ := hq
        have hP := efP2 hw0.1 hP
        have hD := efD2 hw0.1 hD
        have hw : isW (wW ws k0 k1 h a cI ((n : Int)) (wp (zf F t i) (i : Int) 0)) k0 k1 h a cI ((n : Int)) (wp (zf F t i) (i : Int) 0) := hw0.w _ _
        refine W.eq (g2 := F0 m 16 ls []) rfl ?_
        rw [zf_s h1 (by omega)] at hP hD
        refine lv_iinc (v := iv (((i + 1 : Nat) : Int))) (lv' := [(2, .int (iv (((i + 1 : Nat) : Int)))), (0, .ref h), (1, .int (iv ((t : Int))))]) hx hb dX1_settle_16 hl (k := 2) rfl (iv_inc i) (by decide) rfl (fun ls hl => ?_)
        refine lv_goto (tgt := 2) hx hb dX1_settle_19 (by decide) ?_
        exact ih (i + 1) (by omega) (by omega) (by omega) H locs ls hP hD hS (lv_sub hl [1, 2, 0] rfl)
  exact loop (1002) (t) (Nat.le_refl _) (by omega) (by omega) H locs ls hP hD hS (lv_sub hl [1, 2, 0] rfl)

set_option maxRecDepth 100000 in
set_option maxHeartbeats 4000000 in
/-- isZero -/
theorem c_isZero (l : Launch) (dC : Nat → ClassId) (dI : Nat → Nat → Nat) {cI : ClassId} {tys : List (ClassId × FieldType)} (ht : tys[0]? = some (cI, .int)) {ws : va_W} {k0 k1 h a X : Nat} (hw : isW ws k0 k1 h a cI (wl X : Int) (wd X)) (hX : wl X ≤ 301) : ef_C l yX1_isZero wsX1_isZero ({ frames := 0, cells := 0, slots := 0, locals := 0 } : Room) [.ref h] (dC, dI) vwCl tys ws (fun o w1 => o = some (.int (iv (if X = 0 then 1 else 0))) ∧ w1 = ws) := by
  refine ef_C.of (cc := cX1_isZero) (maxL := 1) (ret := (some .boolean)) (by decide) rfl (Nat.le_of_ble_eq_true rfl) ?_
  intro p e s m below meth c ls hx hb hml hr hts hown hlocks hK hNX hP hD hS hl
  have hl : lv_has ls 1 [(0, .ref h)] := hl
  have hown : s.vm.findClass RX1 = some m.cls := hown
  generalize hH : s.heap = H at hP ⊢
  have hS : va_S (ef_A ws) s.heap H [] := by rw [← hH]; exact hS
  generalize ([] : List Loc) = locs at hS ⊢
  refine lv_aload_n hx hb dX1_isZero_0 rfl (lv_at hl 0 rfl) ?_
  refine va_get (D := (dC, dI)) (ci := 1) (v := .int (iv ((wl X : Int)))) (C := RX1) (T := TX1) (N := 2) hx hb hts (by decide +kernel) hown hK hP k0 hw.2.1 rfl 1 (by decide) (hts (.fieldLink RX1 15 "ExactFractions$Whole" "used" "I") (by decide +kernel)) (fun _ h9 => h9) rfl dX1_isZero_1 ?_
  refine iw_if_ne (tgt := 11) hx hb dX1_isZero_4 (by decide) ⟨by omega, by omega⟩ (fun c1 => ?_) (fun c1 => ?_)
  ·
    refine lv_iconst (v := iv (0)) hx hb dX1_isZero_11 (by decide) ?_
    exact ef_zret hx hb hr hlocks (by decide) hP hD hS dX1_isZero_12 (by rw [if_neg (fun q => c1 (by rw [wl_0.2 q]; rfl))]; exact ⟨rfl, rfl⟩)
  ·
    refine lv_iconst (v := iv (1)) hx hb dX1_isZero_7 (by decide) ?_
    refine lv_goto (tgt := 12) hx hb dX1_isZero_8 (by decide) ?_
    exact ef_zret hx hb hr hlocks (by decide) hP hD hS dX1_isZero_12 (by rw [if_pos (wl_0.1 (by omega))]; exact ⟨rfl, rfl⟩)
end
section
set_option maxRecDepth 100000 in
set_option maxHeartbeats 4000000 in
/-- length: how many bits -/
theorem c_length (l : Launch) (dC : Nat → ClassId) (dI : Nat → Nat → Nat) {cI : ClassId} {tys : List (ClassId × FieldType)} (ht : tys[0]? = some (cI, .int)) {ws : va_W} {k0 k1 h a X : Nat} (hw : isW ws k0 k1 h a cI (wl X : Int) (wd X)) (hX : wl X ≤ 301) : ef_C l yX1_length wsX1_length ({ frames := 1, cells := 0, slots := 0, locals := 21 } : Room) [.ref h] (dC, dI) vwCl tys ws (fun o w1 => o = some (.int (iv (bl X : Int))) ∧ w1 = ws) := by
  refine ef_C.of (cc := cX1_length) (maxL := 3) (ret := (some .int)) (by decide) rfl (Nat.le_of_ble_eq_true rfl) ?_
  intro p e s m below meth c ls hx hb hml hr hts hown hlocks hK hNX hP hD hS hl
  have hl : lv_has ls 3 [(0, .ref h)] := hl
  have hown : s.vm.findClass RX1 = some m.cls := hown
  generalize hH : s.heap = H at hP ⊢
  have hS : va_S (ef_A ws) s.heap H [] := by rw [← hH]; exact hS
  generalize ([] : List Loc) = locs at hS ⊢
  refine lv_aload_n hx hb dX1_length_0 rfl (lv_at hl 0 rfl) ?_
  refine ef_callV (As := []) (rest := []) ⟨hx, hb, hml, hown, hts⟩ (c_isZero l dC dI ht hw hX) (cwV 0 hts gX1_length_X1_isZero rfl rfl rfl (by decide +kernel) ⟨Nat.le_of_ble_eq_true rfl, Nat.le_of_ble_eq_true rfl⟩) hK hNX hP hD hS k0 hw.2.1 rfl rfl rfl hl.1 rfl (Nat.le_of_ble_eq_true rfl) dX1_length_1 ⟨Nat.zero_le _, Nat.zero_le _⟩ (fun o w1 H locs hq hP hD hS => ?_)
  obtain ⟨rfl, e9⟩ := hq
  rw [e9] at hP hD
  refine W.eq (g2 := F0 m 4 ls [.int (iv (if X = 0 then 1 else 0))]) rfl ?_
  have hc0 : ir (if X = 0 then 1 else 0) := by split <;> exact ⟨by omega, by omega⟩
  refine iw_if_eq (tgt := 9) hx hb dX1_length_4 (by decide) (hc0) (fun c1 => ?_) (fun c1 => ?_)
  ·
    have hX0 : X ≠ 0 := fun q => by rw [if_pos q] at c1; exact absurd c1 (by decide)
    have hwl : wl X ≠ 0 := fun q => hX0 (wl_0.1 q)
    refine lv_aload_n hx hb dX1_length_9 rfl (lv_at hl 0 rfl) ?_
    refine lv_aload_n hx hb dX1_length_10 rfl (lv_at hl 0 rfl) ?_
    refine va_get (D := (dC, dI)) (ci := 1) (v := .int (iv ((wl X : Int)))) (C := RX1) (T := TX1) (N := 2) hx hb hts (by decide +kernel) hown hK hP k0 hw.2.1 rfl 1 (by decide) (hts (.fieldLink RX1 15 "ExactFractions$Whole" "used" "I") (by decide +kernel)) (fun _ h9 => h9) rfl dX1_length_11 ?_
    refine lv_iconst (v := iv (1)) hx hb dX1_length_14 (by decide) ?_
    refine iw_isub hx hb dX1_length_15 ?_
    refine iw_topi (y := iv (((wl X - 1 : Nat) : Int))) (congrArg iv (by omega : ((((wl X : Int)) - (1)) : Int) = (((wl X - 1 : Nat) : Int)))) ?_
    refine ef_callV (As := [.int (iv (((wl X - 1 : Nat) : Int)))]) (rest := []) ⟨hx, hb, hml, hown, hts⟩ (c_wordAt l dC dI ht hw ((wl X - 1 : Nat) : Int) ⟨by omega, by omega⟩) (cwV 1 hts gX1_length_X1_wordAt rfl rfl rfl (by decide +kernel) ⟨Nat.le_of_ble_eq_true rfl, Nat.le_of_ble_eq_true rfl⟩) hK hNX hP hD hS k0 hw.2.1 rfl rfl rfl hl.1 rfl (Nat.le_of_ble_eq_true rfl) dX1_length_16 ⟨Nat.zero_le _, Nat.zero_le _⟩ (fun o w1 H locs hq hP hD hS => ?_)
    obtain ⟨rfl, e9⟩ := hq
    rw [e9] at hP hD
    refine W.eq (g2 := F0 m 19 ls [.int (iv (wz (wd X) ((wl X - 1 : Nat) : Int)))]) rfl ?_
    refine iw_topi (y := iv ((wd X (wl X - 1) : Int))) (by rw [wz_in (by omega)]) ?_
    have htl := wd_lt X (wl X - 1)
    have hbw := bl_wl hX0
    have hb32 : bl (wd X (wl X - 1)) ≤ 32 := bl_le htl
    have htl0 := htl
    generalize hT : wd X (wl X - 1) = T at htl hbw hb32 ⊢
    refine lv_istore_n (lv' := [(1, .int (iv ((T : Int)))), (0, .ref h)]) hx hb dX1_length_19 rfl hl (by decide) rfl (fun ls hl => ?_)
    refine lv_iconst (v := iv (0)) hx hb dX1_length_20 (by decide) ?_
    refine lv_istore_n (lv' := [(2, .int (iv (0))), (1, .int (iv ((T : Int)))), (0, .ref h)]) hx hb dX1_length_21 rfl hl (by decide) rfl (fun ls hl => ?_)
    have loop : ∀ (fuel : Nat) (k : Nat), (k ≤ bl T) → (33 < k + fuel) → ∀ (H : Heap) (locs : List Loc) (ls : Array Slot), va_P (dC, dI) vwCl (ws) H → va_D (ef_A ws) (ws) → va_S (ef_A ws) s.heap H locs → lv_has ls 3 [(0, .ref h), (1, .int (iv ((T : Int)))), (2, .int (iv ((k : Int))))] → W p l e ({ frames := 1, cells := 0, slots := 0, locals := 21 } : Room) s m ([.ref h] : List Value).toArray below meth c H locs 0 0 (ef_R below (dC, dI) vwCl ws (fun o w1 => o = some (.int (iv (bl X : Int))) ∧ w1 = ws) [.ref h] s) (F0 m 22 ls []) := by
      intro fuel
      induction fuel with
      | zero => intro k g1 g2; exfalso; omega
      | succ fuel ih =>
        intro k g1 g2 H locs ls hP hD hS hl
        refine lv_iload_n hx hb dX1_length_22 rfl (lv_at hl 2 rfl) ?_
        refine lv_bipush (v := iv (32)) hx hb dX1_length_23 (by decide) ?_
        refine iw_icmp_ge (tgt := 40) hx hb dX1_length_25 (by decide) ⟨by omega, by omega⟩ ⟨by omega, by omega⟩ (fun c2 => ?_) (fun c2 => ?_)
        ·
          have hk : k = bl T := by omega
          refine lv_bipush (v := iv (32)) hx hb dX1_length_40 (by decide) ?_
          refine lv_aload_n hx hb dX1_length_42 rfl (lv_at hl 0 rfl) ?_
          refine va_get (D := (dC, dI)) (ci := 1) (v := .int (iv ((wl X : Int)))) (C := RX1) (T := TX1) (N := 2) hx hb hts (by decide +kernel) hown hK hP k0 hw.2.1 rfl 1 (by decide) (hts (.fieldLink RX1 15 "ExactFractions$Whole" "used" "I") (by decide +kernel)) (fun _ h9 => h9) rfl dX1_length_43 ?_
          refine lv_iconst (v := iv (1)) hx hb dX1_length_46 (by decide) ?_
          refine iw_isub hx hb dX1_length_47 ?_
          refine iw_imul hx hb dX1_length_48 ?_
          refine lv_iload_n hx hb dX1_length_49 rfl (lv_at hl 2 rfl) ?_
          refine iw_iadd hx hb dX1_length_50 ?_
          exact ef_iret hx hb hr hlocks hP hD hS dX1_length_51 (⟨by rw [hbw, ← hk]; exact congrArg (fun z => some (Value.int (iv z))) (by omega), rfl⟩)
        ·
          refine lv_iload_n hx hb dX1_length_28 rfl (lv_at hl 1 rfl) ?_
          refine lv_iload_n hx hb dX1_length_29 rfl (lv_at hl 2 rfl) ?_
          refine iw_iushr (a := T) (k := k) hx hb htl (by omega) dX1_length_30 ?_
          have hdl : T / 2 ^ k ≤ T := Nat.div_le_self _ _
          have hdv := bl_div T k
          have hdp : (0 : Int) ≤ ((T / 2 ^ k : Nat) : Int) := Int.natCast_nonneg _
          have hdq : ((T / 2 ^ k : Nat) : Int) < 4294967296 := by have := Int.ofNat_lt.mpr (Nat.lt_of_le_of_lt hdl htl); exact this
          have hd0 : ((T / 2 ^ k : Nat) : Int) = 0 ↔ T / 2 ^ k = 0 := Int.natCast_eq_zero
          refine iw_ifu_eq (tgt := 40) hx hb dX1_length_31 (by decide) (hdp) (hdq) (fun c3 => ?_) (fun c3 => ?_)
          ·
            have hk : k = bl T := by
              have q1 := hd0.1 c3
              have q2 : ¬ k < bl T := fun q => hdv.2 q q1
              omega
            refine lv_bipush (v := iv (32)) hx hb dX1_length_40 (by decide) ?_
            refine lv_aload_n hx hb dX1_length_42 rfl (lv_at hl 0 rfl) ?_
            refine va_get (D := (dC, dI)) (ci := 1) (v := .int (iv ((wl X : Int)))) (C := RX1) (T := TX1) (N := 2) hx hb hts (by decide +kernel) hown hK hP k0 hw.2.1 rfl 1 (by decide) (hts (.fieldLink RX1 15 "ExactFractions$Whole" "used" "I") (by decide +kernel)) (fun _ h9 => h9) rfl dX1_length_43 ?_
            refine lv_iconst (v := iv (1)) hx hb dX1_length_46 (by decide) ?_
            refine iw_isub hx hb dX1_length_47 ?_
            refine iw_imul hx hb dX1_length_48 ?_
            refine lv_iload_n hx hb dX1_length_49 rfl (lv_at hl 2 rfl) ?_
            refine iw_iadd hx hb dX1_length_50 ?_
            exact ef_iret hx hb hr hlocks hP hD hS dX1_length_51 (⟨by rw [hbw, ← hk]; exact congrArg (fun z => some (Value.int (iv z))) (by omega), rfl⟩)
          ·
            have c4 := hdv.1 (fun q => c3 (hd0.2 q))
            refine lv_iinc (v := iv (((k + 1 : Nat) : Int))) (lv' := [(2, .int (iv (((k + 1 : Nat) : Int)))), (0, .ref h), (1, .int (iv ((T : Int))))]) hx hb dX1_length_34 hl (k := 2) rfl (iv_inc k) (by decide) rfl (fun ls hl => ?_)
            refine lv_goto (tgt := 22) hx hb dX1_length_37 (by decide) ?_
            exact ih (k + 1) (by omega) (by omega) H locs ls hP hD hS (lv_sub hl [1, 2, 0] rfl)
    exact loop (34) (0) (Nat.zero_le _) (by omega) H locs ls hP hD hS (lv_sub hl [2, 1, 0] rfl)
  ·
    have hX0 : X = 0 := by
      by_cases q : X = 0
      · exact q
      · rw [if_neg q] at c1; exact absurd rfl c1
    refine lv_iconst (v := iv (0)) hx hb dX1_length_7 (by decide) ?_
    exact ef_iret hx hb hr hlocks hP hD hS dX1_length_8 (by rw [bl_0.2 hX0]; exact ⟨rfl, rfl⟩)

set_option maxRecDepth 100000 in
set_option maxHeartbeats 4000000 in
/-- order: the sign of the comparison -/
theorem c_order (l : Launch) (dC : Nat → ClassId) (dI : Nat → Nat → Nat) {cI : ClassId} {tys : List (ClassId × FieldType)} (ht : tys[0]? = some (cI, .int)) {ws : va_W} {k0 k1 h a X : Nat} (hw : isW ws k0 k1 h a cI (wl X : Int) (wd X)) (hX : wl X ≤ 301) {j0 j1 g b Y : Nat} (ho : isW ws j0 j1 g b cI (wl Y : Int) (wd Y)) (hY : wl Y ≤ 301) : ef_C l yX1_order wsX1_order ({ frames := 2, cells := 0, slots := 0, locals := 42 } : Room) [.ref h, .ref g] (dC, dI) vwCl tys ws (fun o w1 => o = some (.int (iv (zc X Y))) ∧ w1 = ws) := by
  refine ef_C.of (cc := cX1_order) (maxL := 5) (ret := (some .int)) (by decide) rfl (Nat.le_of_ble_eq_true rfl) ?_
  intro p e s m below meth c ls hx hb hml hr hts hown hlocks hK hNX hP hD hS hl
  have hl : lv_has ls 5 [(0, .ref h), (1, .ref g)] := hl
  have hown : s.vm.findClass RX1 = some m.cls := hown
  generalize hH : s.heap = H at hP ⊢
  have hS : va_S (ef_A ws) s.heap H [] := by rw [← hH]; exact hS
  generalize ([] : List Loc) = locs at hS ⊢
  refine lv_aload_n hx hb dX1_order_0 rfl (lv_at hl 0 rfl) ?_
  refine va_get (D := (dC, dI)) (ci := 1) (v := .int (iv ((wl X : Int)))) (C := RX1) (T := TX1) (N := 2) hx hb hts (by decide +kernel) hown hK hP k0 hw.2.1 rfl 1 (by decide) (hts (.fieldLink RX1 15 "ExactFractions$Whole" "used" "I") (by decide +kernel)) (fun _ h9 => h9) rfl dX1_order_1 ?_
  refine lv_aload_n hx hb dX1_order_4 rfl (lv_at hl 1 rfl) ?_
  refine va_get (D := (dC, dI)) (ci := 1) (v := .int (iv ((wl Y : Int)))) (C := RX1) (T := TX1) (N := 2) hx hb hts (by decide +kernel) hown hK hP j0 ho.2.1 rfl 1 (by decide) (hts (.fieldLink RX1 15 "ExactFractions$Whole" "used" "I") (by decide +kernel)) (fun _ h9 => h9) rfl dX1_order_5 ?_
  refine iw_mmax hx hb (hml.trans hl.1.symm) hown (hts (.methodLink RX1 39 Lib.Math.max.name) (by decide +kernel)) (hts (.static Lib.Math.max.name) (by decide +kernel)) (hts (.initialized "java/lang/Math") (by decide +kernel)) (hts (.code Lib.Math.max.name Lib.Math.max.code 2 (some .int)) (by decide +kernel)) (Nat.le_of_ble_eq_true rfl) (Nat.le_of_ble_eq_true rfl) (Nat.zero_le _) (Nat.zero_le _) ⟨by omega, by omega⟩ ⟨by omega, by omega⟩ dX1_order_8 ?_
  refine iw_topi (y := iv (((max (wl X) (wl Y) : Nat) : Int))) (congrArg iv (by split <;> omega : ((if ((wl X : Int)) < ((wl Y : Int)) then ((wl Y : Int)) else ((wl X : Int))) : Int) = (((max (wl X) (wl Y) : Nat) : Int)))) ?_
  obtain ⟨M, hM⟩ : ∃ M, M = max (wl X) (wl Y) := ⟨_, rfl⟩
  rw [← hM]
  refine lv_iconst (v := iv (1)) hx hb dX1_order_11 (by decide) ?_
  refine iw_isub hx hb dX1_order_12 ?_
  refine lv_istore_n (lv' := [(2, .int (iv (((M : Int)) - (1)))), (0, .ref h), (1, .ref g)]) hx hb dX1_order_13 rfl hl (by decide) rfl (fun ls hl => ?_)
  have loop : ∀ (fuel : Nat) (n : Nat), (n ≤ 301) → (X / 2 ^ (32 * n) = Y / 2 ^ (32 * n)) → (n < fuel) → ∀ (H : Heap) (locs : List Loc) (ls : Array Slot), va_P (dC, dI) vwCl (ws) H → va_D (ef_A ws) (ws) → va_S (ef_A ws) s.heap H locs → lv_has ls 5 [(0, .ref h), (1, .ref g), (2, .int (iv ((n : Int) - 1)))] → W p l e ({ frames := 2, cells := 0, slots := 0, locals := 42 } : Room) s m ([.ref h, .ref g] : List Value).toArray below meth c H locs 0 0 (ef_R below (dC, dI) vwCl ws (fun o w1 => o = some (.int (iv (zc X Y))) ∧ w1 = ws) [.ref h, .ref g] s) (F0 m 14 ls []) := by
    intro fuel
    induction fuel with
    | zero => intro n g1 g2 g3; exfalso; omega
    | succ fuel ih =>
      intro n g1 g2 g3 H locs ls hP hD hS hl
      refine lv_iload_n hx hb dX1_order_14 rfl (lv_at hl 2 rfl) ?_
      refine iw_if_lt (tgt := 54) hx hb dX1_order_15 (by decide) ⟨by omega, by omega⟩ (fun c1 => ?_) (fun c1 => ?_)
      ·
        have n0 : n = 0 := by omega
        subst n0
        rw [Nat.mul_zero, Nat.pow_zero, Nat.div_one, Nat.div_one] at g2
        refine lv_iconst (v := iv (0)) hx hb dX1_order_54 (by decide) ?_
        exact ef_iret hx hb hr hlocks hP hD hS dX1_order_55 (by unfold zc; rw [if_neg (by omega), if_pos (by omega)]; exact ⟨rfl, rfl⟩)
      ·
        obtain ⟨r, rfl⟩ : ∃ r : Nat, n = r + 1 := ⟨n - 1, by omega⟩
        have hdx := wd_div X r
        have hdy := wd_div Y r
        have hx1 := wd_lt X r
        have hy1 := wd_lt Y r
        refine lv_aload_n hx hb dX1_order_18 rfl (lv_at hl 0 rfl) ?_
        refine lv_iload_n hx hb dX1_order_19 rfl (lv_at hl 2 rfl) ?_
        refine iw_topi (y := iv ((r : Int))) (congrArg iv (by omega : ((((r + 1 : Nat) : Int) - 1) : Int) = ((r : Int)))) ?_
        refine ef_callV (As := [.int (iv ((r : Int)))]) (rest := []) ⟨hx, hb, hml, hown, hts⟩ (c_valueAt l dC dI ht hw (wd_lt X) (r : Int) ⟨by omega, by omega⟩) (cwV 1 hts gX1_order_X1_valueAt rfl rfl rfl (by decide +kernel) ⟨Nat.le_of_ble_eq_true rfl, Nat.le_of_ble_eq_true rfl⟩) hK hNX hP hD hS k0 hw.2.1 rfl rfl rfl hl.1 rfl (Nat.le_of_ble_eq_true rfl) dX1_order_20 ⟨Nat.zero_le _, Nat.zero_le _⟩ (fun o w1 H locs hq hP hD hS => ?_)
        obtain ⟨rfl, e9⟩ := hq
        rw [e9] at hP hD
        refine W.eq (g2 := F0 m 23 ls [.long (jv (wz (wd X) (r : Int)))]) rfl ?_
        refine iw_topl (y := jv ((wd X r : Int))) (by rw [wz_in (by omega)]) ?_
        refine lv_aload_n hx hb dX1_order_23 rfl (lv_at hl 1 rfl) ?_
        refine lv_iload_n hx hb dX1_order_24 rfl (lv_at hl 2 rfl) ?_
        refine iw_topi (y := iv ((r : Int))) (congrArg iv (by omega : ((((r + 1 : Nat) : Int) - 1) : Int) = ((r : Int)))) ?_
        refine ef_callV (As := [.int (iv ((r : Int)))]) (rest := [.long (jv ((wd X r : Int)))]) ⟨hx, hb, hml, hown, hts⟩ (c_valueAt l dC dI ht ho (wd_lt Y) (r : Int) ⟨by omega, by omega⟩) (cwV 1 hts gX1_order_X1_valueAt rfl rfl rfl (by decide +kernel) ⟨Nat.le_of_ble_eq_true rfl, Nat.le_of_ble_eq_true rfl⟩) hK hNX hP hD hS j0 ho.2.1 rfl rfl rfl hl.1 rfl (Nat.le_of_ble_eq_true rfl) dX1_order_25 ⟨Nat.zero_le _, Nat.zero_le _⟩ (fun o w1 H locs hq hP hD hS => ?_)
        obtain ⟨rfl, e9⟩ := hq
        rw [e9] at hP hD
        refine W.eq (g2 := F0 m 28 ls [.long (jv (wz (wd Y) (r : Int))), .long (jv ((wd X r : Int)))]) rfl ?_
        refine iw_topl (y := jv ((wd Y r : Int))) (by rw [wz_in (by omega)]) ?_
        refine iw_lsub hx hb dX1_order_28 ?_
        refine lv_lstore_n (lv' := [(3, .long (jv (((wd X r : Int)) - ((wd Y r : Int))))), (0, .ref h), (1, .ref g), (2, .int (iv (((r + 1 : Nat) : Int) - 1)))]) hx hb dX1_order_29 rfl hl (by decide) rfl (fun ls hl => ?_)
        refine lv_lload_n hx hb dX1_order_30 rfl (lv_at hl 0 rfl) ?_
        refine lv_lconst (v := jv (0)) hx hb dX1_order_31 (by decide) ?_
        refine iw_lcmp hx hb (⟨by omega, by omega⟩) (⟨by omega, by omega⟩) dX1_order_32 ?_
        refine iw_if_eq (tgt := 48) hx hb dX1_order_33 (by decide) (ir_zc _ _) (fun c2 => ?_) (fun c2 => ?_)
        ·
          have c3 := (zc_0 _ _).1 c2
          refine lv_iinc (v := iv ((r : Int) - 1)) (lv' := [(2, .int (iv ((r : Int) - 1))), (3, .long (jv (((wd X r : Int)) - ((wd Y r : Int))))), (0, .ref h), (1, .ref g)]) hx hb dX1_order_48 hl (k := 3) rfl (by rw [show ((r + 1 : Nat) : Int) - 1 = (r : Int) by omega]; exact iv_add (r : Int) (-1)) (by decide) rfl (fun ls hl => ?_)
          refine lv_goto (tgt := 14) hx hb dX1_order_51 (by decide) ?_
          exact ih (r) (by omega) (by rw [hdx, hdy, g2]; omega) (by omega) H locs ls hP hD hS (lv_sub hl [2, 3, 0] rfl)
        ·
          have c3 : ((wd X r : Int) - (wd Y r : Int)) ≠ 0 := fun q => c2 ((zc_0 _ _).2 q)
          refine lv_lload_n hx hb dX1_order_36 rfl (lv_at hl 0 rfl) ?_
          refine lv_lconst (v := jv (0)) hx hb dX1_order_37 (by decide) ?_
          refine iw_lcmp hx hb (⟨by omega, by omega⟩) (⟨by omega, by omega⟩) dX1_order_38 ?_
          refine iw_if_ge (tgt := 46) hx hb dX1_order_39 (by decide) (ir_zc _ _) (fun c4 => ?_) (fun c4 => ?_)
          ·
            have c5 := (zc_ge _ _).1 c4
            have c6 : Y < X := div_lt_of (P := 2 ^ (32 * r)) (by rw [hdx, hdy, g2]; omega)
            refine lv_iconst (v := iv (1)) hx hb dX1_order_46 (by decide) ?_
            exact ef_iret hx hb hr hlocks hP hD hS dX1_order_47 (by rw [zc_gt (by omega)]; exact ⟨rfl, rfl⟩)
          ·
            have c5 : ¬ (0 ≤ (wd X r : Int) - (wd Y r : Int)) := fun q => absurd ((zc_ge _ _).2 q) (by omega)
            have c6 : X < Y := div_lt_of (P := 2 ^ (32 * r)) (by rw [hdx, hdy, g2]; omega)
            refine lv_iconst (v := iv (-1)) hx hb dX1_order_42 (by decide) ?_
            refine lv_goto (tgt := 47) hx hb dX1_order_43 (by decide) ?_
            exact ef_iret hx hb hr hlocks hP hD hS dX1_order_47 (by rw [zc_lt (by omega)]; exact ⟨rfl, rfl⟩)
  exact loop (302) (M) (by omega) (by rw [Nat.div_eq_of_lt (Nat.lt_of_lt_of_le (wl_lt X) (Nat.pow_le_pow_right (by decide) (by omega))), Nat.div_eq_of_lt (Nat.lt_of_lt_of_le (wl_lt Y) (Nat.pow_le_pow_right (by decide) (by omega)))]) (by omega) H locs ls hP hD hS (lv_sub hl [1, 2, 0] rfl)

set_option maxRecDepth 100000 in
set_option maxHeartbeats 4000000 in
/-- become(v): v without sign -/
theorem c_become (l : Launch) (dC : Nat → ClassId) (dI : Nat → Nat → Nat) {cI : ClassId} {tys : List (ClassId × FieldType)} (ht : tys[0]? = some (cI, .int)) {ws : va_W} {k0 k1 h a n : Nat} {F : Nat → Nat} (hw : isW ws k0 k1 h a cI (n : Int) F) (hn : n ≤ 301) (hF : ∀ j, F j < 4294967296) (hz : ∀ j, n ≤ j → j < 301 → F j = 0) (v : Nat) (hv : v < 18446744073709551616) : ef_C l yX1_become wsX1_become ({ frames := 2, cells := 0, slots := 0, locals := 45 } : Room) [.ref h, .long (jv ((v : Int)))] (dC, dI) vwCl tys ws (fun o w1 => o = none ∧ w1 = wW ws k0 k1 h a cI (wl (v) : Int) (wd (v))) := by
  refine ef_C.of (cc := cX1_become) (maxL := 3) (ret := none) (by decide) rfl (Nat.le_of_ble_eq_true rfl) ?_
  intro p e s m below meth c ls hx hb hml hr hts hown hlocks hK hNX hP hD hS hl
  have hl : lv_has ls 3 [(0, .ref h), (1, .long (jv ((v : Int))))] := hl
  have hown : s.vm.findClass RX1 = some m.cls := hown
  generalize hH : s.heap = H at hP ⊢
  have hS : va_S (ef_A ws) s.heap H [] := by rw [← hH]; exact hS
  generalize ([] : List Loc) = locs at hS ⊢
  have hw0 := hw
  have hP := efP0 hw0 hP
  have hD := efD0 hw0 hD
  have hw : isW (wW ws k0 k1 h a cI ((n : Int)) (F)) k0 k1 h a cI ((n : Int)) (F) := hw0.w _ _
  refine lv_aload_n hx hb dX1_become_0 rfl (lv_at hl 0 rfl) ?_
  refine lv_iconst (v := iv (0)) hx hb dX1_become_1 (by decide) ?_
  refine lv_lload_n hx hb dX1_become_2 rfl (lv_at hl 1 rfl) ?_
  refine ef_callV (As := [.int (iv (0)), .long (jv ((v : Int)))]) (rest := []) ⟨hx, hb, hml, hown, hts⟩ (c_put l dC dI ht hw 0 ⟨by omega, by omega⟩ (v : Int)) (cwV 2 hts gX1_become_X1_put rfl rfl rfl (by decide +kernel) ⟨Nat.le_of_ble_eq_true rfl, Nat.le_of_ble_eq_true rfl⟩) hK hNX hP hD hS k0 hw.2.1 rfl rfl rfl hl.1 rfl (Nat.le_of_ble_eq_true rfl) dX1_become_3 ⟨Nat.zero_le _, Nat.zero_le _⟩ (fun o w1 H locs hq hP hD hS => ?_)
  obtain ⟨rfl, rfl⟩ := hq
  have hP := efP2 hw0.1 hP
  have hD := efD2 hw0.1 hD
  have hw : isW (wW ws k0 k1 h a cI ((n : Int)) (wp F 0 (v : Int))) k0 k1 h a cI ((n : Int)) (wp F 0 (v : Int)) := hw0.w _ _
  refine W.eq (g2 := F0 m 6 ls []) rfl ?_
  refine lv_aload_n hx hb dX1_become_6 rfl (lv_at hl 0 rfl) ?_
  refine lv_iconst (v := iv (1)) hx hb dX1_become_7 (by decide) ?_
  refine lv_lload_n hx hb dX1_become_8 rfl (lv_at hl 1 rfl) ?_
  refine lv_bipush (v := iv (32)) hx hb dX1_become_9 (by decide) ?_
  refine iw_lushr hx hb (by omega) (by omega) dX1_become_11 ?_
  refine ef_callV (As := [.int (iv (1)), .long (jv (((v : Int)) / 4294967296))]) (rest := []) ⟨hx, hb, hml, hown, hts⟩ (c_put l dC dI ht hw 1 ⟨by omega, by omega⟩ ((v : Int) / 4294967296)) (cwV 2 hts gX1_become_X1_put rfl rfl rfl (by decide +kernel) ⟨Nat.le_of_ble_eq_true rfl, Nat.le_of_ble_eq_true rfl⟩) hK hNX hP hD hS k0 hw.2.1 rfl rfl rfl hl.1 rfl (Nat.le_of_ble_eq_true rfl) dX1_become_12 ⟨Nat.zero_le _, Nat.zero_le _⟩ (fun o w1 H locs hq hP hD hS => ?_)
  obtain ⟨rfl, rfl⟩ := hq
  have hP := efP2 hw0.1 hP
  have hD := efD2 hw0.1 hD
  have hw : isW (wW ws k0 k1 h a cI ((n : Int)) (wp (wp F 0 (v : Int)) 1 ((v : Int) / 4294967296))) k0 k1 h a cI ((n : Int)) (wp (wp F 0 (v : Int)) 1 ((v : Int) / 4294967296)) := hw0.w _ _
  refine W.eq (g2 := F0 m 15 ls []) rfl ?_
  have hF1 := wp_lt (wp_lt hF 0 (v : Int)) 1 ((v : Int) / 4294967296)
  have hz1 : ∀ j, 2 ≤ j → n ≤ j → j < 301 → wp (wp F 0 (v : Int)) 1 ((v : Int) / 4294967296) j = 0 := fun j q1 q2 q3 => by rw [wp_ne (by omega), wp_ne (by omega)]; exact hz j q2 q3
  have hv1 : nv (wp (wp F 0 (v : Int)) 1 ((v : Int) / 4294967296)) (min 2 301) = v := become_val F v hv
  refine lv_aload_n hx hb dX1_become_15 rfl (lv_at hl 0 rfl) ?_
  refine lv_iconst (v := iv (2)) hx hb dX1_become_16 (by decide) ?_
  refine iw_topi (y := iv (((2 : Nat) : Int))) (congrArg iv (by omega : ((2) : Int) = (((2 : Nat) : Int)))) ?_
  refine ef_callV (As := [.int (iv (((2 : Nat) : Int)))]) (rest := []) ⟨hx, hb, hml, hown, hts⟩ (c_settle l dC dI ht hw hn hF1 2 (by omega) hz1) (cwV 1 hts gX1_become_X1_settle rfl rfl rfl (by decide +kernel) ⟨Nat.le_of_ble_eq_true rfl, Nat.le_of_ble_eq_true rfl⟩) hK hNX hP hD hS k0 hw.2.1 rfl rfl rfl hl.1 rfl (Nat.le_of_ble_eq_true rfl) dX1_become_17 ⟨Nat.zero_le _, Nat.zero_le _⟩ (fun o w1 H locs hq hP hD hS => ?_)
  rw [hv1] at hq
  obtain ⟨rfl, rfl⟩ := hq
  have hP := efP2 hw0.1 hP
  have hD := efD2 hw0.1 hD
  have hw : isW (wW ws k0 k1 h a cI ((wl v : Int)) (wd v)) k0 k1 h a cI ((wl v : Int)) (wd v) := hw0.w _ _
  refine W.eq (g2 := F0 m 20 ls []) rfl ?_
  exact ef_vret hx hb hr hlocks hP hD hS dX1_become_20 (⟨rfl, rfl⟩)

set_option maxRecDepth 100000 in
set_option maxHeartbeats 4000000 in
/-- copy(other) -/
theorem c_copy (l : Launch) (dC : Nat → ClassId) (dI : Nat → Nat → Nat) {cI : ClassId} {tys : List (ClassId × FieldType)} (ht : tys[0]? = some (cI, .int)) {ws : va_W} {k0 k1 h a n : Nat} {F : Nat → Nat} (hw : isW ws k0 k1 h a cI (n : Int) F) (hn : n ≤ 301) (hF : ∀ j, F j < 4294967296) (hz : ∀ j, n ≤ j → j < 301 → F j = 0) {j0 j1 g b Y : Nat} (ho : isW ws j0 j1 g b cI (wl Y : Int) (wd Y)) (hY : wl Y ≤ 301) (hoa : apt k0 k1 j0 j1) : ef_C l yX1_copy wsX1_copy ({ frames := 2, cells := 0, slots := 0, locals := 45 } : Room) [.ref h, .ref g] (dC, dI) vwCl tys ws (fun o w1 => o = none ∧ w1 = wW ws k0 k1 h a cI (wl (Y) : Int) (wd (Y))) := by
  refine ef_C.of (cc := cX1_copy) (maxL := 3) (ret := none) (by decide) rfl (Nat.le_of_ble_eq_true rfl) ?_
  intro p e s m below meth c ls hx hb hml hr hts hown hlocks hK hNX hP hD hS hl
  have hl : lv_has ls 3 [(0, .ref h), (1, .ref g)] := hl
  have hown : s.vm.findClass RX1 = some m.cls := hown
  generalize hH : s.heap = H at hP ⊢
  have hS : va_S (ef_A ws) s.heap H [] := by rw [← hH]; exact hS
  generalize ([] : List Loc) = locs at hS ⊢
  have hw0 := hw
  have ho0 := ho
  have hP := efP0 hw0 hP
  have hD := efD0 hw0 hD
  have hw : isW (wW ws k0 k1 h a cI ((n : Int)) (F)) k0 k1 h a cI ((n : Int)) (F) := hw0.w _ _
  have ho := ho0.o hoa (wo h a ((n : Int))) (wa cI a (F))
  refine lv_iconst (v := iv (0)) hx hb dX1_copy_0 (by decide) ?_
  refine lv_istore_n (lv' := [(2, .int (iv (0))), (0, .ref h), (1, .ref g)]) hx hb dX1_copy_1 rfl hl (by decide) rfl (fun ls hl => ?_)
  have loop : ∀ (fuel : Nat) (i : Nat) (G : Nat → Nat), (i ≤ wl Y) → (∀ j, G j < 4294967296) → (∀ j, j < i → G j = wd Y j) → (∀ j, i ≤ j → G j = F j) → (wl Y < i + fuel) → ∀ (H : Heap) (locs : List Loc) (ls : Array Slot), va_P (dC, dI) vwCl (wW ws k0 k1 h a cI (n : Int) G) H → va_D (ef_A ws) (wW ws k0 k1 h a cI (n : Int) G) → va_S (ef_A ws) s.heap H locs → lv_has ls 3 [(0, .ref h), (1, .ref g), (2, .int (iv ((i : Int))))] → W p l e ({ frames := 2, cells := 0, slots := 0, locals := 45 } : Room) s m ([.ref h, .ref g] : List Value).toArray below meth c H locs 0 0 (ef_R below (dC, dI) vwCl ws (fun o w1 => o = none ∧ w1 = wW ws k0 k1 h a cI (wl (Y) : Int) (wd (Y))) [.ref h, .ref g] s) (F0 m 2 ls []) := by
    intro fuel
    induction fuel with
    | zero => intro i G h1 h2 h3 h4 h5; exfalso; omega
    | succ fuel ih =>
      intro i G h1 h2 h3 h4 h5 H locs ls hP hD hS hl
      have hw : isW (wW ws k0 k1 h a cI ((n : Int)) (G)) k0 k1 h a cI ((n : Int)) (G) := hw0.w _ _
      have ho := ho0.o hoa (wo h a ((n : Int))) (wa cI a (G))
      refine lv_iload_n hx hb dX1_copy_2 rfl (lv_at hl 2 rfl) ?_
      refine lv_aload_n hx hb dX1_copy_3 rfl (lv_at hl 1 rfl) ?_
      refine va_get (D := (dC, dI)) (ci := 1) (v := .int (iv ((wl Y : Int)))) (C := RX1) (T := TX1) (N := 2) hx hb hts (by decide +kernel) hown hK hP j0 ho.2.1 rfl 1 (by decide) (hts (.fieldLink RX1 15 "ExactFractions$Whole" "used" "I") (by decide +kernel)) (fun _ h9 => h9) rfl dX1_copy_4 ?_
      refine iw_icmp_ge (tgt := 27) hx hb dX1_copy_7 (by decide) ⟨by omega, by omega⟩ ⟨by omega, by omega⟩ (fun c1 => ?_) (fun c1 => ?_)
      ·
        have hi : i = wl Y := by omega
        have hv : nv G (min (wl Y) 301) = Y := by rw [show min (wl Y) 301 = wl Y by omega, nv_cong (G := wd Y) (fun j hj => h3 j (by omega)), nv_self]
        refine lv_aload_n hx hb dX1_copy_27 rfl (lv_at hl 0 rfl) ?_
        refine lv_aload_n hx hb dX1_copy_28 rfl (lv_at hl 1 rfl) ?_
        refine va_get (D := (dC, dI)) (ci := 1) (v := .int (iv ((wl Y : Int)))) (C := RX1) (T := TX1) (N := 2) hx hb hts (by decide +kernel) hown hK hP j0 ho.2.1 rfl 1 (by decide) (hts (.fieldLink RX1 15 "ExactFractions$Whole" "used" "I") (by decide +kernel)) (fun _ h9 => h9) rfl dX1_copy_29 ?_
        refine ef_callV (As := [.int (iv ((wl Y : Int)))]) (rest := []) ⟨hx, hb, hml, hown, hts⟩ (c_settle l dC dI ht hw hn h2 (wl Y) (by omega) (fun j q1 q2 q3 => by rw [h4 j (by omega)]; exact hz j q2 q3)) (cwV 1 hts gX1_copy_X1_settle rfl rfl rfl (by decide +kernel) ⟨Nat.le_of_ble_eq_true rfl, Nat.le_of_ble_eq_true rfl⟩) hK hNX hP hD hS k0 hw.2.1 rfl rfl rfl hl.1 rfl (Nat.le_of_ble_eq_true rfl) dX1_copy_32 ⟨Nat.zero_le _, Nat.zero_le _⟩ (fun o w1 H locs hq hP hD hS => ?_)
        rw [hv] at hq
        obtain ⟨rfl, rfl⟩ := hq
        have hP := efP2 hw0.1 hP
        have hD := efD2 hw0.1 hD
        have hw : isW (wW ws k0 k1 h a cI ((wl Y : Int)) (wd Y)) k0 k1 h a cI ((wl Y : Int)) (wd Y) := hw0.w _ _
        have ho := ho0.o hoa (wo h a ((wl Y : Int))) (wa cI a (wd Y))
        refine W.eq (g2 := F0 m 35 ls []) rfl ?_
        exact ef_vret hx hb hr hlocks hP hD hS dX1_copy_35 (⟨rfl, rfl⟩)
      ·
        refine lv_aload_n hx hb dX1_copy_10 rfl (lv_at hl 0 rfl) ?_
        refine lv_iload_n hx hb dX1_copy_11 rfl (lv_at hl 2 rfl) ?_
        refine lv_aload_n hx hb dX1_copy_12 rfl (lv_at hl 1 rfl) ?_
        refine lv_iload_n hx hb dX1_copy_13 rfl (lv_at hl 2 rfl) ?_
        refine ef_callV (As := [.int (iv ((i : Int)))]) (rest := [.int (iv ((i : Int))), .ref h]) ⟨hx, hb, hml, hown, hts⟩ (c_wordAt l dC dI ht ho (i : Int) ⟨by omega, by omega⟩) (cwV 1 hts gX1_copy_X1_wordAt rfl rfl rfl (by decide +kernel) ⟨Nat.le_of_ble_eq_true rfl, Nat.le_of_ble_eq_true rfl⟩) hK hNX hP hD hS j0 ho.2.1 rfl rfl rfl hl.1 rfl (Nat.le_of_ble_eq_true rfl) dX1_copy_14 ⟨Nat.zero_le _, Nat.zero_le _⟩ (fun o w1 H locs hq hP hD hS => ?_)
        obtain ⟨rfl, e9⟩ := hq
        rw [e9] at hP hD
        refine W.eq (g2 := F0 m 17 ls [.int (iv (wz (wd Y) (i : Int))), .int (iv ((i : Int))), .ref h]) rfl ?_
        refine iw_topi (y := iv ((wd Y i : Int))) (by rw [wz_in (by omega)]) ?_
        refine iw_topi (y := iv ((iv (wd Y i)).toInt)) ((iv_of _).symm) ?_
        refine iw_i2l hx hb (ir_of _) dX1_copy_17 ?_
        refine ef_callV (As := [.int (iv ((i : Int))), .long (jv ((iv (wd Y i)).toInt))]) (rest := []) ⟨hx, hb, hml, hown, hts⟩ (c_put l dC dI ht hw (i : Int) ⟨by omega, by omega⟩ ((iv (wd Y i)).toInt)) (cwV 2 hts gX1_copy_X1_put rfl rfl rfl (by decide +kernel) ⟨Nat.le_of_ble_eq_true rfl, Nat.le_of_ble_eq_true rfl⟩) hK hNX hP hD hS k0 hw.2.1 rfl rfl rfl hl.1 rfl (Nat.le_of_ble_eq_true rfl) dX1_copy_18 ⟨Nat.zero_le _, Nat.zero_le _⟩ (fun o w1 H locs hq hP hD hS => ?_)
        obtain ⟨rfl, rfl⟩ := hq
        have hP := efP2 hw0.1 hP
        have hD := efD2 hw0.1 hD
        have hw : isW (wW ws k0 k1 h a cI ((n : Int)) (wp G (i : Int) ((iv (wd Y i)).toInt))) k0 k1 h a cI ((n : Int)) (wp G (i : Int) ((iv (wd Y i)).toInt)) := hw0.w _ _
        have ho := ho0.o hoa (wo h a ((n : Int))) (wa cI a (wp G (i : Int) ((iv (wd Y i)).toInt)))
        refine W.eq (g2 := F0 m 21 ls []) rfl ?_
        refine lv_iinc (v := iv (((i + 1 : Nat) : Int))) (lv' := [(2, .int (iv (((i + 1 : Nat) : Int)))), (0, .ref h), (1, .ref g)]) hx hb dX1_copy_21 hl (k := 2) rfl (iv_inc i) (by decide) rfl (fun ls hl => ?_)
        refine lv_goto (tgt := 2) hx hb dX1_copy_24 (by decide) ?_
        have hyl := wd_lt Y i
        exact ih (i + 1) (wp G (i : Int) ((iv (wd Y i)).toInt)) (by omega) (wp_lt h2 _ _) (fun j hj => by
              by_cases e : j = i
              · subst e; rw [wp_in _ (by omega), ef_up_at, iv_emod]; omega
              · rw [wp_ne (by omega)]; exact h3 j (by omega)) (fun j hj => by rw [wp_ne (by omega)]; exact h4 j (by omega)) (by omega) H locs ls hP hD hS (lv_sub hl [1, 2, 0] rfl)
  exact loop (wl Y + 1) (0) (F) (Nat.zero_le _) (hF) (fun j hj => absurd hj (by omega)) (fun j _ => rfl) (by omega) H locs ls hP hD hS (lv_sub hl [1, 2, 0] rfl)
end
section
set_option maxRecDepth 100000 in
set_option maxHeartbeats 4000000 in
/-- becomeMultiple(other, mu, mo) -/
theorem c_multiple (l : Launch) (dC : Nat → ClassId) (dI : Nat → Nat → Nat) {cI : ClassId} {tys : List (ClassId × FieldType)} (ht : tys[0]? = some (cI, .int)) {ws : va_W} {k0 k1 h a n : Nat} {F : Nat → Nat} (hw : isW ws k0 k1 h a cI (n : Int) F) (hn : n ≤ 301) (hF : ∀ j, F j < 4294967296) (hz : ∀ j, n ≤ j → j < 301 → F j = 0) {j0 j1 g b Y : Nat} (ho : isW ws j0 j1 g b cI (wl Y : Int) (wd Y)) (hY : wl Y ≤ 300) (hoa : apt k0 k1 j0 j1) (mu mo : Nat) (hmu : mu ≤ 1000000) (hmo : mo ≤ 1000000) : ef_C l yX1_becomeMultiple wsX1_becomeMultiple ({ frames := 2, cells := 0, slots := 0, locals := 45 } : Room) [.ref h, .ref g, .int (iv ((mu : Int))), .int (iv ((mo : Int)))] (dC, dI) vwCl tys ws (fun o w1 => o = none ∧ w1 = wW ws k0 k1 h a cI (wl (Y * mu + mo) : Int) (wd (Y * mu + mo))) := by
  refine ef_C.of (cc := cX1_becomeMultiple) (maxL := 7) (ret := none) (by decide) rfl (Nat.le_of_ble_eq_true rfl) ?_
  intro p e s m below meth c ls hx hb hml hr hts hown hlocks hK hNX hP hD hS hl
  have hl : lv_has ls 7 [(0, .ref h), (1, .ref g), (2, .int (iv ((mu : Int)))), (3, .int (iv ((mo : Int))))] := hl
  have hown : s.vm.findClass RX1 = some m.cls := hown
  generalize hH : s.heap = H at hP ⊢
  have hS : va_S (ef_A ws) s.heap H [] := by rw [← hH]; exact hS
  generalize ([] : List Loc) = locs at hS ⊢
  have hw0 := hw
  have ho0 := ho
  have hP := efP0 hw0 hP
  have hD := efD0 hw0 hD
  have hw : isW (wW ws k0 k1 h a cI ((n : Int)) (F)) k0 k1 h a cI ((n : Int)) (F) := hw0.w _ _
  have ho := ho0.o hoa (wo h a ((n : Int))) (wa cI a (F))
  refine lv_iload_n hx hb dX1_becomeMultiple_0 rfl (lv_at hl 3 rfl) ?_
  refine iw_i2l hx hb ⟨by omega, by omega⟩ dX1_becomeMultiple_1 ?_
  refine lv_lstore (lv' := [(4, .long (jv ((mo : Int)))), (0, .ref h), (1, .ref g), (2, .int (iv ((mu : Int)))), (3, .int (iv ((mo : Int))))]) hx hb dX1_becomeMultiple_2 hl (by decide) rfl (fun ls hl => ?_)
  refine lv_iconst (v := iv (0)) hx hb dX1_becomeMultiple_4 (by decide) ?_
  refine lv_istore (lv' := [(6, .int (iv (0))), (4, .long (jv ((mo : Int)))), (0, .ref h), (1, .ref g), (2, .int (iv ((mu : Int)))), (3, .int (iv ((mo : Int))))]) hx hb dX1_becomeMultiple_5 hl (by decide) rfl (fun ls hl => ?_)
  have loop : ∀ (fuel : Nat) (i : Nat) (cy : Nat) (G : Nat → Nat), (i ≤ wl Y) → (cy < 4294967296) → (∀ j, G j < 4294967296) → (nv G i + cy * 2 ^ (32 * i) = nv (wd Y) i * mu + mo) → (∀ j, i ≤ j → G j = F j) → (wl Y < i + fuel) → ∀ (H : Heap) (locs : List Loc) (ls : Array Slot), va_P (dC, dI) vwCl (wW ws k0 k1 h a cI (n : Int) G) H → va_D (ef_A ws) (wW ws k0 k1 h a cI (n : Int) G) → va_S (ef_A ws) s.heap H locs → lv_has ls 7 [(0, .ref h), (1, .ref g), (2, .int (iv ((mu : Int)))), (3, .int (iv ((mo : Int)))), (4, .long (jv ((cy : Int)))), (6, .int (iv ((i : Int))))] → W p l e ({ frames := 2, cells := 0, slots := 0, locals := 45 } : Room) s m ([.ref h, .ref g, .int (iv ((mu : Int))), .int (iv ((mo : Int)))] : List Value).toArray below meth c H locs 0 0 (ef_R below (dC, dI) vwCl ws (fun o w1 => o = none ∧ w1 = wW ws k0 k1 h a cI (wl (Y * mu + mo) : Int) (wd (Y * mu + mo))) [.ref h, .ref g, .int (iv ((mu : Int))), .int (iv ((mo : Int)))] s) (F0 m 7 ls []) := by
    intro fuel
    induction fuel with
    | zero => intro i cy G h1 hc h2 h3 h4 h5; exfalso; omega
    | succ fuel ih =>
      intro i cy G h1 hc h2 h3 h4 h5 H locs ls hP hD hS hl
      have hw : isW (wW ws k0 k1 h a cI ((n : Int)) (G)) k0 k1 h a cI ((n : Int)) (G) := hw0.w _ _
      have ho := ho0.o hoa (wo h a ((n : Int))) (wa cI a (G))
      refine lv_iload hx hb dX1_becomeMultiple_7 (lv_at hl 5 rfl) ?_
      refine lv_aload_n hx hb dX1_becomeMultiple_9 rfl (lv_at hl 1 rfl) ?_
      refine va_get (D := (dC, dI)) (ci := 1) (v := .int (iv ((wl Y : Int)))) (C := RX1) (T := TX1) (N := 2) hx hb hts (by decide +kernel) hown hK hP j0 ho.2.1 rfl 1 (by decide) (hts (.fieldLink RX1 15 "ExactFractions$Whole" "used" "I") (by decide +kernel)) (fun _ h9 => h9) rfl dX1_becomeMultiple_10 ?_
      refine iw_icmp_ge (tgt := 51) hx hb dX1_becomeMultiple_13 (by decide) ⟨by omega, by omega⟩ ⟨by omega, by omega⟩ (fun c1 => ?_) (fun c1 => ?_)
      ·
        have hi : i = wl Y := by omega
        subst hi
        refine lv_aload_n hx hb dX1_becomeMultiple_51 rfl (lv_at hl 0 rfl) ?_
        refine lv_aload_n hx hb dX1_becomeMultiple_52 rfl (lv_at hl 1 rfl) ?_
        refine va_get (D := (dC, dI)) (ci := 1) (v := .int (iv ((wl Y : Int)))) (C := RX1) (T := TX1) (N := 2) hx hb hts (by decide +kernel) hown hK hP j0 ho.2.1 rfl 1 (by decide) (hts (.fieldLink RX1 15 "ExactFractions$Whole" "used" "I") (by decide +kernel)) (fun _ h9 => h9) rfl dX1_becomeMultiple_53 ?_
        refine lv_lload hx hb dX1_becomeMultiple_56 (lv_at hl 4 rfl) ?_
        refine ef_callV (As := [.int (iv ((wl Y : Int))), .long (jv ((cy : Int)))]) (rest := []) ⟨hx, hb, hml, hown, hts⟩ (c_put l dC dI ht hw (wl Y : Int) ⟨by omega, by omega⟩ (cy : Int)) (cwV 2 hts gX1_becomeMultiple_X1_put rfl rfl rfl (by decide +kernel) ⟨Nat.le_of_ble_eq_true rfl, Nat.le_of_ble_eq_true rfl⟩) hK hNX hP hD hS k0 hw.2.1 rfl rfl rfl hl.1 rfl (Nat.le_of_ble_eq_true rfl) dX1_becomeMultiple_58 ⟨Nat.zero_le _, Nat.zero_le _⟩ (fun o w1 H locs hq hP hD hS => ?_)
        obtain ⟨rfl, rfl⟩ := hq
        have hP := efP2 hw0.1 hP
        have hD := efD2 hw0.1 hD
        have hw : isW (wW ws k0 k1 h a cI ((n : Int)) (wp G (wl Y : Int) (cy : Int))) k0 k1 h a cI ((n : Int)) (wp G (wl Y : Int) (cy : Int)) := hw0.w _ _
        have ho := ho0.o hoa (wo h a ((n : Int))) (wa cI a (wp G (wl Y : Int) (cy : Int)))
        refine W.eq (g2 := F0 m 61 ls []) rfl ?_
        have hv : nv (wp G (wl Y : Int) (cy : Int)) (min (wl Y + 1) 301) = Y * mu + mo := by
          rw [show min (wl Y + 1) 301 = wl Y + 1 by omega]
          show nv (wp G (wl Y : Int) (cy : Int)) (wl Y) + wp G (wl Y : Int) (cy : Int) (wl Y) * 2 ^ (32 * wl Y) = _
          rw [nv_cong (G := G) (fun j hj => wp_ne (by omega)), wp_at (by omega), Nat.mod_eq_of_lt hc, h3, nv_self]
        refine lv_aload_n hx hb dX1_becomeMultiple_61 rfl (lv_at hl 0 rfl) ?_
        refine lv_aload_n hx hb dX1_becomeMultiple_62 rfl (lv_at hl 1 rfl) ?_
        refine va_get (D := (dC, dI)) (ci := 1) (v := .int (iv ((wl Y : Int)))) (C := RX1) (T := TX1) (N := 2) hx hb hts (by decide +kernel) hown hK hP j0 ho.2.1 rfl 1 (by decide) (hts (.fieldLink RX1 15 "ExactFractions$Whole" "used" "I") (by decide +kernel)) (fun _ h9 => h9) rfl dX1_becomeMultiple_63 ?_
        refine lv_iconst (v := iv (1)) hx hb dX1_becomeMultiple_66 (by decide) ?_
        refine iw_iadd hx hb dX1_becomeMultiple_67 ?_
        refine iw_topi (y := iv (((wl Y + 1 : Nat) : Int))) (congrArg iv (by omega : ((((wl Y : Int)) + (1)) : Int) = (((wl Y + 1 : Nat) : Int)))) ?_
        refine ef_callV (As := [.int (iv (((wl Y + 1 : Nat) : Int)))]) (rest := []) ⟨hx, hb, hml, hown, hts⟩ (c_settle l dC dI ht hw hn (wp_lt h2 _ _) (wl Y + 1) (by omega) (fun j q1 q2 q3 => by rw [wp_ne (by omega), h4 j (by omega)]; exact hz j q2 q3)) (cwV 1 hts gX1_becomeMultiple_X1_settle rfl rfl rfl (by decide +kernel) ⟨Nat.le_of_ble_eq_true rfl, Nat.le_of_ble_eq_true rfl⟩) hK hNX hP hD hS k0 hw.2.1 rfl rfl rfl hl.1 rfl (Nat.le_of_ble_eq_true rfl) dX1_becomeMultiple_68 ⟨Nat.zero_le _, Nat.zero_le _⟩ (fun o w1 H locs hq hP hD hS => ?_)
        rw [hv] at hq
        obtain ⟨rfl, rfl⟩ := hq
        have hP := efP2 hw0.1 hP
        have hD := efD2 hw0.1 hD
        have hw : isW (wW ws k0 k1 h a cI ((wl (Y * mu + mo) : Int)) (wd (Y * mu + mo))) k0 k1 h a cI ((wl (Y * mu + mo) : Int)) (wd (Y * mu + mo)) := hw0.w _ _
        have ho := ho0.o hoa (wo h a ((wl (Y * mu + mo) : Int))) (wa cI a (wd (Y * mu + mo)))
        refine W.eq (g2 := F0 m 71 ls []) rfl ?_
        exact ef_vret hx hb hr hlocks hP hD hS dX1_becomeMultiple_71 (⟨rfl, rfl⟩)
      ·
        refine lv_lload hx hb dX1_becomeMultiple_16 (lv_at hl 4 rfl) ?_
        refine lv_aload_n hx hb dX1_becomeMultiple_18 rfl (lv_at hl 1 rfl) ?_
        refine lv_iload hx hb dX1_becomeMultiple_19 (lv_at hl 5 rfl) ?_
        refine ef_callV (As := [.int (iv ((i : Int)))]) (rest := [.long (jv ((cy : Int)))]) ⟨hx, hb, hml, hown, hts⟩ (c_valueAt l dC dI ht ho (wd_lt Y) (i : Int) ⟨by omega, by omega⟩) (cwV 1 hts gX1_becomeMultiple_X1_valueAt rfl rfl rfl (by decide +kernel) ⟨Nat.le_of_ble_eq_true rfl, Nat.le_of_ble_eq_true rfl⟩) hK hNX hP hD hS j0 ho.2.1 rfl rfl rfl hl.1 rfl (Nat.le_of_ble_eq_true rfl) dX1_becomeMultiple_21 ⟨Nat.zero_le _, Nat.zero_le _⟩ (fun o w1 H locs hq hP hD hS => ?_)
        obtain ⟨rfl, e9⟩ := hq
        rw [e9] at hP hD
        refine W.eq (g2 := F0 m 24 ls [.long (jv (wz (wd Y) (i : Int))), .long (jv ((cy : Int)))]) rfl ?_
        refine iw_topl (y := jv (((wd Y i : Nat) : Int))) (by rw [wz_in (by omega)]) ?_
        refine lv_iload_n hx hb dX1_becomeMultiple_24 rfl (lv_at hl 2 rfl) ?_
        refine iw_i2l hx hb ⟨by omega, by omega⟩ dX1_becomeMultiple_25 ?_
        refine iw_lmul hx hb dX1_becomeMultiple_26 ?_
        refine iw_ladd hx hb dX1_becomeMultiple_27 ?_
        have hyl := wd_lt Y i
        have hyb : wd Y i * mu ≤ 4294967295 * 1000000 := Nat.mul_le_mul (by omega) hmu
        obtain ⟨z, hz9⟩ : ∃ z, z = cy + wd Y i * mu := ⟨_, rfl⟩
        refine iw_topl (y := jv ((z : Int))) (congrArg jv (by rw [hz9]; push_cast; rfl : ((((cy : Int)) + ((((wd Y i : Nat) : Int)) * ((mu : Int)))) : Int) = ((z : Int)))) ?_
        refine lv_lstore (lv' := [(4, .long (jv ((z : Int)))), (0, .ref h), (1, .ref g), (2, .int (iv ((mu : Int)))), (3, .int (iv ((mo : Int)))), (6, .int (iv ((i : Int))))]) hx hb dX1_becomeMultiple_28 hl (by decide) rfl (fun ls hl => ?_)
        refine lv_aload_n hx hb dX1_becomeMultiple_30 rfl (lv_at hl 1 rfl) ?_
        refine lv_iload hx hb dX1_becomeMultiple_31 (lv_at hl 5 rfl) ?_
        refine lv_lload hx hb dX1_becomeMultiple_33 (lv_at hl 0 rfl) ?_
        refine ef_callV (As := [.int (iv ((i : Int))), .long (jv ((z : Int)))]) (rest := []) ⟨hx, hb, hml, hown, hts⟩ (c_put l dC dI ht hw (i : Int) ⟨by omega, by omega⟩ (z : Int)) (cwV 2 hts gX1_becomeMultiple_X1_put rfl rfl rfl (by decide +kernel) ⟨Nat.le_of_ble_eq_true rfl, Nat.le_of_ble_eq_true rfl⟩) hK hNX hP hD hS k0 hw.2.1 rfl rfl rfl hl.1 rfl (Nat.le_of_ble_eq_true rfl) dX1_becomeMultiple_35 ⟨Nat.zero_le _, Nat.zero_le _⟩ (fun o w1 H locs hq hP hD hS => ?_)
        obtain ⟨rfl, rfl⟩ := hq
        have hP := efP2 hw0.1 hP
        have hD := efD2 hw0.1 hD
        have hw : isW (wW ws k0 k1 h a cI ((n : Int)) (wp G (i : Int) (z : Int))) k0 k1 h a cI ((n : Int)) (wp G (i : Int) (z : Int)) := hw0.w _ _
        have ho := ho0.o hoa (wo h a ((n : Int))) (wa cI a (wp G (i : Int) (z : Int)))
        refine W.eq (g2 := F0 m 38 ls []) rfl ?_
        refine lv_lload hx hb dX1_becomeMultiple_38 (lv_at hl 0 rfl) ?_
        refine lv_bipush (v := iv (32)) hx hb dX1_becomeMultiple_40 (by decide) ?_
        refine iw_lushr hx hb (by omega) (by omega) dX1_becomeMultiple_42 ?_
        refine iw_topl (y := jv (((z / 4294967296 : Nat) : Int))) (congrArg jv (by omega : ((((z : Int)) / 4294967296) : Int) = (((z / 4294967296 : Nat) : Int)))) ?_
        refine lv_lstore (lv' := [(4, .long (jv (((z / 4294967296 : Nat) : Int)))), (0, .ref h), (1, .ref g), (2, .int (iv ((mu : Int)))), (3, .int (iv ((mo : Int)))), (6, .int (iv ((i : Int))))]) hx hb dX1_becomeMultiple_43 hl (by decide) rfl (fun ls hl => ?_)
        refine lv_iinc (v := iv (((i + 1 : Nat) : Int))) (lv' := [(6, .int (iv (((i + 1 : Nat) : Int)))), (4, .long (jv (((z / 4294967296 : Nat) : Int)))), (0, .ref h), (1, .ref g), (2, .int (iv ((mu : Int)))), (3, .int (iv ((mo : Int))))]) hx hb dX1_becomeMultiple_45 hl (k := 5) rfl (iv_inc i) (by decide) rfl (fun ls hl => ?_)
        refine lv_goto (tgt := 7) hx hb dX1_becomeMultiple_48 (by decide) ?_
        exact ih (i + 1) (z / 4294967296) (wp G (i : Int) (z : Int)) (by omega) (by omega) (wp_lt h2 _ _) (by
              rw [nv_step (by omega) h3 hz9]
              show _ = (nv (wd Y) i + wd Y i * 2 ^ (32 * i)) * mu + mo
              rw [Nat.add_mul, Nat.mul_right_comm (wd Y i)]
              omega) (fun j hj => by rw [wp_ne (by omega)]; exact h4 j (by omega)) (by omega) H locs ls hP hD hS (lv_sub hl [2, 3, 4, 5, 1, 0] rfl)
  exact loop (wl Y + 1) (0) (mo) (F) (Nat.zero_le _) (by omega) (hF) (by show 0 + mo * 2 ^ (32 * 0) = 0 * mu + mo; omega) (fun j _ => rfl) (by omega) H locs ls hP hD hS (lv_sub hl [2, 3, 4, 5, 1, 0] rfl)

set_option maxRecDepth 100000 in
set_option maxHeartbeats 4000000 in
/-- becomeSum(one, other) -/
theorem c_sum (l : Launch) (dC : Nat → ClassId) (dI : Nat → Nat → Nat) {cI : ClassId} {tys : List (ClassId × FieldType)} (ht : tys[0]? = some (cI, .int)) {ws : va_W} {k0 k1 h a n : Nat} {F : Nat → Nat} (hw : isW ws k0 k1 h a cI (n : Int) F) (hn : n ≤ 301) (hF : ∀ j, F j < 4294967296) (hz : ∀ j, n ≤ j → j < 301 → F j = 0) {j0 j1 g b Y : Nat} (ho : isW ws j0 j1 g b cI (wl Y : Int) (wd Y)) (hY : wl Y ≤ 300) (hoa : apt k0 k1 j0 j1) {i0 i1 g2 b2 Z : Nat} (hp : isW ws i0 i1 g2 b2 cI (wl Z : Int) (wd Z)) (hZ : wl Z ≤ 300) (hpa : apt k0 k1 i0 i1) : ef_C l yX1_becomeSum wsX1_becomeSum ({ frames := 2, cells := 0, slots := 0, locals := 45 } : Room) [.ref h, .ref g, .ref g2] (dC, dI) vwCl tys ws (fun o w1 => o = none ∧ w1 = wW ws k0 k1 h a cI (wl (Y + Z) : Int) (wd (Y + Z))) := by
  refine ef_C.of (cc := cX1_becomeSum) (maxL := 7) (ret := none) (by decide) rfl (Nat.le_of_ble_eq_true rfl) ?_
  intro p e s m below meth c ls hx hb hml hr hts hown hlocks hK hNX hP hD hS hl
  have hl : lv_has ls 7 [(0, .ref h), (1, .ref g), (2, .ref g2)] := hl
  have hown : s.vm.findClass RX1 = some m.cls := hown
  generalize hH : s.heap = H at hP ⊢
  have hS : va_S (ef_A ws) s.heap H [] := by rw [← hH]; exact hS
  generalize ([] : List Loc) = locs at hS ⊢
  have hw0 := hw
  have ho0 := ho
  have hp0 := hp
  have hP := efP0 hw0 hP
  have hD := efD0 hw0 hD
  have hw : isW (wW ws k0 k1 h a cI ((n : Int)) (F)) k0 k1 h a cI ((n : Int)) (F) := hw0.w _ _
  have ho := ho0.o hoa (wo h a ((n : Int))) (wa cI a (F))
  have hp := hp0.o hpa (wo h a ((n : Int))) (wa cI a (F))
  refine lv_aload_n hx hb dX1_becomeSum_0 rfl (lv_at hl 1 rfl) ?_
  refine va_get (D := (dC, dI)) (ci := 1) (v := .int (iv ((wl Y : Int)))) (C := RX1) (T := TX1) (N := 2) hx hb hts (by decide +kernel) hown hK hP j0 ho.2.1 rfl 1 (by decide) (hts (.fieldLink RX1 15 "ExactFractions$Whole" "used" "I") (by decide +kernel)) (fun _ h9 => h9) rfl dX1_becomeSum_1 ?_
  refine lv_aload_n hx hb dX1_becomeSum_4 rfl (lv_at hl 2 rfl) ?_
  refine va_get (D := (dC, dI)) (ci := 1) (v := .int (iv ((wl Z : Int)))) (C := RX1) (T := TX1) (N := 2) hx hb hts (by decide +kernel) hown hK hP i0 hp.2.1 rfl 1 (by decide) (hts (.fieldLink RX1 15 "ExactFractions$Whole" "used" "I") (by decide +kernel)) (fun _ h9 => h9) rfl dX1_becomeSum_5 ?_
  refine iw_mmax hx hb (hml.trans hl.1.symm) hown (hts (.methodLink RX1 39 Lib.Math.max.name) (by decide +kernel)) (hts (.static Lib.Math.max.name) (by decide +kernel)) (hts (.initialized "java/lang/Math") (by decide +kernel)) (hts (.code Lib.Math.max.name Lib.Math.max.code 2 (some .int)) (by decide +kernel)) (Nat.le_of_ble_eq_true rfl) (Nat.le_of_ble_eq_true rfl) (Nat.zero_le _) (Nat.zero_le _) ⟨by omega, by omega⟩ ⟨by omega, by omega⟩ dX1_becomeSum_8 ?_
  refine iw_topi (y := iv (((max (wl Y) (wl Z) : Nat) : Int))) (congrArg iv (by split <;> omega : ((if ((wl Y : Int)) < ((wl Z : Int)) then ((wl Z : Int)) else ((wl Y : Int))) : Int) = (((max (wl Y) (wl Z) : Nat) : Int)))) ?_
  obtain ⟨M, hM⟩ : ∃ M, M = max (wl Y) (wl Z) := ⟨_, rfl⟩
  rw [← hM]
  refine lv_istore_n (lv' := [(3, .int (iv ((M : Int)))), (0, .ref h), (1, .ref g), (2, .ref g2)]) hx hb dX1_becomeSum_11 rfl hl (by decide) rfl (fun ls hl => ?_)
  refine lv_lconst (v := jv (0)) hx hb dX1_becomeSum_12 (by decide) ?_
  refine lv_lstore (lv' := [(4, .long (jv (0))), (3, .int (iv ((M : Int)))), (0, .ref h), (1, .ref g), (2, .ref g2)]) hx hb dX1_becomeSum_13 hl (by decide) rfl (fun ls hl => ?_)
  refine lv_iconst (v := iv (0)) hx hb dX1_becomeSum_15 (by decide) ?_
  refine lv_istore (lv' := [(6, .int (iv (0))), (4, .long (jv (0))), (3, .int (iv ((M : Int)))), (0, .ref h), (1, .ref g), (2, .ref g2)]) hx hb dX1_becomeSum_16 hl (by decide) rfl (fun ls hl => ?_)
  have loop : ∀ (fuel : Nat) (i : Nat) (cy : Nat) (G : Nat → Nat), (i ≤ M) → (cy ≤ 1) → (∀ j, G j < 4294967296) → (nv G i + cy * 2 ^ (32 * i) = nv (wd Y) i + nv (wd Z) i) → (∀ j, i ≤ j → G j = F j) → (M < i + fuel) → ∀ (H : Heap) (locs : List Loc) (ls : Array Slot), va_P (dC, dI) vwCl (wW ws k0 k1 h a cI (n : Int) G) H → va_D (ef_A ws) (wW ws k0 k1 h a cI (n : Int) G) → va_S (ef_A ws) s.heap H locs → lv_has ls 7 [(0, .ref h), (1, .ref g), (2, .ref g2), (3, .int (iv ((M : Int)))), (4, .long (jv ((cy : Int)))), (6, .int (iv ((i : Int))))] → W p l e ({ frames := 2, cells := 0, slots := 0, locals := 45 } : Room) s m ([.ref h, .ref g, .ref g2] : List Value).toArray below meth c H locs 0 0 (ef_R below (dC, dI) vwCl ws (fun o w1 => o = none ∧ w1 = wW ws k0 k1 h a cI (wl (Y + Z) : Int) (wd (Y + Z))) [.ref h, .ref g, .ref g2] s) (F0 m 18 ls []) := by
    intro fuel
    induction fuel with
    | zero => intro i cy G h1 hc h2 h3 h4 h5; exfalso; omega
    | succ fuel ih =>
      intro i cy G h1 hc h2 h3 h4 h5 H locs ls hP hD hS hl
      have hw : isW (wW ws k0 k1 h a cI ((n : Int)) (G)) k0 k1 h a cI ((n : Int)) (G) := hw0.w _ _
      have ho := ho0.o hoa (wo h a ((n : Int))) (wa cI a (G))
      have hp := hp0.o hpa (wo h a ((n : Int))) (wa cI a (G))
      refine lv_iload hx hb dX1_becomeSum_18 (lv_at hl 5 rfl) ?_
      refine lv_iload_n hx hb dX1_becomeSum_20 rfl (lv_at hl 3 rfl) ?_
      refine iw_icmp_ge (tgt := 63) hx hb dX1_becomeSum_21 (by decide) ⟨by omega, by omega⟩ ⟨by omega, by omega⟩ (fun c1 => ?_) (fun c1 => ?_)
      ·
        have hi : i = M := by omega
        subst hi
        refine lv_aload_n hx hb dX1_becomeSum_63 rfl (lv_at hl 0 rfl) ?_
        refine lv_iload_n hx hb dX1_becomeSum_64 rfl (lv_at hl 3 rfl) ?_
        refine lv_lload hx hb dX1_becomeSum_65 (lv_at hl 4 rfl) ?_
        refine ef_callV (As := [.int (iv ((i : Int))), .long (jv ((cy : Int)))]) (rest := []) ⟨hx, hb, hml, hown, hts⟩ (c_put l dC dI ht hw (i : Int) ⟨by omega, by omega⟩ (cy : Int)) (cwV 2 hts gX1_becomeSum_X1_put rfl rfl rfl (by decide +kernel) ⟨Nat.le_of_ble_eq_true rfl, Nat.le_of_ble_eq_true rfl⟩) hK hNX hP hD hS k0 hw.2.1 rfl rfl rfl hl.1 rfl (Nat.le_of_ble_eq_true rfl) dX1_becomeSum_67 ⟨Nat.zero_le _, Nat.zero_le _⟩ (fun o w1 H locs hq hP hD hS => ?_)
        obtain ⟨rfl, rfl⟩ := hq
        have hP := efP2 hw0.1 hP
        have hD := efD2 hw0.1 hD
        have hw : isW (wW ws k0 k1 h a cI ((n : Int)) (wp G (i : Int) (cy : Int))) k0 k1 h a cI ((n : Int)) (wp G (i : Int) (cy : Int)) := hw0.w _ _
        have ho := ho0.o hoa (wo h a ((n : Int))) (wa cI a (wp G (i : Int) (cy : Int)))
        have hp := hp0.o hpa (wo h a ((n : Int))) (wa cI a (wp G (i : Int) (cy : Int)))
        refine W.eq (g2 := F0 m 70 ls []) rfl ?_
        have hv : nv (wp G (i : Int) (cy : Int)) (min (i + 1) 301) = Y + Z := by
          rw [show min (i + 1) 301 = i + 1 by omega]
          show nv (wp G (i : Int) (cy : Int)) i + wp G (i : Int) (cy : Int) i * 2 ^ (32 * i) = _
          rw [nv_cong (G := G) (fun j hj => wp_ne (by omega)), wp_at (by omega), Nat.mod_eq_of_lt (by omega), h3, nv_self' (by omega), nv_self' (by omega)]
        refine lv_aload_n hx hb dX1_becomeSum_70 rfl (lv_at hl 0 rfl) ?_
        refine lv_iload_n hx hb dX1_becomeSum_71 rfl (lv_at hl 3 rfl) ?_
        refine lv_iconst (v := iv (1)) hx hb dX1_becomeSum_72 (by decide) ?_
        refine iw_iadd hx hb dX1_becomeSum_73 ?_
        refine iw_topi (y := iv (((i + 1 : Nat) : Int))) (congrArg iv (by omega : ((((i : Int)) + (1)) : Int) = (((i + 1 : Nat) : Int)))) ?_
        refine ef_callV (As := [.int (iv (((i + 1 : Nat) : Int)))]) (rest := []) ⟨hx, hb, hml, hown, hts⟩ (c_settle l dC dI ht hw hn (wp_lt h2 _ _) (i + 1) (by omega) (fun j q1 q2 q3 => by rw [wp_ne (by omega), h4 j (by omega)]; exact hz j q2 q3)) (cwV 1 hts gX1_becomeSum_X1_settle rfl rfl rfl (by decide +kernel) ⟨Nat.le_of_ble_eq_true rfl, Nat.le_of_ble_eq_true rfl⟩) hK hNX hP hD hS k0 hw.2.1 rfl rfl rfl hl.1 rfl (Nat.le_of_ble_eq_true rfl) dX1_becomeSum_74 ⟨Nat.zero_le _, Nat.zero_le _⟩ (fun o w1 H locs hq hP hD hS => ?_)
        rw [hv] at hq
        obtain ⟨rfl, rfl⟩ := hq
        have hP := efP2 hw0.1 hP
        have hD := efD2 hw0.1 hD
        have hw : isW (wW ws k0 k1 h a cI ((wl (Y + Z) : Int)) (wd (Y + Z))) k0 k1 h a cI ((wl (Y + Z) : Int)) (wd (Y + Z)) := hw0.w _ _
        have ho := ho0.o hoa (wo h a ((wl (Y + Z) : Int))) (wa cI a (wd (Y + Z)))
        have hp := hp0.o hpa (wo h a ((wl (Y + Z) : Int))) (wa cI a (wd (Y + Z)))
        refine W.eq (g2 := F0 m 77 ls []) rfl ?_
        exact ef_vret hx hb hr hlocks hP hD hS dX1_becomeSum_77 (⟨rfl, rfl⟩)
      ·
        refine lv_lload hx hb dX1_becomeSum_24 (lv_at hl 4 rfl) ?_
        refine lv_aload_n hx hb dX1_becomeSum_26 rfl (lv_at hl 1 rfl) ?_
        refine lv_iload hx hb dX1_becomeSum_27 (lv_at hl 5 rfl) ?_
        refine ef_callV (As := [.int (iv ((i : Int)))]) (rest := [.long (jv ((cy : Int)))]) ⟨hx, hb, hml, hown, hts⟩ (c_valueAt l dC dI ht ho (wd_lt Y) (i : Int) ⟨by omega, by omega⟩) (cwV 1 hts gX1_becomeSum_X1_valueAt rfl rfl rfl (by decide +kernel) ⟨Nat.le_of_ble_eq_true rfl, Nat.le_of_ble_eq_true rfl⟩) hK hNX hP hD hS j0 ho.2.1 rfl rfl rfl hl.1 rfl (Nat.le_of_ble_eq_true rfl) dX1_becomeSum_29 ⟨Nat.zero_le _, Nat.zero_le _⟩ (fun o w1 H locs hq hP hD hS => ?_)
        obtain ⟨rfl, e9⟩ := hq
        rw [e9] at hP hD
        refine W.eq (g2 := F0 m 32 ls [.long (jv (wz (wd Y) (i : Int))), .long (jv ((cy : Int)))]) rfl ?_
        refine iw_topl (y := jv (((wd Y i : Nat) : Int))) (by rw [wz_in (by omega)]) ?_
        refine lv_aload_n hx hb dX1_becomeSum_32 rfl (lv_at hl 2 rfl) ?_
        refine lv_iload hx hb dX1_becomeSum_33 (lv_at hl 5 rfl) ?_
        refine ef_callV (As := [.int (iv ((i : Int)))]) (rest := [.long (jv (((wd Y i : Nat) : Int))), .long (jv ((cy : Int)))]) ⟨hx, hb, hml, hown, hts⟩ (c_valueAt l dC dI ht hp (wd_lt Z) (i : Int) ⟨by omega, by omega⟩) (cwV 1 hts gX1_becomeSum_X1_valueAt rfl rfl rfl (by decide +kernel) ⟨Nat.le_of_ble_eq_true rfl, Nat.le_of_ble_eq_true rfl⟩) hK hNX hP hD hS i0 hp.2.1 rfl rfl rfl hl.1 rfl (Nat.le_of_ble_eq_true rfl) dX1_becomeSum_35 ⟨Nat.zero_le _, Nat.zero_le _⟩ (fun o w1 H locs hq hP hD hS => ?_)
        obtain ⟨rfl, e9⟩ := hq
        rw [e9] at hP hD
        refine W.eq (g2 := F0 m 38 ls [.long (jv (wz (wd Z) (i : Int))), .long (jv (((wd Y i : Nat) : Int))), .long (jv ((cy : Int)))]) rfl ?_
        refine iw_topl (y := jv (((wd Z i : Nat) : Int))) (by rw [wz_in (by omega)]) ?_
        refine iw_ladd hx hb dX1_becomeSum_38 ?_
        refine iw_ladd hx hb dX1_becomeSum_39 ?_
        have hyl := wd_lt Y i
        have hzl := wd_lt Z i
        obtain ⟨z, hz9⟩ : ∃ z, z = cy + (wd Y i + wd Z i) := ⟨_, rfl⟩
        refine iw_topl (y := jv ((z : Int))) (congrArg jv (by omega : ((((cy : Int)) + ((((wd Y i : Nat) : Int)) + (((wd Z i : Nat) : Int)))) : Int) = ((z : Int)))) ?_
        refine lv_lstore (lv' := [(4, .long (jv ((z : Int)))), (0, .ref h), (1, .ref g), (2, .ref g2), (3, .int (iv ((M : Int)))), (6, .int (iv ((i : Int))))]) hx hb dX1_becomeSum_40 hl (by decide) rfl (fun ls hl => ?_)
        refine lv_aload_n hx hb dX1_becomeSum_42 rfl (lv_at hl 1 rfl) ?_
        refine lv_iload hx hb dX1_becomeSum_43 (lv_at hl 5 rfl) ?_
        refine lv_lload hx hb dX1_becomeSum_45 (lv_at hl 0 rfl) ?_
        refine ef_callV (As := [.int (iv ((i : Int))), .long (jv ((z : Int)))]) (rest := []) ⟨hx, hb, hml, hown, hts⟩ (c_put l dC dI ht hw (i : Int) ⟨by omega, by omega⟩ (z : Int)) (cwV 2 hts gX1_becomeSum_X1_put rfl rfl rfl (by decide +kernel) ⟨Nat.le_of_ble_eq_true rfl, Nat.le_of_ble_eq_true rfl⟩) hK hNX hP hD hS k0 hw.2.1 rfl rfl rfl hl.1 rfl (Nat.le_of_ble_eq_true rfl) dX1_becomeSum_47 ⟨Nat.zero_le _, Nat.zero_le _⟩ (fun o w1 H locs hq hP hD hS => ?_)
        obtain ⟨rfl, rfl⟩ := hq
        have hP := efP2 hw0.1 hP
        have hD := efD2 hw0.1 hD
        have hw : isW (wW ws k0 k1 h a cI ((n : Int)) (wp G (i : Int) (z : Int))) k0 k1 h a cI ((n : Int)) (wp G (i : Int) (z : Int)) := hw0.w _ _
        have ho := ho0.o hoa (wo h a ((n : Int))) (wa cI a (wp G (i : Int) (z : Int)))
        have hp := hp0.o hpa (wo h a ((n : Int))) (wa cI a (wp G (i : Int) (z : Int)))
        refine W.eq (g2 := F0 m 50 ls []) rfl ?_
        refine lv_lload hx hb dX1_becomeSum_50 (lv_at hl 0 rfl) ?_
        refine lv_bipush (v := iv (32)) hx hb dX1_becomeSum_52 (by decide) ?_
        refine iw_lushr hx hb (by omega) (by omega) dX1_becomeSum_54 ?_
        refine iw_topl (y := jv (((z / 4294967296 : Nat) : Int))) (congrArg jv (by omega : ((((z : Int)) / 4294967296) : Int) = (((z / 4294967296 : Nat) : Int)))) ?_
        refine lv_lstore (lv' := [(4, .long (jv (((z / 4294967296 : Nat) : Int)))), (0, .ref h), (1, .ref g), (2, .ref g2), (3, .int (iv ((M : Int)))), (6, .int (iv ((i : Int))))]) hx hb dX1_becomeSum_55 hl (by decide) rfl (fun ls hl => ?_)
        refine lv_iinc (v := iv (((i + 1 : Nat) : Int))) (lv' := [(6, .int (iv (((i + 1 : Nat) : Int)))), (4, .long (jv (((z / 4294967296 : Nat) : Int)))), (0, .ref h), (1, .ref g), (2, .ref g2), (3, .int (iv ((M : Int))))]) hx hb dX1_becomeSum_57 hl (k := 5) rfl (iv_inc i) (by decide) rfl (fun ls hl => ?_)
        refine lv_goto (tgt := 18) hx hb dX1_becomeSum_60 (by decide) ?_
        exact ih (i + 1) (z / 4294967296) (wp G (i : Int) (z : Int)) (by omega) (by omega) (wp_lt h2 _ _) (by
              rw [nv_step (by omega) h3 hz9]
              show _ = nv (wd Y) i + wd Y i * 2 ^ (32 * i) + (nv (wd Z) i + wd Z i * 2 ^ (32 * i))
              rw [Nat.add_mul]
              omega) (fun j hj => by rw [wp_ne (by omega)]; exact h4 j (by omega)) (by omega) H locs ls hP hD hS (lv_sub hl [2, 3, 4, 5, 1, 0] rfl)
  exact loop (M + 1) (0) (0) (F) (Nat.zero_le _) (by omega) (hF) (rfl) (fun j _ => rfl) (by omega) H locs ls hP hD hS (lv_sub hl [3, 4, 5, 2, 1, 0] rfl)

set_option maxRecDepth 100000 in
set_option maxHeartbeats 4000000 in
/-- becomeDifference(greater, lesser) -/
theorem c_diff (l : Launch) (dC : Nat → ClassId) (dI : Nat → Nat → Nat) {cI : ClassId} {tys : List (ClassId × FieldType)} (ht : tys[0]? = some (cI, .int)) {ws : va_W} {k0 k1 h a n : Nat} {F : Nat → Nat} (hw : isW ws k0 k1 h a cI (n : Int) F) (hn : n ≤ 301) (hF : ∀ j, F j < 4294967296) (hz : ∀ j, n ≤ j → j < 301 → F j = 0) {j0 j1 g b Y : Nat} (ho : isW ws j0 j1 g b cI (wl Y : Int) (wd Y)) (hY : wl Y ≤ 300) (hoa : apt k0 k1 j0 j1) {i0 i1 g2 b2 Z : Nat} (hp : isW ws i0 i1 g2 b2 cI (wl Z : Int) (wd Z)) (hZ : wl Z ≤ 300) (hpa : apt k0 k1 i0 i1) (hle : Z ≤ Y) : ef_C l yX1_becomeDifference wsX1_becomeDifference ({ frames := 2, cells := 0, slots := 0, locals := 45 } : Room) [.ref h, .ref g, .ref g2] (dC, dI) vwCl tys ws (fun o w1 => o = none ∧ w1 = wW ws k0 k1 h a cI (wl (Y - Z) : Int) (wd (Y - Z))) := by
  refine ef_C.of (cc := cX1_becomeDifference) (maxL := 6) (ret := none) (by decide) rfl (Nat.le_of_ble_eq_true rfl) ?_
  intro p e s m below meth c ls hx hb hml hr hts hown hlocks hK hNX hP hD hS hl
  have hl : lv_has ls 6 [(0, .ref h), (1, .ref g), (2, .ref g2)] := hl
  have hown : s.vm.findClass RX1 = some m.cls := hown
  generalize hH : s.heap = H at hP ⊢
  have hS : va_S (ef_A ws) s.heap H [] := by rw [← hH]; exact hS
  generalize ([] : List Loc) = locs at hS ⊢
  have hw0 := hw
  have ho0 := ho
  have hp0 := hp
  have hP := efP0 hw0 hP
  have hD := efD0 hw0 hD
  have hw : isW (wW ws k0 k1 h a cI ((n : Int)) (F)) k0 k1 h a cI ((n : Int)) (F) := hw0.w _ _
  have ho := ho0.o hoa (wo h a ((n : Int))) (wa cI a (F))
  have hp := hp0.o hpa (wo h a ((n : Int))) (wa cI a (F))
  have hwz : wl Z ≤ wl Y := wl_le (Nat.lt_of_le_of_lt hle (wl_lt Y))
  refine lv_lconst (v := jv (0)) hx hb dX1_becomeDifference_0 (by decide) ?_
  refine lv_lstore_n (lv' := [(3, .long (jv (0))), (0, .ref h), (1, .ref g), (2, .ref g2)]) hx hb dX1_becomeDifference_1 rfl hl (by decide) rfl (fun ls hl => ?_)
  refine lv_iconst (v := iv (0)) hx hb dX1_becomeDifference_2 (by decide) ?_
  refine lv_istore (lv' := [(5, .int (iv (0))), (3, .long (jv (0))), (0, .ref h), (1, .ref g), (2, .ref g2)]) hx hb dX1_becomeDifference_3 hl (by decide) rfl (fun ls hl => ?_)
  have loop : ∀ (fuel : Nat) (i : Nat) (bo : Nat) (G : Nat → Nat), (i ≤ wl Y) → (bo ≤ 1) → (∀ j, G j < 4294967296) → (nv G i + nv (wd Z) i = nv (wd Y) i + bo * 2 ^ (32 * i)) → (∀ j, i ≤ j → G j = F j) → (wl Y < i + fuel) → ∀ (H : Heap) (locs : List Loc) (ls : Array Slot), va_P (dC, dI) vwCl (wW ws k0 k1 h a cI (n : Int) G) H → va_D (ef_A ws) (wW ws k0 k1 h a cI (n : Int) G) → va_S (ef_A ws) s.heap H locs → lv_has ls 6 [(0, .ref h), (1, .ref g), (2, .ref g2), (3, .long (jv (-(bo : Int)))), (5, .int (iv ((i : Int))))] → W p l e ({ frames := 2, cells := 0, slots := 0, locals := 45 } : Room) s m ([.ref h, .ref g, .ref g2] : List Value).toArray below meth c H locs 0 0 (ef_R below (dC, dI) vwCl ws (fun o w1 => o = none ∧ w1 = wW ws k0 k1 h a cI (wl (Y - Z) : Int) (wd (Y - Z))) [.ref h, .ref g, .ref g2] s) (F0 m 5 ls []) := by
    intro fuel
    induction fuel with
    | zero => intro i bo G h1 hc h2 h3 h4 h5; exfalso; omega
    | succ fuel ih =>
      intro i bo G h1 hc h2 h3 h4 h5 H locs ls hP hD hS hl
      have hw : isW (wW ws k0 k1 h a cI ((n : Int)) (G)) k0 k1 h a cI ((n : Int)) (G) := hw0.w _ _
      have ho := ho0.o hoa (wo h a ((n : Int))) (wa cI a (G))
      have hp := hp0.o hpa (wo h a ((n : Int))) (wa cI a (G))
      refine lv_iload hx hb dX1_becomeDifference_5 (lv_at hl 4 rfl) ?_
      refine lv_aload_n hx hb dX1_becomeDifference_7 rfl (lv_at hl 1 rfl) ?_
      refine va_get (D := (dC, dI)) (ci := 1) (v := .int (iv ((wl Y : Int)))) (C := RX1) (T := TX1) (N := 2) hx hb hts (by decide +kernel) hown hK hP j0 ho.2.1 rfl 1 (by decide) (hts (.fieldLink RX1 15 "ExactFractions$Whole" "used" "I") (by decide +kernel)) (fun _ h9 => h9) rfl dX1_becomeDifference_8 ?_
      refine iw_icmp_ge (tgt := 48) hx hb dX1_becomeDifference_11 (by decide) ⟨by omega, by omega⟩ ⟨by omega, by omega⟩ (fun c1 => ?_) (fun c1 => ?_)
      ·
        have hi : i = wl Y := by omega
        subst hi
        have hv : nv G (min (wl Y) 301) = Y - Z := by
          rw [show min (wl Y) 301 = wl Y by omega]
          rw [nv_self' hwz, nv_self] at h3
          have q1 := nv_lt (F := G) (k := wl Y) (fun j _ => h2 j)
          have q2 : bo = 0 := by
            rcases Nat.lt_or_ge 0 bo with q | q
            · have q4 : bo = 1 := by omega
              rw [q4] at h3
              omega
            · omega
          rw [q2] at h3
          omega
        refine lv_aload_n hx hb dX1_becomeDifference_48 rfl (lv_at hl 0 rfl) ?_
        refine lv_aload_n hx hb dX1_becomeDifference_49 rfl (lv_at hl 1 rfl) ?_
        refine va_get (D := (dC, dI)) (ci := 1) (v := .int (iv ((wl Y : Int)))) (C := RX1) (T := TX1) (N := 2) hx hb hts (by decide +kernel) hown hK hP j0 ho.2.1 rfl 1 (by decide) (hts (.fieldLink RX1 15 "ExactFractions$Whole" "used" "I") (by decide +kernel)) (fun _ h9 => h9) rfl dX1_becomeDifference_50 ?_
        refine ef_callV (As := [.int (iv ((wl Y : Int)))]) (rest := []) ⟨hx, hb, hml, hown, hts⟩ (c_settle l dC dI ht hw hn h2 (wl Y) (by omega) (fun j q1 q2 q3 => by rw [h4 j (by omega)]; exact hz j q2 q3)) (cwV 1 hts gX1_becomeDifference_X1_settle rfl rfl rfl (by decide +kernel) ⟨Nat.le_of_ble_eq_true rfl, Nat.le_of_ble_eq_true rfl⟩) hK hNX hP hD hS k0 hw.2.1 rfl rfl rfl hl.1 rfl (Nat.le_of_ble_eq_true rfl) dX1_becomeDifference_53 ⟨Nat.zero_le _, Nat.zero_le _⟩ (fun o w1 H locs hq hP hD hS => ?_)
        rw [hv] at hq
        obtain ⟨rfl, rfl⟩ := hq
        have hP := efP2 hw0.1 hP
        have hD := efD2 hw0.1 hD
        have hw : isW (wW ws k0 k1 h a cI ((wl (Y - Z) : Int)) (wd (Y - Z))) k0 k1 h a cI ((wl (Y - Z) : Int)) (wd (Y - Z)) := hw0.w _ _
        have ho := ho0.o hoa (wo h a ((wl (Y - Z) : Int))) (wa cI a (wd (Y - Z)))
        have hp := hp0.o hpa (wo h a ((wl (Y - Z) : Int))) (wa cI a (wd (Y - Z)))
        refine W.eq (g2 := F0 m 56 ls []) rfl ?_
        exact ef_vret hx hb hr hlocks hP hD hS dX1_becomeDifference_56 (⟨rfl, rfl⟩)
      ·
        refine lv_lload_n hx hb dX1_becomeDifference_14 rfl (lv_at hl 3 rfl) ?_
        refine lv_aload_n hx hb dX1_becomeDifference_15 rfl (lv_at hl 1 rfl) ?_
        refine lv_iload hx hb dX1_becomeDifference_16 (lv_at hl 4 rfl) ?_
        refine ef_callV (As := [.int (iv ((i : Int)))]) (rest := [.long (jv (-(bo : Int)))]) ⟨hx, hb, hml, hown, hts⟩ (c_valueAt l dC dI ht ho (wd_lt Y) (i : Int) ⟨by omega, by omega⟩) (cwV 1 hts gX1_becomeDifference_X1_valueAt rfl rfl rfl (by decide +kernel) ⟨Nat.le_of_ble_eq_true rfl, Nat.le_of_ble_eq_true rfl⟩) hK hNX hP hD hS j0 ho.2.1 rfl rfl rfl hl.1 rfl (Nat.le_of_ble_eq_true rfl) dX1_becomeDifference_18 ⟨Nat.zero_le _, Nat.zero_le _⟩ (fun o w1 H locs hq hP hD hS => ?_)
        obtain ⟨rfl, e9⟩ := hq
        rw [e9] at hP hD
        refine W.eq (g2 := F0 m 21 ls [.long (jv (wz (wd Y) (i : Int))), .long (jv (-(bo : Int)))]) rfl ?_
        refine iw_topl (y := jv (((wd Y i : Nat) : Int))) (by rw [wz_in (by omega)]) ?_
        refine lv_aload_n hx hb dX1_becomeDifference_21 rfl (lv_at hl 2 rfl) ?_
        refine lv_iload hx hb dX1_becomeDifference_22 (lv_at hl 4 rfl) ?_
        refine ef_callV (As := [.int (iv ((i : Int)))]) (rest := [.long (jv (((wd Y i : Nat) : Int))), .long (jv (-(bo : Int)))]) ⟨hx, hb, hml, hown, hts⟩ (c_valueAt l dC dI ht hp (wd_lt Z) (i : Int) ⟨by omega, by omega⟩) (cwV 1 hts gX1_becomeDifference_X1_valueAt rfl rfl rfl (by decide +kernel) ⟨Nat.le_of_ble_eq_true rfl, Nat.le_of_ble_eq_true rfl⟩) hK hNX hP hD hS i0 hp.2.1 rfl rfl rfl hl.1 rfl (Nat.le_of_ble_eq_true rfl) dX1_becomeDifference_24 ⟨Nat.zero_le _, Nat.zero_le _⟩ (fun o w1 H locs hq hP hD hS => ?_)
        obtain ⟨rfl, e9⟩ := hq
        rw [e9] at hP hD
        refine W.eq (g2 := F0 m 27 ls [.long (jv (wz (wd Z) (i : Int))), .long (jv (((wd Y i : Nat) : Int))), .long (jv (-(bo : Int)))]) rfl ?_
        refine iw_topl (y := jv (((wd Z i : Nat) : Int))) (by rw [wz_in (by omega)]) ?_
        refine iw_lsub hx hb dX1_becomeDifference_27 ?_
        refine iw_ladd hx hb dX1_becomeDifference_28 ?_
        have hyl := wd_lt Y i
        have hzl := wd_lt Z i
        obtain ⟨z, hz9⟩ : ∃ z : Int, z = -(bo : Int) + ((wd Y i : Int) - (wd Z i : Int)) := ⟨_, rfl⟩
        refine iw_topl (y := jv (z)) (congrArg jv (by rw [hz9] : (((-(bo : Int)) + ((((wd Y i : Nat) : Int)) - (((wd Z i : Nat) : Int)))) : Int) = (z))) ?_
        refine lv_lstore_n (lv' := [(3, .long (jv (z))), (0, .ref h), (1, .ref g), (2, .ref g2), (5, .int (iv ((i : Int))))]) hx hb dX1_becomeDifference_29 rfl hl (by decide) rfl (fun ls hl => ?_)
        refine lv_aload_n hx hb dX1_becomeDifference_30 rfl (lv_at hl 1 rfl) ?_
        refine lv_iload hx hb dX1_becomeDifference_31 (lv_at hl 4 rfl) ?_
        refine lv_lload_n hx hb dX1_becomeDifference_33 rfl (lv_at hl 0 rfl) ?_
        refine ef_callV (As := [.int (iv ((i : Int))), .long (jv (z))]) (rest := []) ⟨hx, hb, hml, hown, hts⟩ (c_put l dC dI ht hw (i : Int) ⟨by omega, by omega⟩ z) (cwV 2 hts gX1_becomeDifference_X1_put rfl rfl rfl (by decide +kernel) ⟨Nat.le_of_ble_eq_true rfl, Nat.le_of_ble_eq_true rfl⟩) hK hNX hP hD hS k0 hw.2.1 rfl rfl rfl hl.1 rfl (Nat.le_of_ble_eq_true rfl) dX1_becomeDifference_34 ⟨Nat.zero_le _, Nat.zero_le _⟩ (fun o w1 H locs hq hP hD hS => ?_)
        obtain ⟨rfl, rfl⟩ := hq
        have hP := efP2 hw0.1 hP
        have hD := efD2 hw0.1 hD
        have hw : isW (wW ws k0 k1 h a cI ((n : Int)) (wp G (i : Int) z)) k0 k1 h a cI ((n : Int)) (wp G (i : Int) z) := hw0.w _ _
        have ho := ho0.o hoa (wo h a ((n : Int))) (wa cI a (wp G (i : Int) z))
        have hp := hp0.o hpa (wo h a ((n : Int))) (wa cI a (wp G (i : Int) z))
        refine W.eq (g2 := F0 m 37 ls []) rfl ?_
        obtain ⟨bo2, hbo2⟩ : ∃ q : Nat, q = if z < 0 then 1 else 0 := ⟨_, rfl⟩
        have hbo3 : z / 4294967296 = -(bo2 : Int) := by rw [hbo2]; split <;> omega
        refine lv_lload_n hx hb dX1_becomeDifference_37 rfl (lv_at hl 0 rfl) ?_
        refine lv_bipush (v := iv (32)) hx hb dX1_becomeDifference_38 (by decide) ?_
        refine iw_lshr hx hb ⟨by omega, by omega⟩ dX1_becomeDifference_40 ?_
        refine iw_topl (y := jv (-(bo2 : Int))) (congrArg jv (by exact hbo3 : (((z) / 4294967296) : Int) = (-(bo2 : Int)))) ?_
        refine lv_lstore_n (lv' := [(3, .long (jv (-(bo2 : Int)))), (0, .ref h), (1, .ref g), (2, .ref g2), (5, .int (iv ((i : Int))))]) hx hb dX1_becomeDifference_41 rfl hl (by decide) rfl (fun ls hl => ?_)
        refine lv_iinc (v := iv (((i + 1 : Nat) : Int))) (lv' := [(5, .int (iv (((i + 1 : Nat) : Int)))), (3, .long (jv (-(bo2 : Int)))), (0, .ref h), (1, .ref g), (2, .ref g2)]) hx hb dX1_becomeDifference_42 hl (k := 4) rfl (iv_inc i) (by decide) rfl (fun ls hl => ?_)
        refine lv_goto (tgt := 5) hx hb dX1_becomeDifference_45 (by decide) ?_
        exact ih (i + 1) (bo2) (wp G (i : Int) z) (by omega) (by rw [hbo2]; split <;> omega) (wp_lt h2 _ _) (nv_dstep (by omega) h3 (by rw [hz9] at hbo3 ⊢; omega)) (fun j hj => by rw [wp_ne (by omega)]; exact h4 j (by omega)) (by omega) H locs ls hP hD hS (lv_sub hl [2, 3, 4, 1, 0] rfl)
  exact loop (wl Y + 1) (0) (0) (F) (Nat.zero_le _) (by omega) (hF) (rfl) (fun j _ => rfl) (by omega) H locs ls hP hD hS (lv_sub hl [2, 3, 4, 1, 0] rfl)

set_option maxRecDepth 100000 in
set_option maxHeartbeats 4000000 in
/-- becomeDifference(greater, lesser), the greater is this -/
theorem c_diffA (l : Launch) (dC : Nat → ClassId) (dI : Nat → Nat → Nat) {cI : ClassId} {tys : List (ClassId × FieldType)} (ht : tys[0]? = some (cI, .int)) {ws : va_W} {k0 k1 h a Y : Nat} (hw : isW ws k0 k1 h a cI (wl Y : Int) (wd Y)) (hY : wl Y ≤ 300) {i0 i1 g2 b2 Z : Nat} (hp : isW ws i0 i1 g2 b2 cI (wl Z : Int) (wd Z)) (hZ : wl Z ≤ 300) (hpa : apt k0 k1 i0 i1) (hle : Z ≤ Y) : ef_C l yX1_becomeDifference wsX1_becomeDifference ({ frames := 2, cells := 0, slots := 0, locals := 45 } : Room) [.ref h, .ref h, .ref g2] (dC, dI) vwCl tys ws (fun o w1 => o = none ∧ w1 = wW ws k0 k1 h a cI (wl (Y - Z) : Int) (wd (Y - Z))) := by
  refine ef_C.of (cc := cX1_becomeDifference) (maxL := 6) (ret := none) (by decide) rfl (Nat.le_of_ble_eq_true rfl) ?_
  intro p e s m below meth c ls hx hb hml hr hts hown hlocks hK hNX hP hD hS hl
  have hl : lv_has ls 6 [(0, .ref h), (1, .ref h), (2, .ref g2)] := hl
  have hown : s.vm.findClass RX1 = some m.cls := hown
  generalize hH : s.heap = H at hP ⊢
  have hS : va_S (ef_A ws) s.heap H [] := by rw [← hH]; exact hS
  generalize ([] : List Loc) = locs at hS ⊢
  have hn : wl Y ≤ 301 := by omega
  have hF := wd_lt Y
  have hz : ∀ j, wl Y ≤ j → j < 301 → wd Y j = 0 := fun j q _ => wd_above q
  have hw0 := hw
  have hp0 := hp
  have hP := efP0 hw0 hP
  have hD := efD0 hw0 hD
  have hw : isW (wW ws k0 k1 h a cI ((wl Y : Int)) (wd Y)) k0 k1 h a cI ((wl Y : Int)) (wd Y) := hw0.w _ _
  have hp := hp0.o hpa (wo h a ((wl Y : Int))) (wa cI a (wd Y))
  have hwz : wl Z ≤ wl Y := wl_le (Nat.lt_of_le_of_lt hle (wl_lt Y))
  refine lv_lconst (v := jv (0)) hx hb dX1_becomeDifference_0 (by decide) ?_
  refine lv_lstore_n (lv' := [(3, .long (jv (0))), (0, .ref h), (1, .ref h), (2, .ref g2)]) hx hb dX1_becomeDifference_1 rfl hl (by decide) rfl (fun ls hl => ?_)
  refine lv_iconst (v := iv (0)) hx hb dX1_becomeDifference_2 (by decide) ?_
  refine lv_istore (lv' := [(5, .int (iv (0))), (3, .long (jv (0))), (0, .ref h), (1, .ref h), (2, .ref g2)]) hx hb dX1_becomeDifference_3 hl (by decide) rfl (fun ls hl => ?_)
  have loop : ∀ (fuel : Nat) (i : Nat) (bo : Nat) (G : Nat → Nat), (i ≤ wl Y) → (bo ≤ 1) → (∀ j, G j < 4294967296) → (nv G i + nv (wd Z) i = nv (wd Y) i + bo * 2 ^ (32 * i)) → (∀ j, i ≤ j → G j = wd Y j) → (wl Y < i + fuel) → ∀ (H : Heap) (locs : List Loc) (ls : Array Slot), va_P (dC, dI) vwCl (wW ws k0 k1 h a cI (wl Y : Int) G) H → va_D (ef_A ws) (wW ws k0 k1 h a cI (wl Y : Int) G) → va_S (ef_A ws) s.heap H locs → lv_has ls 6 [(0, .ref h), (1, .ref h), (2, .ref g2), (3, .long (jv (-(bo : Int)))), (5, .int (iv ((i : Int))))] → W p l e ({ frames := 2, cells := 0, slots := 0, locals := 45 } : Room) s m ([.ref h, .ref h, .ref g2] : List Value).toArray below meth c H locs 0 0 (ef_R below (dC, dI) vwCl ws (fun o w1 => o = none ∧ w1 = wW ws k0 k1 h a cI (wl (Y - Z) : Int) (wd (Y - Z))) [.ref h, .ref h, .ref g2] s) (F0 m 5 ls []) := by
    intro fuel
    induction fuel with
    | zero => intro i bo G h1 hc h2 h3 h4 h5; exfalso; omega
    | succ fuel ih =>
      intro i bo G h1 hc h2 h3 h4 h5 H locs ls hP hD hS hl
      have hw : isW (wW ws k0 k1 h a cI ((wl Y : Int)) (G)) k0 k1 h a cI ((wl Y : Int)) (G) := hw0.w _ _
      have hp := hp0.o hpa (wo h a ((wl Y : Int))) (wa cI a (G))
      refine lv_iload hx hb dX1_becomeDifference_5 (lv_at hl 4 rfl) ?_
      refine lv_aload_n hx hb dX1_becomeDifference_7 rfl (lv_at hl 1 rfl) ?_
      refine va_get (D := (dC, dI)) (ci := 1) (v := .int (iv ((wl Y : Int)))) (C := RX1) (T := TX1) (N := 2) hx hb hts (by decide +kernel) hown hK hP k0 hw.2.1 rfl 1 (by decide) (hts (.fieldLink RX1 15 "ExactFractions$Whole" "used" "I") (by decide +kernel)) (fun _ h9 => h9) rfl dX1_becomeDifference_8 ?_
      refine iw_icmp_ge (tgt := 48) hx hb dX1_becomeDifference_11 (by decide) ⟨by omega, by omega⟩ ⟨by omega, by omega⟩ (fun c1 => ?_) (fun c1 => ?_)
      ·
        have hi : i = wl Y := by omega
        subst hi
        have hv : nv G (min (wl Y) 301) = Y - Z := by
          rw [show min (wl Y) 301 = wl Y by omega]
          rw [nv_self' hwz, nv_self] at h3
          have q1 := nv_lt (F := G) (k := wl Y) (fun j _ => h2 j)
          have q2 : bo = 0 := by
            rcases Nat.lt_or_ge 0 bo with q | q
            · have q4 : bo = 1 := by omega
              rw [q4] at h3
              omega
            · omega
          rw [q2] at h3
          omega
        refine lv_aload_n hx hb dX1_becomeDifference_48 rfl (lv_at hl 0 rfl) ?_
        refine lv_aload_n hx hb dX1_becomeDifference_49 rfl (lv_at hl 1 rfl) ?_
        refine va_get (D := (dC, dI)) (ci := 1) (v := .int (iv ((wl Y : Int)))) (C := RX1) (T := TX1) (N := 2) hx hb hts (by decide +kernel) hown hK hP k0 hw.2.1 rfl 1 (by decide) (hts (.fieldLink RX1 15 "ExactFractions$Whole" "used" "I") (by decide +kernel)) (fun _ h9 => h9) rfl dX1_becomeDifference_50 ?_
        refine ef_callV (As := [.int (iv ((wl Y : Int)))]) (rest := []) ⟨hx, hb, hml, hown, hts⟩ (c_settle l dC dI ht hw hn h2 (wl Y) (by omega) (fun j q1 q2 q3 => by rw [h4 j (by omega)]; exact hz j q2 q3)) (cwV 1 hts gX1_becomeDifference_X1_settle rfl rfl rfl (by decide +kernel) ⟨Nat.le_of_ble_eq_true rfl, Nat.le_of_ble_eq_true rfl⟩) hK hNX hP hD hS k0 hw.2.1 rfl rfl rfl hl.1 rfl (Nat.le_of_ble_eq_true rfl) dX1_becomeDifference_53 ⟨Nat.zero_le _, Nat.zero_le _⟩ (fun o w1 H locs hq hP hD hS => ?_)
        rw [hv] at hq
        obtain ⟨rfl, rfl⟩ := hq
        have hP := efP2 hw0.1 hP
        have hD := efD2 hw0.1 hD
        have hw : isW (wW ws k0 k1 h a cI ((wl (Y - Z) : Int)) (wd (Y - Z))) k0 k1 h a cI ((wl (Y - Z) : Int)) (wd (Y - Z)) := hw0.w _ _
        have hp := hp0.o hpa (wo h a ((wl (Y - Z) : Int))) (wa cI a (wd (Y - Z)))
        refine W.eq (g2 := F0 m 56 ls []) rfl ?_
        exact ef_vret hx hb hr hlocks hP hD hS dX1_becomeDifference_56 (⟨rfl, rfl⟩)
      ·
        refine lv_lload_n hx hb dX1_becomeDifference_14 rfl (lv_at hl 3 rfl) ?_
        refine lv_aload_n hx hb dX1_becomeDifference_15 rfl (lv_at hl 1 rfl) ?_
        refine lv_iload hx hb dX1_becomeDifference_16 (lv_at hl 4 rfl) ?_
        refine ef_callV (As := [.int (iv ((i : Int)))]) (rest := [.long (jv (-(bo : Int)))]) ⟨hx, hb, hml, hown, hts⟩ (c_valueAt l dC dI ht hw h2 (i : Int) ⟨by omega, by omega⟩) (cwV 1 hts gX1_becomeDifference_X1_valueAt rfl rfl rfl (by decide +kernel) ⟨Nat.le_of_ble_eq_true rfl, Nat.le_of_ble_eq_true rfl⟩) hK hNX hP hD hS k0 hw.2.1 rfl rfl rfl hl.1 rfl (Nat.le_of_ble_eq_true rfl) dX1_becomeDifference_18 ⟨Nat.zero_le _, Nat.zero_le _⟩ (fun o w1 H locs hq hP hD hS => ?_)
        obtain ⟨rfl, e9⟩ := hq
        rw [e9] at hP hD
        refine W.eq (g2 := F0 m 21 ls [.long (jv (wz (G) (i : Int))), .long (jv (-(bo : Int)))]) rfl ?_
        refine iw_topl (y := jv (((G i : Nat) : Int))) (by rw [wz_in (by omega)]) ?_
        refine iw_topl (y := jv ((wd Y i : Int))) (congrArg jv (by rw [h4 i (by omega)] : ((((G i : Nat) : Int)) : Int) = ((wd Y i : Int)))) ?_
        refine lv_aload_n hx hb dX1_becomeDifference_21 rfl (lv_at hl 2 rfl) ?_
        refine lv_iload hx hb dX1_becomeDifference_22 (lv_at hl 4 rfl) ?_
        refine ef_callV (As := [.int (iv ((i : Int)))]) (rest := [.long (jv ((wd Y i : Int))), .long (jv (-(bo : Int)))]) ⟨hx, hb, hml, hown, hts⟩ (c_valueAt l dC dI ht hp (wd_lt Z) (i : Int) ⟨by omega, by omega⟩) (cwV 1 hts gX1_becomeDifference_X1_valueAt rfl rfl rfl (by decide +kernel) ⟨Nat.le_of_ble_eq_true rfl, Nat.le_of_ble_eq_true rfl⟩) hK hNX hP hD hS i0 hp.2.1 rfl rfl rfl hl.1 rfl (Nat.le_of_ble_eq_true rfl) dX1_becomeDifference_24 ⟨Nat.zero_le _, Nat.zero_le _⟩ (fun o w1 H locs hq hP hD hS => ?_)
        obtain ⟨rfl, e9⟩ := hq
        rw [e9] at hP hD
        refine W.eq (g2 := F0 m 27 ls [.long (jv (wz (wd Z) (i : Int))), .long (jv ((wd Y i : Int))), .long (jv (-(bo : Int)))]) rfl ?_
        refine iw_topl (y := jv (((wd Z i : Nat) : Int))) (by rw [wz_in (by omega)]) ?_
        refine iw_lsub hx hb dX1_becomeDifference_27 ?_
        refine iw_ladd hx hb dX1_becomeDifference_28 ?_
        have hyl := wd_lt Y i
        have hzl := wd_lt Z i
        obtain ⟨z, hz9⟩ : ∃ z : Int, z = -(bo : Int) + ((wd Y i : Int) - (wd Z i : Int)) := ⟨_, rfl⟩
        refine iw_topl (y := jv (z)) (congrArg jv (by rw [hz9] : (((-(bo : Int)) + (((wd Y i : Int)) - (((wd Z i : Nat) : Int)))) : Int) = (z))) ?_
        refine lv_lstore_n (lv' := [(3, .long (jv (z))), (0, .ref h), (1, .ref h), (2, .ref g2), (5, .int (iv ((i : Int))))]) hx hb dX1_becomeDifference_29 rfl hl (by decide) rfl (fun ls hl => ?_)
        refine lv_aload_n hx hb dX1_becomeDifference_30 rfl (lv_at hl 1 rfl) ?_
        refine lv_iload hx hb dX1_becomeDifference_31 (lv_at hl 4 rfl) ?_
        refine lv_lload_n hx hb dX1_becomeDifference_33 rfl (lv_at hl 0 rfl) ?_
        refine ef_callV (As := [.int (iv ((i : Int))), .long (jv (z))]) (rest := []) ⟨hx, hb, hml, hown, hts⟩ (c_put l dC dI ht hw (i : Int) ⟨by omega, by omega⟩ z) (cwV 2 hts gX1_becomeDifference_X1_put rfl rfl rfl (by decide +kernel) ⟨Nat.le_of_ble_eq_true rfl, Nat.le_of_ble_eq_true rfl⟩) hK hNX hP hD hS k0 hw.2.1 rfl rfl rfl hl.1 rfl (Nat.le_of_ble_eq_true rfl) dX1_becomeDifference_34 ⟨Nat.zero_le _, Nat.zero_le _⟩ (fun o w1 H locs hq hP hD hS => ?_)
        obtain ⟨rfl, rfl⟩ := hq
        have hP := efP2 hw0.1 hP
        have hD := efD2 hw0.1 hD
        have hw : isW (wW ws k0 k1 h a cI ((wl Y : Int)) (wp G (i : Int) z)) k0 k1 h a cI ((wl Y : Int)) (wp G (i : Int) z) := hw0.w _ _
        have hp := hp0.o hpa (wo h a ((wl Y : Int))) (wa cI a (wp G (i : Int) z))
        refine W.eq (g2 := F0 m 37 ls []) rfl ?_
        obtain ⟨bo2, hbo2⟩ : ∃ q : Nat, q = if z < 0 then 1 else 0 := ⟨_, rfl⟩
        have hbo3 : z / 4294967296 = -(bo2 : Int) := by rw [hbo2]; split <;> omega
        refine lv_lload_n hx hb dX1_becomeDifference_37 rfl (lv_at hl 0 rfl) ?_
        refine lv_bipush (v := iv (32)) hx hb dX1_becomeDifference_38 (by decide) ?_
        refine iw_lshr hx hb ⟨by omega, by omega⟩ dX1_becomeDifference_40 ?_
        refine iw_topl (y := jv (-(bo2 : Int))) (congrArg jv (by exact hbo3 : (((z) / 4294967296) : Int) = (-(bo2 : Int)))) ?_
        refine lv_lstore_n (lv' := [(3, .long (jv (-(bo2 : Int)))), (0, .ref h), (1, .ref h), (2, .ref g2), (5, .int (iv ((i : Int))))]) hx hb dX1_becomeDifference_41 rfl hl (by decide) rfl (fun ls hl => ?_)
        refine lv_iinc (v := iv (((i + 1 : Nat) : Int))) (lv' := [(5, .int (iv (((i + 1 : Nat) : Int)))), (3, .long (jv (-(bo2 : Int)))), (0, .ref h), (1, .ref h), (2, .ref g2)]) hx hb dX1_becomeDifference_42 hl (k := 4) rfl (iv_inc i) (by decide) rfl (fun ls hl => ?_)
        refine lv_goto (tgt := 5) hx hb dX1_becomeDifference_45 (by decide) ?_
        exact ih (i + 1) (bo2) (wp G (i : Int) z) (by omega) (by rw [hbo2]; split <;> omega) (wp_lt h2 _ _) (nv_dstep (by omega) h3 (by rw [hz9] at hbo3 ⊢; omega)) (fun j hj => by rw [wp_ne (by omega)]; exact h4 j (by omega)) (by omega) H locs ls hP hD hS (lv_sub hl [2, 3, 4, 1, 0] rfl)
  exact loop (wl Y + 1) (0) (0) (wd Y) (Nat.zero_le _) (by omega) (hF) (rfl) (fun j _ => rfl) (by omega) H locs ls hP hD hS (lv_sub hl [2, 3, 4, 1, 0] rfl)
end
section
set_option maxRecDepth 100000 in
set_option maxHeartbeats 4000000 in
/-- addMultiple(other, mu, pl) -/
theorem c_addMul (l : Launch) (dC : Nat → ClassId) (dI : Nat → Nat → Nat) {cI : ClassId} {tys : List (ClassId × FieldType)} (ht : tys[0]? = some (cI, .int)) {ws : va_W} {k0 k1 h a n : Nat} {F : Nat → Nat} (hw : isW ws k0 k1 h a cI (n : Int) F) (hF : ∀ j, F j < 4294967296) {j0 j1 g b Y : Nat} (ho : isW ws j0 j1 g b cI (wl Y : Int) (wd Y)) (hY : wl Y ≤ 300) (hoa : apt k0 k1 j0 j1) (mu pl : Nat) (hmu : mu < 4294967296) (hpl : pl + wl Y < 301) : ef_C l yX1_addMultiple wsX1_addMultiple ({ frames := 2, cells := 0, slots := 0, locals := 42 } : Room) [.ref h, .ref g, .long (jv ((mu : Int))), .int (iv ((pl : Int)))] (dC, dI) vwCl tys ws (fun o w1 => o = none ∧ ∃ G : Nat → Nat, w1 = wW ws k0 k1 h a cI (n : Int) G ∧ (∀ j, G j < 4294967296) ∧ (∀ j, j < pl ∨ pl + wl Y < j → G j = F j) ∧ nv G (pl + wl Y + 1) = nv F (pl + wl Y) + mu * Y * 2 ^ (32 * pl)) := by
  refine ef_C.of (cc := cX1_addMultiple) (maxL := 8) (ret := none) (by decide) rfl (Nat.le_of_ble_eq_true rfl) ?_
  intro p e s m below meth c ls hx hb hml hr hts hown hlocks hK hNX hP hD hS hl
  have hl : lv_has ls 8 [(0, .ref h), (1, .ref g), (2, .long (jv ((mu : Int)))), (4, .int (iv ((pl : Int))))] := hl
  have hown : s.vm.findClass RX1 = some m.cls := hown
  generalize hH : s.heap = H at hP ⊢
  have hS : va_S (ef_A ws) s.heap H [] := by rw [← hH]; exact hS
  generalize ([] : List Loc) = locs at hS ⊢
  have hw0 := hw
  have ho0 := ho
  have hP := efP0 hw0 hP
  have hD := efD0 hw0 hD
  have hw : isW (wW ws k0 k1 h a cI ((n : Int)) (F)) k0 k1 h a cI ((n : Int)) (F) := hw0.w _ _
  have ho := ho0.o hoa (wo h a ((n : Int))) (wa cI a (F))
  refine lv_lconst (v := jv (0)) hx hb dX1_addMultiple_0 (by decide) ?_
  refine lv_lstore (lv' := [(5, .long (jv (0))), (0, .ref h), (1, .ref g), (2, .long (jv ((mu : Int)))), (4, .int (iv ((pl : Int))))]) hx hb dX1_addMultiple_1 hl (by decide) rfl (fun ls hl => ?_)
  refine lv_iconst (v := iv (0)) hx hb dX1_addMultiple_3 (by decide) ?_
  refine lv_istore (lv' := [(7, .int (iv (0))), (5, .long (jv (0))), (0, .ref h), (1, .ref g), (2, .long (jv ((mu : Int)))), (4, .int (iv ((pl : Int))))]) hx hb dX1_addMultiple_4 hl (by decide) rfl (fun ls hl => ?_)
  have loop : ∀ (fuel : Nat) (i : Nat) (cy : Nat) (G : Nat → Nat), (i ≤ wl Y) → (cy < 4294967296) → (∀ j, G j < 4294967296) → (nv G (pl + i) + cy * 2 ^ (32 * (pl + i)) = nv F (pl + i) + mu * nv (wd Y) i * 2 ^ (32 * pl)) → (∀ j, j < pl ∨ pl + i ≤ j → G j = F j) → (wl Y < i + fuel) → ∀ (H : Heap) (locs : List Loc) (ls : Array Slot), va_P (dC, dI) vwCl (wW ws k0 k1 h a cI (n : Int) G) H → va_D (ef_A ws) (wW ws k0 k1 h a cI (n : Int) G) → va_S (ef_A ws) s.heap H locs → lv_has ls 8 [(0, .ref h), (1, .ref g), (2, .long (jv ((mu : Int)))), (4, .int (iv ((pl : Int)))), (5, .long (jv ((cy : Int)))), (7, .int (iv ((i : Int))))] → W p l e ({ frames := 2, cells := 0, slots := 0, locals := 42 } : Room) s m ([.ref h, .ref g, .long (jv ((mu : Int))), .int (iv ((pl : Int)))] : List Value).toArray below meth c H locs 0 0 (ef_R below (dC, dI) vwCl ws (fun o w1 => o = none ∧ ∃ G : Nat → Nat, w1 = wW ws k0 k1 h a cI (n : Int) G ∧ (∀ j, G j < 4294967296) ∧ (∀ j, j < pl ∨ pl + wl Y < j → G j = F j) ∧ nv G (pl + wl Y + 1) = nv F (pl + wl Y) + mu * Y * 2 ^ (32 * pl)) [.ref h, .ref g, .long (jv ((mu : Int))), .int (iv ((pl : Int)))] s) (F0 m 6 ls []) := by
    intro fuel
    induction fuel with
    | zero => intro i cy G h1 hc h2 h3 h4 h5; exfalso; omega
    | succ fuel ih =>
      intro i cy G h1 hc h2 h3 h4 h5 H locs ls hP hD hS hl
      have hw : isW (wW ws k0 k1 h a cI ((n : Int)) (G)) k0 k1 h a cI ((n : Int)) (G) := hw0.w _ _
      have ho := ho0.o hoa (wo h a ((n : Int))) (wa cI a (G))
      refine lv_iload hx hb dX1_addMultiple_6 (lv_at hl 5 rfl) ?_
      refine lv_aload_n hx hb dX1_addMultiple_8 rfl (lv_at hl 1 rfl) ?_
      refine va_get (D := (dC, dI)) (ci := 1) (v := .int (iv ((wl Y : Int)))) (C := RX1) (T := TX1) (N := 2) hx hb hts (by decide +kernel) hown hK hP j0 ho.2.1 rfl 1 (by decide) (hts (.fieldLink RX1 15 "ExactFractions$Whole" "used" "I") (by decide +kernel)) (fun _ h9 => h9) rfl dX1_addMultiple_9 ?_
      refine iw_icmp_ge (tgt := 62) hx hb dX1_addMultiple_12 (by decide) ⟨by omega, by omega⟩ ⟨by omega, by omega⟩ (fun c1 => ?_) (fun c1 => ?_)
      ·
        have hi : i = wl Y := by omega
        subst hi
        refine lv_aload_n hx hb dX1_addMultiple_62 rfl (lv_at hl 0 rfl) ?_
        refine lv_iload hx hb dX1_addMultiple_63 (lv_at hl 3 rfl) ?_
        refine lv_aload_n hx hb dX1_addMultiple_65 rfl (lv_at hl 1 rfl) ?_
        refine va_get (D := (dC, dI)) (ci := 1) (v := .int (iv ((wl Y : Int)))) (C := RX1) (T := TX1) (N := 2) hx hb hts (by decide +kernel) hown hK hP j0 ho.2.1 rfl 1 (by decide) (hts (.fieldLink RX1 15 "ExactFractions$Whole" "used" "I") (by decide +kernel)) (fun _ h9 => h9) rfl dX1_addMultiple_66 ?_
        refine iw_iadd hx hb dX1_addMultiple_69 ?_
        refine iw_topi (y := iv (((pl + wl Y : Nat) : Int))) (congrArg iv (by omega : ((((pl : Int)) + ((wl Y : Int))) : Int) = (((pl + wl Y : Nat) : Int)))) ?_
        refine lv_lload hx hb dX1_addMultiple_70 (lv_at hl 4 rfl) ?_
        refine ef_callV (As := [.int (iv (((pl + wl Y : Nat) : Int))), .long (jv ((cy : Int)))]) (rest := []) ⟨hx, hb, hml, hown, hts⟩ (c_put l dC dI ht hw ((pl + wl Y : Nat) : Int) ⟨by omega, by omega⟩ (cy : Int)) (cwV 2 hts gX1_addMultiple_X1_put rfl rfl rfl (by decide +kernel) ⟨Nat.le_of_ble_eq_true rfl, Nat.le_of_ble_eq_true rfl⟩) hK hNX hP hD hS k0 hw.2.1 rfl rfl rfl hl.1 rfl (Nat.le_of_ble_eq_true rfl) dX1_addMultiple_72 ⟨Nat.zero_le _, Nat.zero_le _⟩ (fun o w1 H locs hq hP hD hS => ?_)
        obtain ⟨rfl, rfl⟩ := hq
        have hP := efP2 hw0.1 hP
        have hD := efD2 hw0.1 hD
        have hw : isW (wW ws k0 k1 h a cI ((n : Int)) (wp G ((pl + wl Y : Nat) : Int) (cy : Int))) k0 k1 h a cI ((n : Int)) (wp G ((pl + wl Y : Nat) : Int) (cy : Int)) := hw0.w _ _
        have ho := ho0.o hoa (wo h a ((n : Int))) (wa cI a (wp G ((pl + wl Y : Nat) : Int) (cy : Int)))
        refine W.eq (g2 := F0 m 75 ls []) rfl ?_
        exact ef_vret hx hb hr hlocks hP hD hS dX1_addMultiple_75 (⟨rfl, _, rfl, wp_lt h2 _ _, fun j hj => by rw [wp_ne (by omega)]; exact h4 j (by omega), by
              show nv (wp G ((pl + wl Y : Nat) : Int) (cy : Int)) (pl + wl Y) + wp G ((pl + wl Y : Nat) : Int) (cy : Int) (pl + wl Y) * 2 ^ (32 * (pl + wl Y)) = _
              rw [nv_cong (G := G) (fun j hj => wp_ne (by omega)), wp_at (by omega), Nat.mod_eq_of_lt hc, h3, nv_self]⟩)
      ·
        refine lv_lload hx hb dX1_addMultiple_15 (lv_at hl 4 rfl) ?_
        refine lv_aload_n hx hb dX1_addMultiple_17 rfl (lv_at hl 1 rfl) ?_
        refine lv_iload hx hb dX1_addMultiple_18 (lv_at hl 5 rfl) ?_
        refine ef_callV (As := [.int (iv ((i : Int)))]) (rest := [.long (jv ((cy : Int)))]) ⟨hx, hb, hml, hown, hts⟩ (c_valueAt l dC dI ht ho (wd_lt Y) (i : Int) ⟨by omega, by omega⟩) (cwV 1 hts gX1_addMultiple_X1_valueAt rfl rfl rfl (by decide +kernel) ⟨Nat.le_of_ble_eq_true rfl, Nat.le_of_ble_eq_true rfl⟩) hK hNX hP hD hS j0 ho.2.1 rfl rfl rfl hl.1 rfl (Nat.le_of_ble_eq_true rfl) dX1_addMultiple_20 ⟨Nat.zero_le _, Nat.zero_le _⟩ (fun o w1 H locs hq hP hD hS => ?_)
        obtain ⟨rfl, e9⟩ := hq
        rw [e9] at hP hD
        refine W.eq (g2 := F0 m 23 ls [.long (jv (wz (wd Y) (i : Int))), .long (jv ((cy : Int)))]) rfl ?_
        refine iw_topl (y := jv (((wd Y i : Nat) : Int))) (by rw [wz_in (by omega)]) ?_
        refine lv_lload_n hx hb dX1_addMultiple_23 rfl (lv_at hl 2 rfl) ?_
        refine iw_lmul hx hb dX1_addMultiple_24 ?_
        refine lv_aload_n hx hb dX1_addMultiple_25 rfl (lv_at hl 0 rfl) ?_
        refine lv_iload hx hb dX1_addMultiple_26 (lv_at hl 3 rfl) ?_
        refine lv_iload hx hb dX1_addMultiple_28 (lv_at hl 5 rfl) ?_
        refine iw_iadd hx hb dX1_addMultiple_30 ?_
        refine iw_topi (y := iv (((pl + i : Nat) : Int))) (congrArg iv (by omega : ((((pl : Int)) + ((i : Int))) : Int) = (((pl + i : Nat) : Int)))) ?_
        refine ef_callV (As := [.int (iv (((pl + i : Nat) : Int)))]) (rest := [.long (jv ((((wd Y i : Nat) : Int)) * ((mu : Int)))), .long (jv ((cy : Int)))]) ⟨hx, hb, hml, hown, hts⟩ (c_valueAt l dC dI ht hw h2 ((pl + i : Nat) : Int) ⟨by omega, by omega⟩) (cwV 1 hts gX1_addMultiple_X1_valueAt rfl rfl rfl (by decide +kernel) ⟨Nat.le_of_ble_eq_true rfl, Nat.le_of_ble_eq_true rfl⟩) hK hNX hP hD hS k0 hw.2.1 rfl rfl rfl hl.1 rfl (Nat.le_of_ble_eq_true rfl) dX1_addMultiple_31 ⟨Nat.zero_le _, Nat.zero_le _⟩ (fun o w1 H locs hq hP hD hS => ?_)
        obtain ⟨rfl, e9⟩ := hq
        rw [e9] at hP hD
        refine W.eq (g2 := F0 m 34 ls [.long (jv (wz (G) ((pl + i : Nat) : Int))), .long (jv ((((wd Y i : Nat) : Int)) * ((mu : Int)))), .long (jv ((cy : Int)))]) rfl ?_
        refine iw_topl (y := jv (((G (pl + i) : Nat) : Int))) (by rw [wz_in (by omega)]) ?_
        refine iw_topl (y := jv ((F (pl + i) : Int))) (congrArg jv (by rw [h4 (pl + i) (by omega)] : ((((G (pl + i) : Nat) : Int)) : Int) = ((F (pl + i) : Int)))) ?_
        refine iw_ladd hx hb dX1_addMultiple_34 ?_
        refine iw_ladd hx hb dX1_addMultiple_35 ?_
        have hyl := wd_lt Y i
        have hfl := hF (pl + i)
        have hyb : wd Y i * mu ≤ 4294967295 * 4294967295 := Nat.mul_le_mul (by omega) (by omega)
        obtain ⟨z, hz9⟩ : ∃ z, z = cy + (wd Y i * mu + F (pl + i)) := ⟨_, rfl⟩
        refine iw_topl (y := jv ((z : Int))) (congrArg jv (by rw [hz9]; push_cast; rfl : ((((cy : Int)) + (((((wd Y i : Nat) : Int)) * ((mu : Int))) + ((F (pl + i) : Int)))) : Int) = ((z : Int)))) ?_
        refine lv_lstore (lv' := [(5, .long (jv ((z : Int)))), (0, .ref h), (1, .ref g), (2, .long (jv ((mu : Int)))), (4, .int (iv ((pl : Int)))), (7, .int (iv ((i : Int))))]) hx hb dX1_addMultiple_36 hl (by decide) rfl (fun ls hl => ?_)
        refine lv_aload_n hx hb dX1_addMultiple_38 rfl (lv_at hl 1 rfl) ?_
        refine lv_iload hx hb dX1_addMultiple_39 (lv_at hl 4 rfl) ?_
        refine lv_iload hx hb dX1_addMultiple_41 (lv_at hl 5 rfl) ?_
        refine iw_iadd hx hb dX1_addMultiple_43 ?_
        refine iw_topi (y := iv (((pl + i : Nat) : Int))) (congrArg iv (by omega : ((((pl : Int)) + ((i : Int))) : Int) = (((pl + i : Nat) : Int)))) ?_
        refine lv_lload hx hb dX1_addMultiple_44 (lv_at hl 0 rfl) ?_
        refine ef_callV (As := [.int (iv (((pl + i : Nat) : Int))), .long (jv ((z : Int)))]) (rest := []) ⟨hx, hb, hml, hown, hts⟩ (c_put l dC dI ht hw ((pl + i : Nat) : Int) ⟨by omega, by omega⟩ (z : Int)) (cwV 2 hts gX1_addMultiple_X1_put rfl rfl rfl (by decide +kernel) ⟨Nat.le_of_ble_eq_true rfl, Nat.le_of_ble_eq_true rfl⟩) hK hNX hP hD hS k0 hw.2.1 rfl rfl rfl hl.1 rfl (Nat.le_of_ble_eq_true rfl) dX1_addMultiple_46 ⟨Nat.zero_le _, Nat.zero_le _⟩ (fun o w1 H locs hq hP hD hS => ?_)
        obtain ⟨rfl, rfl⟩ := hq
        have hP := efP2 hw0.1 hP
        have hD := efD2 hw0.1 hD
        have hw : isW (wW ws k0 k1 h a cI ((n : Int)) (wp G ((pl + i : Nat) : Int) (z : Int))) k0 k1 h a cI ((n : Int)) (wp G ((pl + i : Nat) : Int) (z : Int)) := hw0.w _ _
        have ho := ho0.o hoa (wo h a ((n : Int))) (wa cI a (wp G ((pl + i : Nat) : Int) (z : Int)))
        refine W.eq (g2 := F0 m 49 ls []) rfl ?_
        refine lv_lload hx hb dX1_addMultiple_49 (lv_at hl 0 rfl) ?_
        refine lv_bipush (v := iv (32)) hx hb dX1_addMultiple_51 (by decide) ?_
        refine iw_lushr hx hb (by omega) (by omega) dX1_addMultiple_53 ?_
        refine iw_topl (y := jv (((z / 4294967296 : Nat) : Int))) (congrArg jv (by omega : ((((z : Int)) / 4294967296) : Int) = (((z / 4294967296 : Nat) : Int)))) ?_
        refine lv_lstore (lv' := [(5, .long (jv (((z / 4294967296 : Nat) : Int)))), (0, .ref h), (1, .ref g), (2, .long (jv ((mu : Int)))), (4, .int (iv ((pl : Int)))), (7, .int (iv ((i : Int))))]) hx hb dX1_addMultiple_54 hl (by decide) rfl (fun ls hl => ?_)
        refine lv_iinc (v := iv (((i + 1 : Nat) : Int))) (lv' := [(7, .int (iv (((i + 1 : Nat) : Int)))), (5, .long (jv (((z / 4294967296 : Nat) : Int)))), (0, .ref h), (1, .ref g), (2, .long (jv ((mu : Int)))), (4, .int (iv ((pl : Int))))]) hx hb dX1_addMultiple_56 hl (k := 5) rfl (iv_inc i) (by decide) rfl (fun ls hl => ?_)
        refine lv_goto (tgt := 6) hx hb dX1_addMultiple_59 (by decide) ?_
        exact ih (i + 1) (z / 4294967296) (wp G ((pl + i : Nat) : Int) (z : Int)) (by omega) (by omega) (wp_lt h2 _ _) (by
              have q := nv_step (i := pl + i) (by omega) h3 hz9
              rw [amul_step] at q
              exact q) (fun j hj => by rw [wp_ne (by omega)]; exact h4 j (by omega)) (by omega) H locs ls hP hD hS (lv_sub hl [2, 3, 4, 5, 1, 0] rfl)
  exact loop (wl Y + 1) (0) (0) (F) (Nat.zero_le _) (by omega) (hF) (by show nv F pl + 0 * _ = nv F pl + mu * 0 * _; rw [Nat.mul_zero, Nat.zero_mul, Nat.zero_mul]) (fun j _ => rfl) (by omega) H locs ls hP hD hS (lv_sub hl [2, 3, 4, 5, 1, 0] rfl)

set_option maxRecDepth 100000 in
set_option maxHeartbeats 4000000 in
/-- becomeProduct(one, other) -/
theorem c_product (l : Launch) (dC : Nat → ClassId) (dI : Nat → Nat → Nat) {cI : ClassId} {tys : List (ClassId × FieldType)} (ht : tys[0]? = some (cI, .int)) {ws : va_W} {k0 k1 h a n : Nat} {F : Nat → Nat} (hw : isW ws k0 k1 h a cI (n : Int) F) (hn : n ≤ 301) (hF : ∀ j, F j < 4294967296) (hz : ∀ j, n ≤ j → j < 301 → F j = 0) {j0 j1 g b Y : Nat} (ho : isW ws j0 j1 g b cI (wl Y : Int) (wd Y)) (hY : wl Y ≤ 300) (hoa : apt k0 k1 j0 j1) {i0 i1 g2 b2 Z : Nat} (hp : isW ws i0 i1 g2 b2 cI (wl Z : Int) (wd Z)) (hZ : wl Z ≤ 300) (hpa : apt k0 k1 i0 i1) (hYZ : wl Y + wl Z ≤ 300) : ef_C l yX1_becomeProduct wsX1_becomeProduct ({ frames := 3, cells := 0, slots := 0, locals := 69 } : Room) [.ref h, .ref g, .ref g2] (dC, dI) vwCl tys ws (fun o w1 => o = none ∧ w1 = wW ws k0 k1 h a cI (wl (Y * Z) : Int) (wd (Y * Z))) := by
  refine ef_C.of (cc := cX1_becomeProduct) (maxL := 4) (ret := none) (by decide) rfl (Nat.le_of_ble_eq_true rfl) ?_
  intro p e s m below meth c ls hx hb hml hr hts hown hlocks hK hNX hP hD hS hl
  have hl : lv_has ls 4 [(0, .ref h), (1, .ref g), (2, .ref g2)] := hl
  have hown : s.vm.findClass RX1 = some m.cls := hown
  generalize hH : s.heap = H at hP ⊢
  have hS : va_S (ef_A ws) s.heap H [] := by rw [← hH]; exact hS
  generalize ([] : List Loc) = locs at hS ⊢
  have hw0 := hw
  have ho0 := ho
  have hp0 := hp
  have hP := efP0 hw0 hP
  have hD := efD0 hw0 hD
  have hw : isW (wW ws k0 k1 h a cI ((n : Int)) (F)) k0 k1 h a cI ((n : Int)) (F) := hw0.w _ _
  have ho := ho0.o hoa (wo h a ((n : Int))) (wa cI a (F))
  have hp := hp0.o hpa (wo h a ((n : Int))) (wa cI a (F))
  refine lv_aload_n hx hb dX1_becomeProduct_0 rfl (lv_at hl 0 rfl) ?_
  refine lv_iconst (v := iv (0)) hx hb dX1_becomeProduct_1 (by decide) ?_
  refine iw_topi (y := iv (((0 : Nat) : Int))) (congrArg iv (by omega : ((0) : Int) = (((0 : Nat) : Int)))) ?_
  refine ef_callV (As := [.int (iv (((0 : Nat) : Int)))]) (rest := []) ⟨hx, hb, hml, hown, hts⟩ (c_settle l dC dI ht hw hn hF 0 (by omega) (fun j q1 q2 q3 => hz j q2 q3)) (cwV 1 hts gX1_becomeProduct_X1_settle rfl rfl rfl (by decide +kernel) ⟨Nat.le_of_ble_eq_true rfl, Nat.le_of_ble_eq_true rfl⟩) hK hNX hP hD hS k0 hw.2.1 rfl rfl rfl hl.1 rfl (Nat.le_of_ble_eq_true rfl) dX1_becomeProduct_2 ⟨Nat.zero_le _, Nat.zero_le _⟩ (fun o w1 H locs hq hP hD hS => ?_)
  rw [show nv F (min 0 301) = 0 from rfl, show wl 0 = 0 from rfl] at hq
  obtain ⟨rfl, rfl⟩ := hq
  have hP := efP2 hw0.1 hP
  have hD := efD2 hw0.1 hD
  have hw : isW (wW ws k0 k1 h a cI (((0 : Nat) : Int)) (wd 0)) k0 k1 h a cI (((0 : Nat) : Int)) (wd 0) := hw0.w _ _
  have ho := ho0.o hoa (wo h a (((0 : Nat) : Int))) (wa cI a (wd 0))
  have hp := hp0.o hpa (wo h a (((0 : Nat) : Int))) (wa cI a (wd 0))
  refine W.eq (g2 := F0 m 5 ls []) rfl ?_
  refine lv_iconst (v := iv (0)) hx hb dX1_becomeProduct_5 (by decide) ?_
  refine lv_istore_n (lv' := [(3, .int (iv (0))), (0, .ref h), (1, .ref g), (2, .ref g2)]) hx hb dX1_becomeProduct_6 rfl hl (by decide) rfl (fun ls hl => ?_)
  have loop : ∀ (fuel : Nat) (i : Nat) (G : Nat → Nat), (i ≤ wl Y) → (∀ j, G j < 4294967296) → (nv G (i + wl Z) = nv (wd Y) i * Z) → (∀ j, i + wl Z ≤ j → G j = 0) → (wl Y < i + fuel) → ∀ (H : Heap) (locs : List Loc) (ls : Array Slot), va_P (dC, dI) vwCl (wW ws k0 k1 h a cI ((0 : Nat) : Int) G) H → va_D (ef_A ws) (wW ws k0 k1 h a cI ((0 : Nat) : Int) G) → va_S (ef_A ws) s.heap H locs → lv_has ls 4 [(0, .ref h), (1, .ref g), (2, .ref g2), (3, .int (iv ((i : Int))))] → W p l e ({ frames := 3, cells := 0, slots := 0, locals := 69 } : Room) s m ([.ref h, .ref g, .ref g2] : List Value).toArray below meth c H locs 0 0 (ef_R below (dC, dI) vwCl ws (fun o w1 => o = none ∧ w1 = wW ws k0 k1 h a cI (wl (Y * Z) : Int) (wd (Y * Z))) [.ref h, .ref g, .ref g2] s) (F0 m 7 ls []) := by
    intro fuel
    induction fuel with
    | zero => intro i G h1 h2 h3 h4 h5; exfalso; omega
    | succ fuel ih =>
      intro i G h1 h2 h3 h4 h5 H locs ls hP hD hS hl
      have hw : isW (wW ws k0 k1 h a cI (((0 : Nat) : Int)) (G)) k0 k1 h a cI (((0 : Nat) : Int)) (G) := hw0.w _ _
      have ho := ho0.o hoa (wo h a (((0 : Nat) : Int))) (wa cI a (G))
      have hp := hp0.o hpa (wo h a (((0 : Nat) : Int))) (wa cI a (G))
      refine lv_iload_n hx hb dX1_becomeProduct_7 rfl (lv_at hl 3 rfl) ?_
      refine lv_aload_n hx hb dX1_becomeProduct_8 rfl (lv_at hl 1 rfl) ?_
      refine va_get (D := (dC, dI)) (ci := 1) (v := .int (iv ((wl Y : Int)))) (C := RX1) (T := TX1) (N := 2) hx hb hts (by decide +kernel) hown hK hP j0 ho.2.1 rfl 1 (by decide) (hts (.fieldLink RX1 15 "ExactFractions$Whole" "used" "I") (by decide +kernel)) (fun _ h9 => h9) rfl dX1_becomeProduct_9 ?_
      refine iw_icmp_ge (tgt := 32) hx hb dX1_becomeProduct_12 (by decide) ⟨by omega, by omega⟩ ⟨by omega, by omega⟩ (fun c1 => ?_) (fun c1 => ?_)
      ·
        have hi : i = wl Y := by omega
        subst hi
        have hv : nv G (min (wl Y + wl Z) 301) = Y * Z := by rw [show min (wl Y + wl Z) 301 = wl Y + wl Z by omega, h3, nv_self]
        refine lv_aload_n hx hb dX1_becomeProduct_32 rfl (lv_at hl 0 rfl) ?_
        refine lv_aload_n hx hb dX1_becomeProduct_33 rfl (lv_at hl 1 rfl) ?_
        refine va_get (D := (dC, dI)) (ci := 1) (v := .int (iv ((wl Y : Int)))) (C := RX1) (T := TX1) (N := 2) hx hb hts (by decide +kernel) hown hK hP j0 ho.2.1 rfl 1 (by decide) (hts (.fieldLink RX1 15 "ExactFractions$Whole" "used" "I") (by decide +kernel)) (fun _ h9 => h9) rfl dX1_becomeProduct_34 ?_
        refine lv_aload_n hx hb dX1_becomeProduct_37 rfl (lv_at hl 2 rfl) ?_
        refine va_get (D := (dC, dI)) (ci := 1) (v := .int (iv ((wl Z : Int)))) (C := RX1) (T := TX1) (N := 2) hx hb hts (by decide +kernel) hown hK hP i0 hp.2.1 rfl 1 (by decide) (hts (.fieldLink RX1 15 "ExactFractions$Whole" "used" "I") (by decide +kernel)) (fun _ h9 => h9) rfl dX1_becomeProduct_38 ?_
        refine iw_iadd hx hb dX1_becomeProduct_41 ?_
        refine iw_topi (y := iv (((wl Y + wl Z : Nat) : Int))) (congrArg iv (by omega : ((((wl Y : Int)) + ((wl Z : Int))) : Int) = (((wl Y + wl Z : Nat) : Int)))) ?_
        refine ef_callV (As := [.int (iv (((wl Y + wl Z : Nat) : Int)))]) (rest := []) ⟨hx, hb, hml, hown, hts⟩ (c_settle l dC dI ht hw (Nat.zero_le _) h2 (wl Y + wl Z) (by omega) (fun j q1 q2 q3 => h4 j q1)) (cwV 1 hts gX1_becomeProduct_X1_settle rfl rfl rfl (by decide +kernel) ⟨Nat.le_of_ble_eq_true rfl, Nat.le_of_ble_eq_true rfl⟩) hK hNX hP hD hS k0 hw.2.1 rfl rfl rfl hl.1 rfl (Nat.le_of_ble_eq_true rfl) dX1_becomeProduct_42 ⟨Nat.zero_le _, Nat.zero_le _⟩ (fun o w1 H locs hq hP hD hS => ?_)
        rw [hv] at hq
        obtain ⟨rfl, rfl⟩ := hq
        have hP := efP2 hw0.1 hP
        have hD := efD2 hw0.1 hD
        have hw : isW (wW ws k0 k1 h a cI ((wl (Y * Z) : Int)) (wd (Y * Z))) k0 k1 h a cI ((wl (Y * Z) : Int)) (wd (Y * Z)) := hw0.w _ _
        have ho := ho0.o hoa (wo h a ((wl (Y * Z) : Int))) (wa cI a (wd (Y * Z)))
        have hp := hp0.o hpa (wo h a ((wl (Y * Z) : Int))) (wa cI a (wd (Y * Z)))
        refine W.eq (g2 := F0 m 45 ls []) rfl ?_
        exact ef_vret hx hb hr hlocks hP hD hS dX1_becomeProduct_45 (⟨rfl, rfl⟩)
      ·
        refine lv_aload_n hx hb dX1_becomeProduct_15 rfl (lv_at hl 0 rfl) ?_
        refine lv_aload_n hx hb dX1_becomeProduct_16 rfl (lv_at hl 2 rfl) ?_
        refine lv_aload_n hx hb dX1_becomeProduct_17 rfl (lv_at hl 1 rfl) ?_
        refine lv_iload_n hx hb dX1_becomeProduct_18 rfl (lv_at hl 3 rfl) ?_
        refine ef_callV (As := [.int (iv ((i : Int)))]) (rest := [.ref g2, .ref h]) ⟨hx, hb, hml, hown, hts⟩ (c_valueAt l dC dI ht ho (wd_lt Y) (i : Int) ⟨by omega, by omega⟩) (cwV 1 hts gX1_becomeProduct_X1_valueAt rfl rfl rfl (by decide +kernel) ⟨Nat.le_of_ble_eq_true rfl, Nat.le_of_ble_eq_true rfl⟩) hK hNX hP hD hS j0 ho.2.1 rfl rfl rfl hl.1 rfl (Nat.le_of_ble_eq_true rfl) dX1_becomeProduct_19 ⟨Nat.zero_le _, Nat.zero_le _⟩ (fun o w1 H locs hq hP hD hS => ?_)
        obtain ⟨rfl, e9⟩ := hq
        rw [e9] at hP hD
        refine W.eq (g2 := F0 m 22 ls [.long (jv (wz (wd Y) (i : Int))), .ref g2, .ref h]) rfl ?_
        refine iw_topl (y := jv (((wd Y i : Nat) : Int))) (by rw [wz_in (by omega)]) ?_
        refine lv_iload_n hx hb dX1_becomeProduct_22 rfl (lv_at hl 3 rfl) ?_
        refine ef_callV (As := [.ref g2, .long (jv (((wd Y i : Nat) : Int))), .int (iv ((i : Int)))]) (rest := []) ⟨hx, hb, hml, hown, hts⟩ (c_addMul l dC dI ht hw h2 hp hZ hpa (wd Y i) i (wd_lt Y i) (by omega)) (cwV 3 hts gX1_becomeProduct_X1_addMultiple rfl rfl rfl (by decide +kernel) ⟨Nat.le_of_ble_eq_true rfl, Nat.le_of_ble_eq_true rfl⟩) hK hNX hP hD hS k0 hw.2.1 rfl rfl rfl hl.1 rfl (Nat.le_of_ble_eq_true rfl) dX1_becomeProduct_23 ⟨Nat.zero_le _, Nat.zero_le _⟩ (fun o w1 H locs hq hP hD hS => ?_)
        obtain ⟨rfl, G2, rfl, k2, k4, k3⟩ := hq
        have hP := efP2 hw0.1 hP
        have hD := efD2 hw0.1 hD
        have hw : isW (wW ws k0 k1 h a cI (((0 : Nat) : Int)) (G2)) k0 k1 h a cI (((0 : Nat) : Int)) (G2) := hw0.w _ _
        have ho := ho0.o hoa (wo h a (((0 : Nat) : Int))) (wa cI a (G2))
        have hp := hp0.o hpa (wo h a (((0 : Nat) : Int))) (wa cI a (G2))
        refine W.eq (g2 := F0 m 26 ls []) rfl ?_
        refine lv_iinc (v := iv (((i + 1 : Nat) : Int))) (lv' := [(3, .int (iv (((i + 1 : Nat) : Int)))), (0, .ref h), (1, .ref g), (2, .ref g2)]) hx hb dX1_becomeProduct_26 hl (k := 3) rfl (iv_inc i) (by decide) rfl (fun ls hl => ?_)
        refine lv_goto (tgt := 7) hx hb dX1_becomeProduct_29 (by decide) ?_
        exact ih (i + 1) (G2) (by omega) (k2) (by
              rw [show i + 1 + wl Z = i + wl Z + 1 by omega, k3, h3]
              show _ = (nv (wd Y) i + wd Y i * 2 ^ (32 * i)) * Z
              rw [Nat.add_mul, Nat.mul_right_comm]) (fun j hj => by rw [k4 j (by omega)]; exact h4 j (by omega)) (by omega) H locs ls hP hD hS (lv_sub hl [1, 2, 3, 0] rfl)
  exact loop (wl Y + 1) (0) (wd 0) (Nat.zero_le _) (wd_lt 0) (by rw [nv_wd, Nat.zero_mod]; show 0 = 0 * Z; rw [Nat.zero_mul]) (fun j _ => wd_above (Nat.zero_le _)) (by omega) H locs ls hP hD hS (lv_sub hl [1, 2, 3, 0] rfl)

set_option maxRecDepth 100000 in
set_option maxHeartbeats 4000000 in
/-- shiftUp(k) -/
theorem c_shiftUp (l : Launch) (dC : Nat → ClassId) (dI : Nat → Nat → Nat) {cI : ClassId} {tys : List (ClassId × FieldType)} (ht : tys[0]? = some (cI, .int)) {ws : va_W} {k0 k1 h a X : Nat} (hw : isW ws k0 k1 h a cI (wl X : Int) (wd X)) (hX : wl X ≤ 301) (k : Nat) (hk : wl X + k / 32 + 1 ≤ 301) : ef_C l yX1_shiftUp wsX1_shiftUp ({ frames := 2, cells := 0, slots := 0, locals := 45 } : Room) [.ref h, .int (iv ((k : Int)))] (dC, dI) vwCl tys ws (fun o w1 => o = none ∧ w1 = wW ws k0 k1 h a cI (wl (X * 2 ^ k) : Int) (wd (X * 2 ^ k))) := by
  refine ef_C.of (cc := cX1_shiftUp) (maxL := 8) (ret := none) (by decide) rfl (Nat.le_of_ble_eq_true rfl) ?_
  intro p e s m below meth c ls hx hb hml hr hts hown hlocks hK hNX hP hD hS hl
  have hl : lv_has ls 8 [(0, .ref h), (1, .int (iv ((k : Int))))] := hl
  have hown : s.vm.findClass RX1 = some m.cls := hown
  generalize hH : s.heap = H at hP ⊢
  have hS : va_S (ef_A ws) s.heap H [] := by rw [← hH]; exact hS
  generalize ([] : List Loc) = locs at hS ⊢
  have hw0 := hw
  have hP := efP0 hw0 hP
  have hD := efD0 hw0 hD
  have hw : isW (wW ws k0 k1 h a cI ((wl X : Int)) (wd X)) k0 k1 h a cI ((wl X : Int)) (wd X) := hw0.w _ _
  refine lv_iload_n hx hb dX1_shiftUp_0 rfl (lv_at hl 1 rfl) ?_
  refine lv_iconst (v := iv (5)) hx hb dX1_shiftUp_1 (by decide) ?_
  refine iw_ishr5 hx hb (by omega) dX1_shiftUp_2 ?_
  refine lv_istore_n (lv' := [(2, .int (iv (((k / 32 : Nat) : Int)))), (0, .ref h), (1, .int (iv ((k : Int))))]) hx hb dX1_shiftUp_3 rfl hl (by decide) rfl (fun ls hl => ?_)
  refine lv_iload_n hx hb dX1_shiftUp_4 rfl (lv_at hl 2 rfl) ?_
  refine lv_bipush (v := iv (31)) hx hb dX1_shiftUp_5 (by decide) ?_
  refine iw_iand31 hx hb (by omega) dX1_shiftUp_7 ?_
  obtain ⟨pq, hpq⟩ : ∃ q, q = k / 32 := ⟨_, rfl⟩
  obtain ⟨rq, hrq⟩ : ∃ q, q = k % 32 := ⟨_, rfl⟩
  have hkk : k = 32 * pq + rq := by omega
  have hsz0 : wl (X * 2 ^ k) ≤ wl X + pq + 1 := wl_le (by
    rw [show 32 * (wl X + pq + 1) = 32 * wl X + (32 * pq + 32) by omega, Nat.pow_add]
    exact Nat.mul_lt_mul_of_lt_of_le (wl_lt X) (Nat.pow_le_pow_right (by decide) (by omega)) (Nat.pow_pos (by decide)))
  rw [← hrq]
  rw [← hpq] at hl
  refine lv_istore_n (lv' := [(3, .int (iv ((rq : Int)))), (2, .int (iv ((pq : Int)))), (0, .ref h), (1, .int (iv ((k : Int))))]) hx hb dX1_shiftUp_8 rfl hl (by decide) rfl (fun ls hl => ?_)
  refine lv_aload_n hx hb dX1_shiftUp_9 rfl (lv_at hl 2 rfl) ?_
  refine va_get (D := (dC, dI)) (ci := 1) (v := .int (iv ((wl X : Int)))) (C := RX1) (T := TX1) (N := 2) hx hb hts (by decide +kernel) hown hK hP k0 hw.2.1 rfl 1 (by decide) (hts (.fieldLink RX1 15 "ExactFractions$Whole" "used" "I") (by decide +kernel)) (fun _ h9 => h9) rfl dX1_shiftUp_10 ?_
  refine lv_iload_n hx hb dX1_shiftUp_13 rfl (lv_at hl 1 rfl) ?_
  refine iw_iadd hx hb dX1_shiftUp_14 ?_
  refine lv_iconst (v := iv (1)) hx hb dX1_shiftUp_15 (by decide) ?_
  refine iw_iadd hx hb dX1_shiftUp_16 ?_
  refine iw_topi (y := iv (((wl X + pq + 1 : Nat) : Int))) (congrArg iv (by omega : (((((wl X : Int)) + ((pq : Int))) + (1)) : Int) = (((wl X + pq + 1 : Nat) : Int)))) ?_
  refine lv_istore (lv' := [(4, .int (iv (((wl X + pq + 1 : Nat) : Int)))), (3, .int (iv ((rq : Int)))), (2, .int (iv ((pq : Int)))), (0, .ref h), (1, .int (iv ((k : Int))))]) hx hb dX1_shiftUp_17 hl (by decide) rfl (fun ls hl => ?_)
  refine lv_iload hx hb dX1_shiftUp_19 (lv_at hl 0 rfl) ?_
  refine lv_iconst (v := iv (1)) hx hb dX1_shiftUp_21 (by decide) ?_
  refine iw_isub hx hb dX1_shiftUp_22 ?_
  refine lv_istore (lv' := [(5, .int (iv ((((wl X + pq + 1 : Nat) : Int)) - (1)))), (4, .int (iv (((wl X + pq + 1 : Nat) : Int)))), (3, .int (iv ((rq : Int)))), (2, .int (iv ((pq : Int)))), (0, .ref h), (1, .int (iv ((k : Int))))]) hx hb dX1_shiftUp_23 hl (by decide) rfl (fun ls hl => ?_)
  have loop : ∀ (fuel : Nat) (n : Nat) (G : Nat → Nat), (n ≤ wl X + pq + 1) → (∀ j, G j < 4294967296) → (∀ j, G j = if n ≤ j then wd (X * 2 ^ k) j else wd X j) → (n < fuel) → ∀ (H : Heap) (locs : List Loc) (ls : Array Slot), va_P (dC, dI) vwCl (wW ws k0 k1 h a cI (wl X : Int) G) H → va_D (ef_A ws) (wW ws k0 k1 h a cI (wl X : Int) G) → va_S (ef_A ws) s.heap H locs → lv_has ls 8 [(0, .ref h), (1, .int (iv ((k : Int)))), (2, .int (iv ((pq : Int)))), (3, .int (iv ((rq : Int)))), (4, .int (iv (((wl X + pq + 1 : Nat) : Int)))), (5, .int (iv ((n : Int) - 1)))] → W p l e ({ frames := 2, cells := 0, slots := 0, locals := 45 } : Room) s m ([.ref h, .int (iv ((k : Int)))] : List Value).toArray below meth c H locs 0 0 (ef_R below (dC, dI) vwCl ws (fun o w1 => o = none ∧ w1 = wW ws k0 k1 h a cI (wl (X * 2 ^ k) : Int) (wd (X * 2 ^ k))) [.ref h, .int (iv ((k : Int)))] s) (F0 m 25 ls []) := by
    intro fuel
    induction fuel with
    | zero => intro n G h1 h2 h3 h5; exfalso; omega
    | succ fuel ih =>
      intro n G h1 h2 h3 h5 H locs ls hP hD hS hl
      have hw : isW (wW ws k0 k1 h a cI ((wl X : Int)) (G)) k0 k1 h a cI ((wl X : Int)) (G) := hw0.w _ _
      refine lv_iload hx hb dX1_shiftUp_25 (lv_at hl 5 rfl) ?_
      refine iw_if_lt (tgt := 73) hx hb dX1_shiftUp_27 (by decide) ⟨by omega, by omega⟩ (fun c1 => ?_) (fun c1 => ?_)
      ·
        have hn0 : n = 0 := by omega
        subst hn0
        have hG : ∀ j, G j = wd (X * 2 ^ k) j := fun j => by rw [h3 j, if_pos (Nat.zero_le _)]
        have hsz : wl (X * 2 ^ k) ≤ wl X + pq + 1 := wl_le (by
          rw [show 32 * (wl X + pq + 1) = 32 * wl X + (32 * pq + 32) by omega, Nat.pow_add]
          exact Nat.mul_lt_mul_of_lt_of_le (wl_lt X) (Nat.pow_le_pow_right (by decide) (by omega)) (Nat.pow_pos (by decide)))
        have hv : nv G (min (wl X + pq + 1) 301) = X * 2 ^ k := by rw [show min (wl X + pq + 1) 301 = wl X + pq + 1 by omega, nv_cong (fun j _ => hG j), nv_self' hsz]
        refine lv_aload_n hx hb dX1_shiftUp_73 rfl (lv_at hl 0 rfl) ?_
        refine lv_iload hx hb dX1_shiftUp_74 (lv_at hl 4 rfl) ?_
        refine ef_callV (As := [.int (iv (((wl X + pq + 1 : Nat) : Int)))]) (rest := []) ⟨hx, hb, hml, hown, hts⟩ (c_settle l dC dI ht hw hX h2 (wl X + pq + 1) (by omega) (fun j q1 q2 q3 => by rw [hG j]; exact wd_above (by omega))) (cwV 1 hts gX1_shiftUp_X1_settle rfl rfl rfl (by decide +kernel) ⟨Nat.le_of_ble_eq_true rfl, Nat.le_of_ble_eq_true rfl⟩) hK hNX hP hD hS k0 hw.2.1 rfl rfl rfl hl.1 rfl (Nat.le_of_ble_eq_true rfl) dX1_shiftUp_76 ⟨Nat.zero_le _, Nat.zero_le _⟩ (fun o w1 H locs hq hP hD hS => ?_)
        rw [hv] at hq
        obtain ⟨rfl, rfl⟩ := hq
        have hP := efP2 hw0.1 hP
        have hD := efD2 hw0.1 hD
        have hw : isW (wW ws k0 k1 h a cI ((wl (X * 2 ^ k) : Int)) (wd (X * 2 ^ k))) k0 k1 h a cI ((wl (X * 2 ^ k) : Int)) (wd (X * 2 ^ k)) := hw0.w _ _
        refine W.eq (g2 := F0 m 79 ls []) rfl ?_
        exact ef_vret hx hb hr hlocks hP hD hS dX1_shiftUp_79 (⟨rfl, rfl⟩)
      ·
        obtain ⟨i, rfl⟩ : ∃ i : Nat, n = i + 1 := ⟨n - 1, by omega⟩
        have hGl : ∀ j, j ≤ i → G j = wd X j := fun j hj => by rw [h3 j, if_neg (by omega)]
        obtain ⟨wh, hw1⟩ : ∃ q, q = if pq ≤ i then wd X (i - pq) else 0 := ⟨_, rfl⟩
        obtain ⟨wq, hw2⟩ : ∃ q, q = if pq + 1 ≤ i then wd X (i - pq - 1) else 0 := ⟨_, rfl⟩
        have hl1 : wh < 4294967296 := by rw [hw1]; split; exact wd_lt _ _; decide
        have hl0 : wq < 4294967296 := by rw [hw2]; split; exact wd_lt _ _; decide
        have e1 : wz G ((i : Int) - (pq : Int)) = wh := by
          rw [hw1]
          split
          · rw [show (i : Int) - (pq : Int) = ((i - pq : Nat) : Int) by omega, wz_in (by omega)]; exact hGl _ (by omega)
          · exact wz_out (by omega)
        have e0 : wz G ((i : Int) - (pq : Int) - 1) = wq := by
          rw [hw2]
          split
          · rw [show (i : Int) - (pq : Int) - 1 = ((i - pq - 1 : Nat) : Int) by omega, wz_in (by omega)]; exact hGl _ (by omega)
          · exact wz_out (by omega)
        refine lv_aload_n hx hb dX1_shiftUp_30 rfl (lv_at hl 0 rfl) ?_
        refine lv_iload hx hb dX1_shiftUp_31 (lv_at hl 5 rfl) ?_
        refine lv_iload_n hx hb dX1_shiftUp_33 rfl (lv_at hl 2 rfl) ?_
        refine iw_isub hx hb dX1_shiftUp_34 ?_
        refine iw_topi (y := iv ((i : Int) - (pq : Int))) (congrArg iv (by omega : (((((i + 1 : Nat) : Int) - 1) - ((pq : Int))) : Int) = ((i : Int) - (pq : Int)))) ?_
        refine ef_callV (As := [.int (iv ((i : Int) - (pq : Int)))]) (rest := []) ⟨hx, hb, hml, hown, hts⟩ (c_valueAt l dC dI ht hw h2 ((i : Int) - (pq : Int)) ⟨by omega, by omega⟩) (cwV 1 hts gX1_shiftUp_X1_valueAt rfl rfl rfl (by decide +kernel) ⟨Nat.le_of_ble_eq_true rfl, Nat.le_of_ble_eq_true rfl⟩) hK hNX hP hD hS k0 hw.2.1 rfl rfl rfl hl.1 rfl (Nat.le_of_ble_eq_true rfl) dX1_shiftUp_35 ⟨Nat.zero_le _, Nat.zero_le _⟩ (fun o w1 H locs hq hP hD hS => ?_)
        obtain ⟨rfl, e9⟩ := hq
        rw [e9] at hP hD
        refine W.eq (g2 := F0 m 38 ls [.long (jv (wz G ((i : Int) - (pq : Int))))]) rfl ?_
        refine iw_topl (y := jv ((wh : Int))) (by rw [e1]) ?_
        refine lv_bipush (v := iv (32)) hx hb dX1_shiftUp_38 (by decide) ?_
        refine iw_topi (y := iv (((32 : Nat) : Int))) (congrArg iv (by omega : ((32) : Int) = (((32 : Nat) : Int)))) ?_
        refine iw_lshlk (w := wh) (k := 32) hx hb (by decide) dX1_shiftUp_40 ?_
        refine iw_topl (y := jv (((wh * 4294967296 : Nat) : Int))) (congrArg jv (by rfl : ((((wh * 2 ^ 32 : Nat) : Int)) : Int) = (((wh * 4294967296 : Nat) : Int)))) ?_
        refine lv_aload_n hx hb dX1_shiftUp_41 rfl (lv_at hl 0 rfl) ?_
        refine lv_iload hx hb dX1_shiftUp_42 (lv_at hl 5 rfl) ?_
        refine lv_iload_n hx hb dX1_shiftUp_44 rfl (lv_at hl 2 rfl) ?_
        refine iw_isub hx hb dX1_shiftUp_45 ?_
        refine lv_iconst (v := iv (1)) hx hb dX1_shiftUp_46 (by decide) ?_
        refine iw_isub hx hb dX1_shiftUp_47 ?_
        refine iw_topi (y := iv ((i : Int) - (pq : Int) - 1)) (congrArg iv (by omega : ((((((i + 1 : Nat) : Int) - 1) - ((pq : Int))) - (1)) : Int) = ((i : Int) - (pq : Int) - 1))) ?_
        refine ef_callV (As := [.int (iv ((i : Int) - (pq : Int) - 1))]) (rest := [.long (jv (((wh * 4294967296 : Nat) : Int)))]) ⟨hx, hb, hml, hown, hts⟩ (c_valueAt l dC dI ht hw h2 ((i : Int) - (pq : Int) - 1) ⟨by omega, by omega⟩) (cwV 1 hts gX1_shiftUp_X1_valueAt rfl rfl rfl (by decide +kernel) ⟨Nat.le_of_ble_eq_true rfl, Nat.le_of_ble_eq_true rfl⟩) hK hNX hP hD hS k0 hw.2.1 rfl rfl rfl hl.1 rfl (Nat.le_of_ble_eq_true rfl) dX1_shiftUp_48 ⟨Nat.zero_le _, Nat.zero_le _⟩ (fun o w1 H locs hq hP hD hS => ?_)
        obtain ⟨rfl, e9⟩ := hq
        rw [e9] at hP hD
        refine W.eq (g2 := F0 m 51 ls [.long (jv (wz G ((i : Int) - (pq : Int) - 1))), .long (jv (((wh * 4294967296 : Nat) : Int)))]) rfl ?_
        refine iw_topl (y := jv ((wq : Int))) (by rw [e0]) ?_
        refine iw_lor hx hb hl1 hl0 dX1_shiftUp_51 ?_
        obtain ⟨z, hz9⟩ : ∃ z, z = wh * 4294967296 + wq := ⟨_, rfl⟩
        refine iw_topl (y := jv ((z : Int))) (congrArg jv (by rw [hz9] : ((((wh * 4294967296 + wq : Nat) : Int)) : Int) = ((z : Int)))) ?_
        refine lv_lstore (lv' := [(6, .long (jv ((z : Int)))), (0, .ref h), (1, .int (iv ((k : Int)))), (2, .int (iv ((pq : Int)))), (3, .int (iv ((rq : Int)))), (4, .int (iv (((wl X + pq + 1 : Nat) : Int)))), (5, .int (iv (((i + 1 : Nat) : Int) - 1)))]) hx hb dX1_shiftUp_52 hl (by decide) rfl (fun ls hl => ?_)
        refine lv_aload_n hx hb dX1_shiftUp_54 rfl (lv_at hl 1 rfl) ?_
        refine lv_iload hx hb dX1_shiftUp_55 (lv_at hl 6 rfl) ?_
        refine iw_topi (y := iv ((i : Int))) (congrArg iv (by omega : ((((i + 1 : Nat) : Int) - 1) : Int) = ((i : Int)))) ?_
        refine lv_lload hx hb dX1_shiftUp_57 (lv_at hl 0 rfl) ?_
        refine lv_bipush (v := iv (32)) hx hb dX1_shiftUp_59 (by decide) ?_
        refine lv_iload_n hx hb dX1_shiftUp_61 rfl (lv_at hl 4 rfl) ?_
        refine iw_isub hx hb dX1_shiftUp_62 ?_
        refine iw_topi (y := iv (((32 - rq : Nat) : Int))) (congrArg iv (by omega : (((32) - ((rq : Int))) : Int) = (((32 - rq : Nat) : Int)))) ?_
        refine iw_lushrk hx hb (by omega) (by omega) dX1_shiftUp_63 ?_
        refine ef_callV (As := [.int (iv ((i : Int))), .long (jv (((z / 2 ^ (32 - rq) : Nat) : Int)))]) (rest := []) ⟨hx, hb, hml, hown, hts⟩ (c_put l dC dI ht hw (i : Int) ⟨by omega, by omega⟩ ((z / 2 ^ (32 - rq) : Nat) : Int)) (cwV 2 hts gX1_shiftUp_X1_put rfl rfl rfl (by decide +kernel) ⟨Nat.le_of_ble_eq_true rfl, Nat.le_of_ble_eq_true rfl⟩) hK hNX hP hD hS k0 hw.2.1 rfl rfl rfl hl.1 rfl (Nat.le_of_ble_eq_true rfl) dX1_shiftUp_64 ⟨Nat.zero_le _, Nat.zero_le _⟩ (fun o w1 H locs hq hP hD hS => ?_)
        obtain ⟨rfl, rfl⟩ := hq
        have hP := efP2 hw0.1 hP
        have hD := efD2 hw0.1 hD
        have hw : isW (wW ws k0 k1 h a cI ((wl X : Int)) (wp G (i : Int) ((z / 2 ^ (32 - rq) : Nat) : Int))) k0 k1 h a cI ((wl X : Int)) (wp G (i : Int) ((z / 2 ^ (32 - rq) : Nat) : Int)) := hw0.w _ _
        refine W.eq (g2 := F0 m 67 ls []) rfl ?_
        refine lv_iinc (v := iv ((i : Int) - 1)) (lv' := [(5, .int (iv ((i : Int) - 1))), (6, .long (jv ((z : Int)))), (0, .ref h), (1, .int (iv ((k : Int)))), (2, .int (iv ((pq : Int)))), (3, .int (iv ((rq : Int)))), (4, .int (iv (((wl X + pq + 1 : Nat) : Int))))]) hx hb dX1_shiftUp_67 hl (k := 6) rfl (by rw [show ((i + 1 : Nat) : Int) - 1 = (i : Int) by omega]; exact iv_add (i : Int) (-1)) (by decide) rfl (fun ls hl => ?_)
        refine lv_goto (tgt := 25) hx hb dX1_shiftUp_70 (by decide) ?_
        exact ih (i) (wp G (i : Int) ((z / 2 ^ (32 - rq) : Nat) : Int)) (by omega) (wp_lt h2 _ _) (fun j => by
              by_cases q : j = i
              · subst q
                rw [wp_at (by omega), if_pos (Nat.le_refl _), hkk, wd_shift X pq rq j (by omega), hz9, hw1, hw2]
              · rw [wp_ne (by omega), h3 j]
                by_cases q2 : i + 1 ≤ j
                · rw [if_pos q2, if_pos (by omega)]
                · rw [if_neg q2, if_neg (by omega)]) (by omega) H locs ls hP hD hS (lv_sub hl [2, 3, 4, 5, 6, 0] rfl)
  exact loop (wl X + pq + 2) (wl X + pq + 1) (wd X) (Nat.le_refl _) (wd_lt X) (fun j => by
        by_cases q : wl X + pq + 1 ≤ j
        · rw [if_pos q, wd_above (by omega), wd_above (Nat.le_trans hsz0 q)]
        · rw [if_neg q]) (by omega) H locs ls hP hD hS (lv_sub hl [4, 5, 3, 2, 1, 0] rfl)
end
section
/-! The cells of a Fraction and of the whole class: fifteen cells -/
abbrev fo (f x y : Nat) (b e : Int) : Nat × va_E := (f, .inr (0, [.ref x, .ref y, .int (iv b), .int (iv e)]))
def cC (cI : ClassId) (q : Nat → Nat) (A1 U1 : Nat) (b1 e1 : Int) (A2 U2 : Nat) (b2 e2 : Int) (L R : Nat) : va_W :=
  [(q 0, .inr (2, [.ref (q 1), .ref (q 2), .ref (q 11), .ref (q 13)])), fo (q 1) (q 3) (q 5) b1 e1, fo (q 2) (q 7) (q 9) b2 e2,
   wo (q 3) (q 4) (wl A1), wa cI (q 4) (wd A1), wo (q 5) (q 6) (wl U1), wa cI (q 6) (wd U1), wo (q 7) (q 8) (wl A2), wa cI (q 8) (wd A2), wo (q 9) (q 10) (wl U2), wa cI (q 10) (wd U2),
   wo (q 11) (q 12) (wl L), wa cI (q 12) (wd L), wo (q 13) (q 14) (wl R), wa cI (q 14) (wd R)]
theorem isW_c {ws : va_W} {k0 k1 h a : Nat} {cI : ClassId} {X : Nat} (h0 : k0 ≠ k1) (h1 : ws[k0]? = some (wo h a (wl X))) (h2 : ws[k1]? = some (wa cI a (wd X))) : isW ws k0 k1 h a cI (wl X) (wd X) := ⟨h0, h1, h2⟩
theorem apt_c {k0 k1 j0 j1 : Nat} (h : (j0 != k0 && j0 != k1 && j1 != k0 && j1 != k1) = true) : apt k0 k1 j0 j1 := by
  simp only [Bool.and_eq_true, bne_iff_ne] at h
  exact ⟨h.1.1.1, h.1.1.2, h.1.2, h.2⟩
theorem wd_z {X : Nat} : ∀ j, wl X ≤ j → j < 301 → wd X j = 0 := fun _ h _ => wd_above h
def sgn (A : Nat) (b : Int) : Int := if A = 0 then 0 else if b = 0 then 1 else -1
theorem wl_bl {X k : Nat} (h : bl X ≤ 32 * k) : wl X ≤ k := wl_le (Nat.lt_of_lt_of_le (bl_lt X) (Nat.pow_le_pow_right (by decide) h))
theorem wl_mono {X Y : Nat} (h : X ≤ Y) : wl X ≤ wl Y := wl_le (Nat.lt_of_le_of_lt h (wl_lt Y))
theorem bl_mono {X Y : Nat} (h : X ≤ Y) : bl X ≤ bl Y := bl_le (Nat.lt_of_le_of_lt h (bl_lt Y))
theorem wl_mul {Y mu mo : Nat} (h : wl Y ≤ 150) (hmu : mu ≤ 1000000) (hmo : mo ≤ 1000000) : wl (Y * mu + mo) ≤ 152 := wl_le (by
  have h1 := wl_lt Y
  have h2 : 2 ^ (32 * wl Y) ≤ 2 ^ (32 * 150) := Nat.pow_le_pow_right (by decide) (by omega)
  have h3 : Y * mu ≤ 2 ^ (32 * 150) * 1000000 := Nat.mul_le_mul (by omega) hmu
  have h4 : (2 : Nat) ^ (32 * 152) = 2 ^ (32 * 150) * 18446744073709551616 := by rw [show (18446744073709551616 : Nat) = 2 ^ 64 from rfl, ← Nat.pow_add]
  have h5 : 0 < (2 : Nat) ^ (32 * 150) := Nat.pow_pos (by decide)
  rw [h4]
  generalize (2 : Nat) ^ (32 * 150) = T at h2 h3 h5 ⊢
  omega)
theorem wl_add {Y Z k : Nat} (h : wl Y ≤ k) (h2 : wl Z ≤ k) : wl (Y + Z) ≤ k + 1 := wl_le (by
  have h1 := Nat.lt_of_lt_of_le (wl_lt Y) (Nat.pow_le_pow_right (show 0 < 2 by decide) (show 32 * wl Y ≤ 32 * k by omega))
  have h3 := Nat.lt_of_lt_of_le (wl_lt Z) (Nat.pow_le_pow_right (show 0 < 2 by decide) (show 32 * wl Z ≤ 32 * k by omega))
  rw [p32]
  omega)
def sw0 (q : Nat → Nat) : Nat → Nat
  | 3 => q 5
  | 4 => q 6
  | 5 => q 3
  | 6 => q 4
  | n => q n
def sw1 (q : Nat → Nat) : Nat → Nat
  | 7 => q 9
  | 8 => q 10
  | 9 => q 7
  | 10 => q 8
  | n => q n

set_option maxRecDepth 100000 in
set_option maxHeartbeats 4000000 in
/-- numberOf -/
theorem c_numberOf0 (l : Launch) (dC : Nat → ClassId) (dI : Nat → Nat → Nat) {cI : ClassId} {tys : List (ClassId × FieldType)} (ht : tys[0]? = some (cI, .int)) (q : Nat → Nat) {A1 U1 A2 U2 L R : Nat} {b1 e1 b2 e2 : Int} : ef_C l yX2_numberOf wsX2_numberOf ({ frames := 0, cells := 0, slots := 0, locals := 0 } : Room) [.ref (q 0), .int (iv (0))] (dC, dI) vwCl tys (cC cI q (A1) (U1) (b1) (e1) (A2) (U2) (b2) (e2) (L) (R)) (fun o w1 => o = some (.ref (q 1)) ∧ w1 = cC cI q (A1) (U1) (b1) (e1) (A2) (U2) (b2) (e2) (L) (R)) := by
  refine ef_C.of (cc := cX2_numberOf) (maxL := 2) (ret := (some (.object "ExactFractions$Fraction"))) (by decide) rfl (Nat.le_of_ble_eq_true rfl) ?_
  intro p e s m below meth c ls hx hb hml hr hts hown hlocks hK hNX hP hD hS hl
  have hl : lv_has ls 2 [(0, .ref (q 0)), (1, .int (iv (0)))] := hl
  have hown : s.vm.findClass RX2 = some m.cls := hown
  generalize hH : s.heap = H at hP ⊢
  have hS : va_S (ef_A (cC cI q (A1) (U1) (b1) (e1) (A2) (U2) (b2) (e2) (L) (R))) s.heap H [] := by rw [← hH]; exact hS
  generalize ([] : List Loc) = locs at hS ⊢
  refine lv_iload_n hx hb dX2_numberOf_0 rfl (lv_at hl 1 rfl) ?_
  refine iw_if_ne (tgt := 9) hx hb dX2_numberOf_1 (by decide) ⟨by omega, by omega⟩ (fun c1 => ?_) (fun c1 => ?_)
  ·
    exact absurd rfl c1
  ·
    refine lv_aload_n hx hb dX2_numberOf_4 rfl (lv_at hl 0 rfl) ?_
    refine va_get (D := (dC, dI)) (ci := 2) (v := .ref (q 1)) (C := RX2) (T := TX2) (N := 4) hx hb hts (by decide +kernel) hown hK hP 0 rfl rfl 0 (by decide) (hts (.fieldLink RX2 12 "ExactFractions" "first" "LExactFractions$Fraction;") (by decide +kernel)) (fun _ h9 => h9) rfl dX2_numberOf_5 ?_
    exact ef_aret hx hb hr (Or.inl ⟨_, rfl⟩) (Or.inr ⟨_, rfl⟩) hlocks hP hD hS dX2_numberOf_8 (⟨rfl, rfl⟩)

set_option maxRecDepth 100000 in
set_option maxHeartbeats 4000000 in
/-- numberOf -/
theorem c_numberOf1 (l : Launch) (dC : Nat → ClassId) (dI : Nat → Nat → Nat) {cI : ClassId} {tys : List (ClassId × FieldType)} (ht : tys[0]? = some (cI, .int)) (q : Nat → Nat) {A1 U1 A2 U2 L R : Nat} {b1 e1 b2 e2 : Int} : ef_C l yX2_numberOf wsX2_numberOf ({ frames := 0, cells := 0, slots := 0, locals := 0 } : Room) [.ref (q 0), .int (iv (1))] (dC, dI) vwCl tys (cC cI q (A1) (U1) (b1) (e1) (A2) (U2) (b2) (e2) (L) (R)) (fun o w1 => o = some (.ref (q 2)) ∧ w1 = cC cI q (A1) (U1) (b1) (e1) (A2) (U2) (b2) (e2) (L) (R)) := by
  refine ef_C.of (cc := cX2_numberOf) (maxL := 2) (ret := (some (.object "ExactFractions$Fraction"))) (by decide) rfl (Nat.le_of_ble_eq_true rfl) ?_
  intro p e s m below meth c ls hx hb hml hr hts hown hlocks hK hNX hP hD hS hl
  have hl : lv_has ls 2 [(0, .ref (q 0)), (1, .int (iv (1)))] := hl
  have hown : s.vm.findClass RX2 = some m.cls := hown
  generalize hH : s.heap = H at hP ⊢
  have hS : va_S (ef_A (cC cI q (A1) (U1) (b1) (e1) (A2) (U2) (b2) (e2) (L) (R))) s.heap H [] := by rw [← hH]; exact hS
  generalize ([] : List Loc) = locs at hS ⊢
  refine lv_iload_n hx hb dX2_numberOf_0 rfl (lv_at hl 1 rfl) ?_
  refine iw_if_ne (tgt := 9) hx hb dX2_numberOf_1 (by decide) ⟨by omega, by omega⟩ (fun c1 => ?_) (fun c1 => ?_)
  ·
    refine lv_iload_n hx hb dX2_numberOf_9 rfl (lv_at hl 1 rfl) ?_
    refine lv_iconst (v := iv (1)) hx hb dX2_numberOf_10 (by decide) ?_
    refine iw_icmp_ne (tgt := 21) hx hb dX2_numberOf_11 (by decide) ⟨by omega, by omega⟩ ⟨by omega, by omega⟩ (fun c2 => ?_) (fun c2 => ?_)
    ·
      exact absurd rfl c2
    ·
      refine lv_aload_n hx hb dX2_numberOf_14 rfl (lv_at hl 0 rfl) ?_
      refine va_get (D := (dC, dI)) (ci := 2) (v := .ref (q 2)) (C := RX2) (T := TX2) (N := 4) hx hb hts (by decide +kernel) hown hK hP 0 rfl rfl 1 (by decide) (hts (.fieldLink RX2 16 "ExactFractions" "second" "LExactFractions$Fraction;") (by decide +kernel)) (fun _ h9 => h9) rfl dX2_numberOf_15 ?_
      refine lv_goto (tgt := 22) hx hb dX2_numberOf_18 (by decide) ?_
      exact ef_aret hx hb hr (Or.inl ⟨_, rfl⟩) (Or.inr ⟨_, rfl⟩) hlocks hP hD hS dX2_numberOf_22 (⟨rfl, rfl⟩)
  ·
    exact absurd c1 (by decide)

set_option maxRecDepth 100000 in
set_option maxHeartbeats 4000000 in
/-- numberOf -/
theorem c_numberOfx (l : Launch) (dC : Nat → ClassId) (dI : Nat → Nat → Nat) {cI : ClassId} {tys : List (ClassId × FieldType)} (ht : tys[0]? = some (cI, .int)) (q : Nat → Nat) {A1 U1 A2 U2 L R : Nat} {b1 e1 b2 e2 : Int} (z : Int) (hz : ir z) (hz0 : z ≠ 0) (hz1 : z ≠ 1) : ef_C l yX2_numberOf wsX2_numberOf ({ frames := 0, cells := 0, slots := 0, locals := 0 } : Room) [.ref (q 0), .int (iv (z))] (dC, dI) vwCl tys (cC cI q (A1) (U1) (b1) (e1) (A2) (U2) (b2) (e2) (L) (R)) (fun o w1 => o = some .null ∧ w1 = cC cI q (A1) (U1) (b1) (e1) (A2) (U2) (b2) (e2) (L) (R)) := by
  refine ef_C.of (cc := cX2_numberOf) (maxL := 2) (ret := (some (.object "ExactFractions$Fraction"))) (by decide) rfl (Nat.le_of_ble_eq_true rfl) ?_
  intro p e s m below meth c ls hx hb hml hr hts hown hlocks hK hNX hP hD hS hl
  have hl : lv_has ls 2 [(0, .ref (q 0)), (1, .int (iv (z)))] := hl
  have hown : s.vm.findClass RX2 = some m.cls := hown
  generalize hH : s.heap = H at hP ⊢
  have hS : va_S (ef_A (cC cI q (A1) (U1) (b1) (e1) (A2) (U2) (b2) (e2) (L) (R))) s.heap H [] := by rw [← hH]; exact hS
  generalize ([] : List Loc) = locs at hS ⊢
  have hz9 := hz
  refine lv_iload_n hx hb dX2_numberOf_0 rfl (lv_at hl 1 rfl) ?_
  refine iw_if_ne (tgt := 9) hx hb dX2_numberOf_1 (by decide) (hz) (fun c1 => ?_) (fun c1 => ?_)
  ·
    refine lv_iload_n hx hb dX2_numberOf_9 rfl (lv_at hl 1 rfl) ?_
    refine lv_iconst (v := iv (1)) hx hb dX2_numberOf_10 (by decide) ?_
    refine iw_icmp_ne (tgt := 21) hx hb dX2_numberOf_11 (by decide) (hz) ⟨by omega, by omega⟩ (fun c2 => ?_) (fun c2 => ?_)
    ·
      refine lv_null hx hb dX2_numberOf_21 ?_
      exact ef_aret hx hb hr (Or.inl ⟨_, rfl⟩) (Or.inl rfl) hlocks hP hD hS dX2_numberOf_22 (⟨rfl, rfl⟩)
    ·
      exact absurd c2 hz1
  ·
    exact absurd c1 hz0

set_option maxRecDepth 100000 in
set_option maxHeartbeats 4000000 in
/-- partOf -/
theorem c_partOf00 (l : Launch) (dC : Nat → ClassId) (dI : Nat → Nat → Nat) {cI : ClassId} {tys : List (ClassId × FieldType)} (ht : tys[0]? = some (cI, .int)) (q : Nat → Nat) {A1 U1 A2 U2 L R : Nat} {b1 e1 b2 e2 : Int} : ef_C l yX2_partOf wsX2_partOf ({ frames := 1, cells := 0, slots := 0, locals := 21 } : Room) [.ref (q 0), .int (iv (0)), .int (iv (0))] (dC, dI) vwCl tys (cC cI q (A1) (U1) (b1) (e1) (A2) (U2) (b2) (e2) (L) (R)) (fun o w1 => o = some (.ref (q 3)) ∧ w1 = cC cI q (A1) (U1) (b1) (e1) (A2) (U2) (b2) (e2) (L) (R)) := by
  refine ef_C.of (cc := cX2_partOf) (maxL := 4) (ret := (some (.object "ExactFractions$Whole"))) (by decide) rfl (Nat.le_of_ble_eq_true rfl) ?_
  intro p e s m below meth c ls hx hb hml hr hts hown hlocks hK hNX hP hD hS hl
  have hl : lv_has ls 4 [(0, .ref (q 0)), (1, .int (iv (0))), (2, .int (iv (0)))] := hl
  have hown : s.vm.findClass RX2 = some m.cls := hown
  generalize hH : s.heap = H at hP ⊢
  have hS : va_S (ef_A (cC cI q (A1) (U1) (b1) (e1) (A2) (U2) (b2) (e2) (L) (R))) s.heap H [] := by rw [← hH]; exact hS
  generalize ([] : List Loc) = locs at hS ⊢
  refine lv_aload_n hx hb dX2_partOf_0 rfl (lv_at hl 0 rfl) ?_
  refine lv_iload_n hx hb dX2_partOf_1 rfl (lv_at hl 1 rfl) ?_
  refine ef_callV (As := [.int (iv (0))]) (rest := []) ⟨hx, hb, hml, hown, hts⟩ (c_numberOf0 l dC dI ht q) (cwV 1 hts gX2_partOf_X2_numberOf rfl rfl rfl (by decide +kernel) ⟨Nat.le_of_ble_eq_true rfl, Nat.le_of_ble_eq_true rfl⟩) hK hNX hP hD hS 0 rfl rfl rfl rfl hl.1 rfl (Nat.le_of_ble_eq_true rfl) dX2_partOf_2 ⟨Nat.zero_le _, Nat.zero_le _⟩ (fun o w1 H locs hq hP hD hS => ?_)
  obtain ⟨rfl, e9⟩ := hq
  rw [e9] at hP hD
  refine W.eq (g2 := F0 m 5 ls [.ref (q 1)]) rfl ?_
  refine lv_astore_n (lv' := [(3, .ref (q 1)), (0, .ref (q 0)), (1, .int (iv (0))), (2, .int (iv (0)))]) hx hb dX2_partOf_5 rfl hl (by decide) rfl (fun ls hl => ?_)
  refine lv_aload_n hx hb dX2_partOf_6 rfl (lv_at hl 0 rfl) ?_
  refine lv_ifnonnull (tgt := 12) hx hb dX2_partOf_7 (by decide) ?_
  refine lv_iload_n hx hb dX2_partOf_12 rfl (lv_at hl 3 rfl) ?_
  refine iw_if_ne (tgt := 21) hx hb dX2_partOf_13 (by decide) ⟨by omega, by omega⟩ (fun c1 => ?_) (fun c1 => ?_)
  ·
    exact absurd rfl c1
  ·
    refine lv_aload_n hx hb dX2_partOf_16 rfl (lv_at hl 0 rfl) ?_
    refine va_get (D := (dC, dI)) (ci := 0) (v := .ref (q 3)) (C := RX0) (T := TX0) (N := 4) hx hb hts (by decide +kernel) hown hK hP 1 rfl rfl 0 (by decide) (hts (.fieldLink RX2 65 "ExactFractions$Fraction" "above" "LExactFractions$Whole;") (by decide +kernel)) (fun _ h9 => h9) rfl dX2_partOf_17 ?_
    exact ef_aret hx hb hr (Or.inl ⟨_, rfl⟩) (Or.inr ⟨_, rfl⟩) hlocks hP hD hS dX2_partOf_20 (⟨rfl, rfl⟩)

set_option maxRecDepth 100000 in
set_option maxHeartbeats 4000000 in
/-- partOf -/
theorem c_partOf01 (l : Launch) (dC : Nat → ClassId) (dI : Nat → Nat → Nat) {cI : ClassId} {tys : List (ClassId × FieldType)} (ht : tys[0]? = some (cI, .int)) (q : Nat → Nat) {A1 U1 A2 U2 L R : Nat} {b1 e1 b2 e2 : Int} : ef_C l yX2_partOf wsX2_partOf ({ frames := 1, cells := 0, slots := 0, locals := 21 } : Room) [.ref (q 0), .int (iv (0)), .int (iv (1))] (dC, dI) vwCl tys (cC cI q (A1) (U1) (b1) (e1) (A2) (U2) (b2) (e2) (L) (R)) (fun o w1 => o = some (.ref (q 5)) ∧ w1 = cC cI q (A1) (U1) (b1) (e1) (A2) (U2) (b2) (e2) (L) (R)) := by
  refine ef_C.of (cc := cX2_partOf) (maxL := 4) (ret := (some (.object "ExactFractions$Whole"))) (by decide) rfl (Nat.le_of_ble_eq_true rfl) ?_
  intro p e s m below meth c ls hx hb hml hr hts hown hlocks hK hNX hP hD hS hl
  have hl : lv_has ls 4 [(0, .ref (q 0)), (1, .int (iv (0))), (2, .int (iv (1)))] := hl
  have hown : s.vm.findClass RX2 = some m.cls := hown
  generalize hH : s.heap = H at hP ⊢
  have hS : va_S (ef_A (cC cI q (A1) (U1) (b1) (e1) (A2) (U2) (b2) (e2) (L) (R))) s.heap H [] := by rw [← hH]; exact hS
  generalize ([] : List Loc) = locs at hS ⊢
  refine lv_aload_n hx hb dX2_partOf_0 rfl (lv_at hl 0 rfl) ?_
  refine lv_iload_n hx hb dX2_partOf_1 rfl (lv_at hl 1 rfl) ?_
  refine ef_callV (As := [.int (iv (0))]) (rest := []) ⟨hx, hb, hml, hown, hts⟩ (c_numberOf0 l dC dI ht q) (cwV 1 hts gX2_partOf_X2_numberOf rfl rfl rfl (by decide +kernel) ⟨Nat.le_of_ble_eq_true rfl, Nat.le_of_ble_eq_true rfl⟩) hK hNX hP hD hS 0 rfl rfl rfl rfl hl.1 rfl (Nat.le_of_ble_eq_true rfl) dX2_partOf_2 ⟨Nat.zero_le _, Nat.zero_le _⟩ (fun o w1 H locs hq hP hD hS => ?_)
  obtain ⟨rfl, e9⟩ := hq
  rw [e9] at hP hD
  refine W.eq (g2 := F0 m 5 ls [.ref (q 1)]) rfl ?_
  refine lv_astore_n (lv' := [(3, .ref (q 1)), (0, .ref (q 0)), (1, .int (iv (0))), (2, .int (iv (1)))]) hx hb dX2_partOf_5 rfl hl (by decide) rfl (fun ls hl => ?_)
  refine lv_aload_n hx hb dX2_partOf_6 rfl (lv_at hl 0 rfl) ?_
  refine lv_ifnonnull (tgt := 12) hx hb dX2_partOf_7 (by decide) ?_
  refine lv_iload_n hx hb dX2_partOf_12 rfl (lv_at hl 3 rfl) ?_
  refine iw_if_ne (tgt := 21) hx hb dX2_partOf_13 (by decide) ⟨by omega, by omega⟩ (fun c1 => ?_) (fun c1 => ?_)
  ·
    refine lv_iload_n hx hb dX2_partOf_21 rfl (lv_at hl 3 rfl) ?_
    refine lv_iconst (v := iv (1)) hx hb dX2_partOf_22 (by decide) ?_
    refine iw_icmp_ne (tgt := 33) hx hb dX2_partOf_23 (by decide) ⟨by omega, by omega⟩ ⟨by omega, by omega⟩ (fun c2 => ?_) (fun c2 => ?_)
    ·
      exact absurd rfl c2
    ·
      refine lv_aload_n hx hb dX2_partOf_26 rfl (lv_at hl 0 rfl) ?_
      refine va_get (D := (dC, dI)) (ci := 0) (v := .ref (q 5)) (C := RX0) (T := TX0) (N := 4) hx hb hts (by decide +kernel) hown hK hP 1 rfl rfl 1 (by decide) (hts (.fieldLink RX2 103 "ExactFractions$Fraction" "under" "LExactFractions$Whole;") (by decide +kernel)) (fun _ h9 => h9) rfl dX2_partOf_27 ?_
      refine lv_goto (tgt := 34) hx hb dX2_partOf_30 (by decide) ?_
      exact ef_aret hx hb hr (Or.inl ⟨_, rfl⟩) (Or.inr ⟨_, rfl⟩) hlocks hP hD hS dX2_partOf_34 (⟨rfl, rfl⟩)
  ·
    exact absurd c1 (by decide)

set_option maxRecDepth 100000 in
set_option maxHeartbeats 4000000 in
/-- partOf -/
theorem c_partOf0x (l : Launch) (dC : Nat → ClassId) (dI : Nat → Nat → Nat) {cI : ClassId} {tys : List (ClassId × FieldType)} (ht : tys[0]? = some (cI, .int)) (q : Nat → Nat) {A1 U1 A2 U2 L R : Nat} {b1 e1 b2 e2 : Int} (z : Int) (hz : ir z) (hz0 : z ≠ 0) (hz1 : z ≠ 1) : ef_C l yX2_partOf wsX2_partOf ({ frames := 1, cells := 0, slots := 0, locals := 21 } : Room) [.ref (q 0), .int (iv (0)), .int (iv (z))] (dC, dI) vwCl tys (cC cI q (A1) (U1) (b1) (e1) (A2) (U2) (b2) (e2) (L) (R)) (fun o w1 => o = some .null ∧ w1 = cC cI q (A1) (U1) (b1) (e1) (A2) (U2) (b2) (e2) (L) (R)) := by
  refine ef_C.of (cc := cX2_partOf) (maxL := 4) (ret := (some (.object "ExactFractions$Whole"))) (by decide) rfl (Nat.le_of_ble_eq_true rfl) ?_
  intro p e s m below meth c ls hx hb hml hr hts hown hlocks hK hNX hP hD hS hl
  have hl : lv_has ls 4 [(0, .ref (q 0)), (1, .int (iv (0))), (2, .int (iv (z)))] := hl
  have hown : s.vm.findClass RX2 = some m.cls := hown
  generalize hH : s.heap = H at hP ⊢
  have hS : va_S (ef_A (cC cI q (A1) (U1) (b1) (e1) (A2) (U2) (b2) (e2) (L) (R))) s.heap H [] := by rw [← hH]; exact hS
  generalize ([] : List Loc) = locs at hS ⊢
  refine lv_aload_n hx hb dX2_partOf_0 rfl (lv_at hl 0 rfl) ?_
  refine lv_iload_n hx hb dX2_partOf_1 rfl (lv_at hl 1 rfl) ?_
  refine ef_callV (As := [.int (iv (0))]) (rest := []) ⟨hx, hb, hml, hown, hts⟩ (c_numberOf0 l dC dI ht q) (cwV 1 hts gX2_partOf_X2_numberOf rfl rfl rfl (by decide +kernel) ⟨Nat.le_of_ble_eq_true rfl, Nat.le_of_ble_eq_true rfl⟩) hK hNX hP hD hS 0 rfl rfl rfl rfl hl.1 rfl (Nat.le_of_ble_eq_true rfl) dX2_partOf_2 ⟨Nat.zero_le _, Nat.zero_le _⟩ (fun o w1 H locs hq hP hD hS => ?_)
  obtain ⟨rfl, e9⟩ := hq
  rw [e9] at hP hD
  refine W.eq (g2 := F0 m 5 ls [.ref (q 1)]) rfl ?_
  refine lv_astore_n (lv' := [(3, .ref (q 1)), (0, .ref (q 0)), (1, .int (iv (0))), (2, .int (iv (z)))]) hx hb dX2_partOf_5 rfl hl (by decide) rfl (fun ls hl => ?_)
  refine lv_aload_n hx hb dX2_partOf_6 rfl (lv_at hl 0 rfl) ?_
  refine lv_ifnonnull (tgt := 12) hx hb dX2_partOf_7 (by decide) ?_
  refine lv_iload_n hx hb dX2_partOf_12 rfl (lv_at hl 3 rfl) ?_
  refine iw_if_ne (tgt := 21) hx hb dX2_partOf_13 (by decide) (hz) (fun c1 => ?_) (fun c1 => ?_)
  ·
    refine lv_iload_n hx hb dX2_partOf_21 rfl (lv_at hl 3 rfl) ?_
    refine lv_iconst (v := iv (1)) hx hb dX2_partOf_22 (by decide) ?_
    refine iw_icmp_ne (tgt := 33) hx hb dX2_partOf_23 (by decide) (hz) ⟨by omega, by omega⟩ (fun c2 => ?_) (fun c2 => ?_)
    ·
      refine lv_null hx hb dX2_partOf_33 ?_
      exact ef_aret hx hb hr (Or.inl ⟨_, rfl⟩) (Or.inl rfl) hlocks hP hD hS dX2_partOf_34 (⟨rfl, rfl⟩)
    ·
      exact absurd c2 hz1
  ·
    exact absurd c1 hz0

set_option maxRecDepth 100000 in
set_option maxHeartbeats 4000000 in
/-- partOf -/
theorem c_partOf10 (l : Launch) (dC : Nat → ClassId) (dI : Nat → Nat → Nat) {cI : ClassId} {tys : List (ClassId × FieldType)} (ht : tys[0]? = some (cI, .int)) (q : Nat → Nat) {A1 U1 A2 U2 L R : Nat} {b1 e1 b2 e2 : Int} : ef_C l yX2_partOf wsX2_partOf ({ frames := 1, cells := 0, slots := 0, locals := 21 } : Room) [.ref (q 0), .int (iv (1)), .int (iv (0))] (dC, dI) vwCl tys (cC cI q (A1) (U1) (b1) (e1) (A2) (U2) (b2) (e2) (L) (R)) (fun o w1 => o = some (.ref (q 7)) ∧ w1 = cC cI q (A1) (U1) (b1) (e1) (A2) (U2) (b2) (e2) (L) (R)) := by
  refine ef_C.of (cc := cX2_partOf) (maxL := 4) (ret := (some (.object "ExactFractions$Whole"))) (by decide) rfl (Nat.le_of_ble_eq_true rfl) ?_
  intro p e s m below meth c ls hx hb hml hr hts hown hlocks hK hNX hP hD hS hl
  have hl : lv_has ls 4 [(0, .ref (q 0)), (1, .int (iv (1))), (2, .int (iv (0)))] := hl
  have hown : s.vm.findClass RX2 = some m.cls := hown
  generalize hH : s.heap = H at hP ⊢
  have hS : va_S (ef_A (cC cI q (A1) (U1) (b1) (e1) (A2) (U2) (b2) (e2) (L) (R))) s.heap H [] := by rw [← hH]; exact hS
  generalize ([] : List Loc) = locs at hS ⊢
  refine lv_aload_n hx hb dX2_partOf_0 rfl (lv_at hl 0 rfl) ?_
  refine lv_iload_n hx hb dX2_partOf_1 rfl (lv_at hl 1 rfl) ?_
  refine ef_callV (As := [.int (iv (1))]) (rest := []) ⟨hx, hb, hml, hown, hts⟩ (c_numberOf1 l dC dI ht q) (cwV 1 hts gX2_partOf_X2_numberOf rfl rfl rfl (by decide +kernel) ⟨Nat.le_of_ble_eq_true rfl, Nat.le_of_ble_eq_true rfl⟩) hK hNX hP hD hS 0 rfl rfl rfl rfl hl.1 rfl (Nat.le_of_ble_eq_true rfl) dX2_partOf_2 ⟨Nat.zero_le _, Nat.zero_le _⟩ (fun o w1 H locs hq hP hD hS => ?_)
  obtain ⟨rfl, e9⟩ := hq
  rw [e9] at hP hD
  refine W.eq (g2 := F0 m 5 ls [.ref (q 2)]) rfl ?_
  refine lv_astore_n (lv' := [(3, .ref (q 2)), (0, .ref (q 0)), (1, .int (iv (1))), (2, .int (iv (0)))]) hx hb dX2_partOf_5 rfl hl (by decide) rfl (fun ls hl => ?_)
  refine lv_aload_n hx hb dX2_partOf_6 rfl (lv_at hl 0 rfl) ?_
  refine lv_ifnonnull (tgt := 12) hx hb dX2_partOf_7 (by decide) ?_
  refine lv_iload_n hx hb dX2_partOf_12 rfl (lv_at hl 3 rfl) ?_
  refine iw_if_ne (tgt := 21) hx hb dX2_partOf_13 (by decide) ⟨by omega, by omega⟩ (fun c1 => ?_) (fun c1 => ?_)
  ·
    exact absurd rfl c1
  ·
    refine lv_aload_n hx hb dX2_partOf_16 rfl (lv_at hl 0 rfl) ?_
    refine va_get (D := (dC, dI)) (ci := 0) (v := .ref (q 7)) (C := RX0) (T := TX0) (N := 4) hx hb hts (by decide +kernel) hown hK hP 2 rfl rfl 0 (by decide) (hts (.fieldLink RX2 65 "ExactFractions$Fraction" "above" "LExactFractions$Whole;") (by decide +kernel)) (fun _ h9 => h9) rfl dX2_partOf_17 ?_
    exact ef_aret hx hb hr (Or.inl ⟨_, rfl⟩) (Or.inr ⟨_, rfl⟩) hlocks hP hD hS dX2_partOf_20 (⟨rfl, rfl⟩)

set_option maxRecDepth 100000 in
set_option maxHeartbeats 4000000 in
/-- partOf -/
theorem c_partOf11 (l : Launch) (dC : Nat → ClassId) (dI : Nat → Nat → Nat) {cI : ClassId} {tys : List (ClassId × FieldType)} (ht : tys[0]? = some (cI, .int)) (q : Nat → Nat) {A1 U1 A2 U2 L R : Nat} {b1 e1 b2 e2 : Int} : ef_C l yX2_partOf wsX2_partOf ({ frames := 1, cells := 0, slots := 0, locals := 21 } : Room) [.ref (q 0), .int (iv (1)), .int (iv (1))] (dC, dI) vwCl tys (cC cI q (A1) (U1) (b1) (e1) (A2) (U2) (b2) (e2) (L) (R)) (fun o w1 => o = some (.ref (q 9)) ∧ w1 = cC cI q (A1) (U1) (b1) (e1) (A2) (U2) (b2) (e2) (L) (R)) := by
  refine ef_C.of (cc := cX2_partOf) (maxL := 4) (ret := (some (.object "ExactFractions$Whole"))) (by decide) rfl (Nat.le_of_ble_eq_true rfl) ?_
  intro p e s m below meth c ls hx hb hml hr hts hown hlocks hK hNX hP hD hS hl
  have hl : lv_has ls 4 [(0, .ref (q 0)), (1, .int (iv (1))), (2, .int (iv (1)))] := hl
  have hown : s.vm.findClass RX2 = some m.cls := hown
  generalize hH : s.heap = H at hP ⊢
  have hS : va_S (ef_A (cC cI q (A1) (U1) (b1) (e1) (A2) (U2) (b2) (e2) (L) (R))) s.heap H [] := by rw [← hH]; exact hS
  generalize ([] : List Loc) = locs at hS ⊢
  refine lv_aload_n hx hb dX2_partOf_0 rfl (lv_at hl 0 rfl) ?_
  refine lv_iload_n hx hb dX2_partOf_1 rfl (lv_at hl 1 rfl) ?_
  refine ef_callV (As := [.int (iv (1))]) (rest := []) ⟨hx, hb, hml, hown, hts⟩ (c_numberOf1 l dC dI ht q) (cwV 1 hts gX2_partOf_X2_numberOf rfl rfl rfl (by decide +kernel) ⟨Nat.le_of_ble_eq_true rfl, Nat.le_of_ble_eq_true rfl⟩) hK hNX hP hD hS 0 rfl rfl rfl rfl hl.1 rfl (Nat.le_of_ble_eq_true rfl) dX2_partOf_2 ⟨Nat.zero_le _, Nat.zero_le _⟩ (fun o w1 H locs hq hP hD hS => ?_)
  obtain ⟨rfl, e9⟩ := hq
  rw [e9] at hP hD
  refine W.eq (g2 := F0 m 5 ls [.ref (q 2)]) rfl ?_
  refine lv_astore_n (lv' := [(3, .ref (q 2)), (0, .ref (q 0)), (1, .int (iv (1))), (2, .int (iv (1)))]) hx hb dX2_partOf_5 rfl hl (by decide) rfl (fun ls hl => ?_)
  refine lv_aload_n hx hb dX2_partOf_6 rfl (lv_at hl 0 rfl) ?_
  refine lv_ifnonnull (tgt := 12) hx hb dX2_partOf_7 (by decide) ?_
  refine lv_iload_n hx hb dX2_partOf_12 rfl (lv_at hl 3 rfl) ?_
  refine iw_if_ne (tgt := 21) hx hb dX2_partOf_13 (by decide) ⟨by omega, by omega⟩ (fun c1 => ?_) (fun c1 => ?_)
  ·
    refine lv_iload_n hx hb dX2_partOf_21 rfl (lv_at hl 3 rfl) ?_
    refine lv_iconst (v := iv (1)) hx hb dX2_partOf_22 (by decide) ?_
    refine iw_icmp_ne (tgt := 33) hx hb dX2_partOf_23 (by decide) ⟨by omega, by omega⟩ ⟨by omega, by omega⟩ (fun c2 => ?_) (fun c2 => ?_)
    ·
      exact absurd rfl c2
    ·
      refine lv_aload_n hx hb dX2_partOf_26 rfl (lv_at hl 0 rfl) ?_
      refine va_get (D := (dC, dI)) (ci := 0) (v := .ref (q 9)) (C := RX0) (T := TX0) (N := 4) hx hb hts (by decide +kernel) hown hK hP 2 rfl rfl 1 (by decide) (hts (.fieldLink RX2 103 "ExactFractions$Fraction" "under" "LExactFractions$Whole;") (by decide +kernel)) (fun _ h9 => h9) rfl dX2_partOf_27 ?_
      refine lv_goto (tgt := 34) hx hb dX2_partOf_30 (by decide) ?_
      exact ef_aret hx hb hr (Or.inl ⟨_, rfl⟩) (Or.inr ⟨_, rfl⟩) hlocks hP hD hS dX2_partOf_34 (⟨rfl, rfl⟩)
  ·
    exact absurd c1 (by decide)

set_option maxRecDepth 100000 in
set_option maxHeartbeats 4000000 in
/-- partOf -/
theorem c_partOf1x (l : Launch) (dC : Nat → ClassId) (dI : Nat → Nat → Nat) {cI : ClassId} {tys : List (ClassId × FieldType)} (ht : tys[0]? = some (cI, .int)) (q : Nat → Nat) {A1 U1 A2 U2 L R : Nat} {b1 e1 b2 e2 : Int} (z : Int) (hz : ir z) (hz0 : z ≠ 0) (hz1 : z ≠ 1) : ef_C l yX2_partOf wsX2_partOf ({ frames := 1, cells := 0, slots := 0, locals := 21 } : Room) [.ref (q 0), .int (iv (1)), .int (iv (z))] (dC, dI) vwCl tys (cC cI q (A1) (U1) (b1) (e1) (A2) (U2) (b2) (e2) (L) (R)) (fun o w1 => o = some .null ∧ w1 = cC cI q (A1) (U1) (b1) (e1) (A2) (U2) (b2) (e2) (L) (R)) := by
  refine ef_C.of (cc := cX2_partOf) (maxL := 4) (ret := (some (.object "ExactFractions$Whole"))) (by decide) rfl (Nat.le_of_ble_eq_true rfl) ?_
  intro p e s m below meth c ls hx hb hml hr hts hown hlocks hK hNX hP hD hS hl
  have hl : lv_has ls 4 [(0, .ref (q 0)), (1, .int (iv (1))), (2, .int (iv (z)))] := hl
  have hown : s.vm.findClass RX2 = some m.cls := hown
  generalize hH : s.heap = H at hP ⊢
  have hS : va_S (ef_A (cC cI q (A1) (U1) (b1) (e1) (A2) (U2) (b2) (e2) (L) (R))) s.heap H [] := by rw [← hH]; exact hS
  generalize ([] : List Loc) = locs at hS ⊢
  refine lv_aload_n hx hb dX2_partOf_0 rfl (lv_at hl 0 rfl) ?_
  refine lv_iload_n hx hb dX2_partOf_1 rfl (lv_at hl 1 rfl) ?_
  refine ef_callV (As := [.int (iv (1))]) (rest := []) ⟨hx, hb, hml, hown, hts⟩ (c_numberOf1 l dC dI ht q) (cwV 1 hts gX2_partOf_X2_numberOf rfl rfl rfl (by decide +kernel) ⟨Nat.le_of_ble_eq_true rfl, Nat.le_of_ble_eq_true rfl⟩) hK hNX hP hD hS 0 rfl rfl rfl rfl hl.1 rfl (Nat.le_of_ble_eq_true rfl) dX2_partOf_2 ⟨Nat.zero_le _, Nat.zero_le _⟩ (fun o w1 H locs hq hP hD hS => ?_)
  obtain ⟨rfl, e9⟩ := hq
  rw [e9] at hP hD
  refine W.eq (g2 := F0 m 5 ls [.ref (q 2)]) rfl ?_
  refine lv_astore_n (lv' := [(3, .ref (q 2)), (0, .ref (q 0)), (1, .int (iv (1))), (2, .int (iv (z)))]) hx hb dX2_partOf_5 rfl hl (by decide) rfl (fun ls hl => ?_)
  refine lv_aload_n hx hb dX2_partOf_6 rfl (lv_at hl 0 rfl) ?_
  refine lv_ifnonnull (tgt := 12) hx hb dX2_partOf_7 (by decide) ?_
  refine lv_iload_n hx hb dX2_partOf_12 rfl (lv_at hl 3 rfl) ?_
  refine iw_if_ne (tgt := 21) hx hb dX2_partOf_13 (by decide) (hz) (fun c1 => ?_) (fun c1 => ?_)
  ·
    refine lv_iload_n hx hb dX2_partOf_21 rfl (lv_at hl 3 rfl) ?_
    refine lv_iconst (v := iv (1)) hx hb dX2_partOf_22 (by decide) ?_
    refine iw_icmp_ne (tgt := 33) hx hb dX2_partOf_23 (by decide) (hz) ⟨by omega, by omega⟩ (fun c2 => ?_) (fun c2 => ?_)
    ·
      refine lv_null hx hb dX2_partOf_33 ?_
      exact ef_aret hx hb hr (Or.inl ⟨_, rfl⟩) (Or.inl rfl) hlocks hP hD hS dX2_partOf_34 (⟨rfl, rfl⟩)
    ·
      exact absurd c2 hz1
  ·
    exact absurd c1 hz0

set_option maxRecDepth 100000 in
set_option maxHeartbeats 4000000 in
/-- partOf of no number -/
theorem c_partOfxx (l : Launch) (dC : Nat → ClassId) (dI : Nat → Nat → Nat) {cI : ClassId} {tys : List (ClassId × FieldType)} (ht : tys[0]? = some (cI, .int)) (q : Nat → Nat) {A1 U1 A2 U2 L R : Nat} {b1 e1 b2 e2 : Int} (z y : Int) (hz : ir z) (hz0 : z ≠ 0) (hz1 : z ≠ 1) : ef_C l yX2_partOf wsX2_partOf ({ frames := 1, cells := 0, slots := 0, locals := 21 } : Room) [.ref (q 0), .int (iv (z)), .int (iv (y))] (dC, dI) vwCl tys (cC cI q (A1) (U1) (b1) (e1) (A2) (U2) (b2) (e2) (L) (R)) (fun o w1 => o = some .null ∧ w1 = cC cI q (A1) (U1) (b1) (e1) (A2) (U2) (b2) (e2) (L) (R)) := by
  refine ef_C.of (cc := cX2_partOf) (maxL := 4) (ret := (some (.object "ExactFractions$Whole"))) (by decide) rfl (Nat.le_of_ble_eq_true rfl) ?_
  intro p e s m below meth c ls hx hb hml hr hts hown hlocks hK hNX hP hD hS hl
  have hl : lv_has ls 4 [(0, .ref (q 0)), (1, .int (iv (z))), (2, .int (iv (y)))] := hl
  have hown : s.vm.findClass RX2 = some m.cls := hown
  generalize hH : s.heap = H at hP ⊢
  have hS : va_S (ef_A (cC cI q (A1) (U1) (b1) (e1) (A2) (U2) (b2) (e2) (L) (R))) s.heap H [] := by rw [← hH]; exact hS
  generalize ([] : List Loc) = locs at hS ⊢
  refine lv_aload_n hx hb dX2_partOf_0 rfl (lv_at hl 0 rfl) ?_
  refine lv_iload_n hx hb dX2_partOf_1 rfl (lv_at hl 1 rfl) ?_
  refine ef_callV (As := [.int (iv (z))]) (rest := []) ⟨hx, hb, hml, hown, hts⟩ (c_numberOfx l dC dI ht q z hz hz0 hz1) (cwV 1 hts gX2_partOf_X2_numberOf rfl rfl rfl (by decide +kernel) ⟨Nat.le_of_ble_eq_true rfl, Nat.le_of_ble_eq_true rfl⟩) hK hNX hP hD hS 0 rfl rfl rfl rfl hl.1 rfl (Nat.le_of_ble_eq_true rfl) dX2_partOf_2 ⟨Nat.zero_le _, Nat.zero_le _⟩ (fun o w1 H locs hq hP hD hS => ?_)
  obtain ⟨rfl, e9⟩ := hq
  rw [e9] at hP hD
  refine W.eq (g2 := F0 m 5 ls [.null]) rfl ?_
  refine lv_astore_nN (lv' := [(3, .null), (0, .ref (q 0)), (1, .int (iv (z))), (2, .int (iv (y)))]) hx hb dX2_partOf_5 rfl hl (by decide) rfl (fun ls hl => ?_)
  refine lv_aload_nN hx hb dX2_partOf_6 rfl (lv_at hl 0 rfl) ?_
  refine lv_ifnonnullN hx hb dX2_partOf_7 ?_
  refine lv_null hx hb dX2_partOf_10 ?_
  exact ef_aret hx hb hr (Or.inl ⟨_, rfl⟩) (Or.inl rfl) hlocks hP hD hS dX2_partOf_11 (⟨rfl, rfl⟩)

set_option maxRecDepth 100000 in
set_option maxHeartbeats 4000000 in
/-- sign -/
theorem c_sign0 (l : Launch) (dC : Nat → ClassId) (dI : Nat → Nat → Nat) {cI : ClassId} {tys : List (ClassId × FieldType)} (ht : tys[0]? = some (cI, .int)) (q : Nat → Nat) {A1 U1 A2 U2 L R : Nat} {b1 e1 b2 e2 : Int} (hA1 : wl A1 ≤ 150) (hU1 : wl U1 ≤ 150) (hA2 : wl A2 ≤ 150) (hU2 : wl U2 ≤ 150) (hL : wl L ≤ 301) (hR : wl R ≤ 301) (hbo : b1 = 0 ∨ b1 = 1) : ef_C l yX0_sign wsX0_sign ({ frames := 1, cells := 0, slots := 0, locals := 20 } : Room) [.ref (q 1)] (dC, dI) vwCl tys (cC cI q (A1) (U1) (b1) (e1) (A2) (U2) (b2) (e2) (L) (R)) (fun o w1 => o = some (.int (iv (sgn A1 b1))) ∧ w1 = cC cI q (A1) (U1) (b1) (e1) (A2) (U2) (b2) (e2) (L) (R)) := by
  refine ef_C.of (cc := cX0_sign) (maxL := 1) (ret := (some .int)) (by decide) rfl (Nat.le_of_ble_eq_true rfl) ?_
  intro p e s m below meth c ls hx hb hml hr hts hown hlocks hK hNX hP hD hS hl
  have hl : lv_has ls 1 [(0, .ref (q 1))] := hl
  have hown : s.vm.findClass RX0 = some m.cls := hown
  generalize hH : s.heap = H at hP ⊢
  have hS : va_S (ef_A (cC cI q (A1) (U1) (b1) (e1) (A2) (U2) (b2) (e2) (L) (R))) s.heap H [] := by rw [← hH]; exact hS
  generalize ([] : List Loc) = locs at hS ⊢
  refine lv_aload_n hx hb dX0_sign_0 rfl (lv_at hl 0 rfl) ?_
  refine va_get (D := (dC, dI)) (ci := 0) (v := .ref (q 3)) (C := RX0) (T := TX0) (N := 4) hx hb hts (by decide +kernel) hown hK hP 1 rfl rfl 0 (by decide) (hts (.fieldLink RX0 10 "ExactFractions$Fraction" "above" "LExactFractions$Whole;") (by decide +kernel)) (fun _ h9 => h9) rfl dX0_sign_1 ?_
  refine ef_callV (As := []) (rest := []) ⟨hx, hb, hml, hown, hts⟩ (c_isZero l dC dI ht (isW_c (X := A1) (ws := cC cI q (A1) (U1) (b1) (e1) (A2) (U2) (b2) (e2) (L) (R)) (k0 := 3) (k1 := 4) (by decide) rfl rfl) (by omega)) (cwV 0 hts gX0_sign_X1_isZero rfl rfl rfl (by decide +kernel) ⟨Nat.le_of_ble_eq_true rfl, Nat.le_of_ble_eq_true rfl⟩) hK hNX hP hD hS 3 rfl rfl rfl rfl hl.1 rfl (Nat.le_of_ble_eq_true rfl) dX0_sign_4 ⟨Nat.zero_le _, Nat.zero_le _⟩ (fun o w1 H locs hq hP hD hS => ?_)
  obtain ⟨rfl, e9⟩ := hq
  rw [e9] at hP hD
  refine W.eq (g2 := F0 m 7 ls [.int (iv (if A1 = 0 then 1 else 0))]) rfl ?_
  have hc0 : ir (if A1 = 0 then 1 else 0) := by split <;> exact ⟨by omega, by omega⟩
  refine iw_if_eq (tgt := 12) hx hb dX0_sign_7 (by decide) (hc0) (fun c1 => ?_) (fun c1 => ?_)
  ·
    have hA0 : A1 ≠ 0 := fun q => by rw [if_pos q] at c1; exact absurd c1 (by decide)
    refine lv_aload_n hx hb dX0_sign_12 rfl (lv_at hl 0 rfl) ?_
    refine va_get (D := (dC, dI)) (ci := 0) (v := .int (iv (b1))) (C := RX0) (T := TX0) (N := 4) hx hb hts (by decide +kernel) hown hK hP 1 rfl rfl 2 (by decide) (hts (.fieldLink RX0 26 "ExactFractions$Fraction" "below" "Z") (by decide +kernel)) (fun _ h9 => h9) rfl dX0_sign_13 ?_
    refine iw_if_eq (tgt := 23) hx hb dX0_sign_16 (by decide) (by rcases hbo with h | h <;> rw [h] <;> exact ⟨by decide, by decide⟩) (fun c2 => ?_) (fun c2 => ?_)
    ·
      refine lv_iconst (v := iv (1)) hx hb dX0_sign_23 (by decide) ?_
      exact ef_iret hx hb hr hlocks hP hD hS dX0_sign_24 (by unfold sgn; rw [if_neg hA0, if_pos c2]; exact ⟨rfl, rfl⟩)
    ·
      refine lv_iconst (v := iv (-1)) hx hb dX0_sign_19 (by decide) ?_
      refine lv_goto (tgt := 24) hx hb dX0_sign_20 (by decide) ?_
      exact ef_iret hx hb hr hlocks hP hD hS dX0_sign_24 (by unfold sgn; rw [if_neg hA0, if_neg c2]; exact ⟨rfl, rfl⟩)
  ·
    have hA0 : A1 = 0 := by
      by_cases q : A1 = 0
      · exact q
      · rw [if_neg q] at c1; exact absurd rfl c1
    refine lv_iconst (v := iv (0)) hx hb dX0_sign_10 (by decide) ?_
    exact ef_iret hx hb hr hlocks hP hD hS dX0_sign_11 (by unfold sgn; rw [if_pos hA0]; exact ⟨rfl, rfl⟩)

set_option maxRecDepth 100000 in
set_option maxHeartbeats 4000000 in
/-- sign -/
theorem c_sign1 (l : Launch) (dC : Nat → ClassId) (dI : Nat → Nat → Nat) {cI : ClassId} {tys : List (ClassId × FieldType)} (ht : tys[0]? = some (cI, .int)) (q : Nat → Nat) {A1 U1 A2 U2 L R : Nat} {b1 e1 b2 e2 : Int} (hA1 : wl A1 ≤ 150) (hU1 : wl U1 ≤ 150) (hA2 : wl A2 ≤ 150) (hU2 : wl U2 ≤ 150) (hL : wl L ≤ 301) (hR : wl R ≤ 301) (hbo : b2 = 0 ∨ b2 = 1) : ef_C l yX0_sign wsX0_sign ({ frames := 1, cells := 0, slots := 0, locals := 20 } : Room) [.ref (q 2)] (dC, dI) vwCl tys (cC cI q (A1) (U1) (b1) (e1) (A2) (U2) (b2) (e2) (L) (R)) (fun o w1 => o = some (.int (iv (sgn A2 b2))) ∧ w1 = cC cI q (A1) (U1) (b1) (e1) (A2) (U2) (b2) (e2) (L) (R)) := by
  refine ef_C.of (cc := cX0_sign) (maxL := 1) (ret := (some .int)) (by decide) rfl (Nat.le_of_ble_eq_true rfl) ?_
  intro p e s m below meth c ls hx hb hml hr hts hown hlocks hK hNX hP hD hS hl
  have hl : lv_has ls 1 [(0, .ref (q 2))] := hl
  have hown : s.vm.findClass RX0 = some m.cls := hown
  generalize hH : s.heap = H at hP ⊢
  have hS : va_S (ef_A (cC cI q (A1) (U1) (b1) (e1) (A2) (U2) (b2) (e2) (L) (R))) s.heap H [] := by rw [← hH]; exact hS
  generalize ([] : List Loc) = locs at hS ⊢
  refine lv_aload_n hx hb dX0_sign_0 rfl (lv_at hl 0 rfl) ?_
  refine va_get (D := (dC, dI)) (ci := 0) (v := .ref (q 7)) (C := RX0) (T := TX0) (N := 4) hx hb hts (by decide +kernel) hown hK hP 2 rfl rfl 0 (by decide) (hts (.fieldLink RX0 10 "ExactFractions$Fraction" "above" "LExactFractions$Whole;") (by decide +kernel)) (fun _ h9 => h9) rfl dX0_sign_1 ?_
  refine ef_callV (As := []) (rest := []) ⟨hx, hb, hml, hown, hts⟩ (c_isZero l dC dI ht (isW_c (X := A2) (ws := cC cI q (A1) (U1) (b1) (e1) (A2) (U2) (b2) (e2) (L) (R)) (k0 := 7) (k1 := 8) (by decide) rfl rfl) (by omega)) (cwV 0 hts gX0_sign_X1_isZero rfl rfl rfl (by decide +kernel) ⟨Nat.le_of_ble_eq_true rfl, Nat.le_of_ble_eq_true rfl⟩) hK hNX hP hD hS 7 rfl rfl rfl rfl hl.1 rfl (Nat.le_of_ble_eq_true rfl) dX0_sign_4 ⟨Nat.zero_le _, Nat.zero_le _⟩ (fun o w1 H locs hq hP hD hS => ?_)
  obtain ⟨rfl, e9⟩ := hq
  rw [e9] at hP hD
  refine W.eq (g2 := F0 m 7 ls [.int (iv (if A2 = 0 then 1 else 0))]) rfl ?_
  have hc0 : ir (if A2 = 0 then 1 else 0) := by split <;> exact ⟨by omega, by omega⟩
  refine iw_if_eq (tgt := 12) hx hb dX0_sign_7 (by decide) (hc0) (fun c1 => ?_) (fun c1 => ?_)
  ·
    have hA0 : A2 ≠ 0 := fun q => by rw [if_pos q] at c1; exact absurd c1 (by decide)
    refine lv_aload_n hx hb dX0_sign_12 rfl (lv_at hl 0 rfl) ?_
    refine va_get (D := (dC, dI)) (ci := 0) (v := .int (iv (b2))) (C := RX0) (T := TX0) (N := 4) hx hb hts (by decide +kernel) hown hK hP 2 rfl rfl 2 (by decide) (hts (.fieldLink RX0 26 "ExactFractions$Fraction" "below" "Z") (by decide +kernel)) (fun _ h9 => h9) rfl dX0_sign_13 ?_
    refine iw_if_eq (tgt := 23) hx hb dX0_sign_16 (by decide) (by rcases hbo with h | h <;> rw [h] <;> exact ⟨by decide, by decide⟩) (fun c2 => ?_) (fun c2 => ?_)
    ·
      refine lv_iconst (v := iv (1)) hx hb dX0_sign_23 (by decide) ?_
      exact ef_iret hx hb hr hlocks hP hD hS dX0_sign_24 (by unfold sgn; rw [if_neg hA0, if_pos c2]; exact ⟨rfl, rfl⟩)
    ·
      refine lv_iconst (v := iv (-1)) hx hb dX0_sign_19 (by decide) ?_
      refine lv_goto (tgt := 24) hx hb dX0_sign_20 (by decide) ?_
      exact ef_iret hx hb hr hlocks hP hD hS dX0_sign_24 (by unfold sgn; rw [if_neg hA0, if_neg c2]; exact ⟨rfl, rfl⟩)
  ·
    have hA0 : A2 = 0 := by
      by_cases q : A2 = 0
      · exact q
      · rw [if_neg q] at c1; exact absurd rfl c1
    refine lv_iconst (v := iv (0)) hx hb dX0_sign_10 (by decide) ?_
    exact ef_iret hx hb hr hlocks hP hD hS dX0_sign_11 (by unfold sgn; rw [if_pos hA0]; exact ⟨rfl, rfl⟩)

set_option maxRecDepth 100000 in
set_option maxHeartbeats 4000000 in
/-- rank -/
theorem c_rank0 (l : Launch) (dC : Nat → ClassId) (dI : Nat → Nat → Nat) {cI : ClassId} {tys : List (ClassId × FieldType)} (ht : tys[0]? = some (cI, .int)) (q : Nat → Nat) {A1 U1 A2 U2 L R : Nat} {b1 e1 b2 e2 : Int} (hA1 : wl A1 ≤ 150) (hU1 : wl U1 ≤ 150) (hA2 : wl A2 ≤ 150) (hU2 : wl U2 ≤ 150) (hL : wl L ≤ 301) (hR : wl R ≤ 301) : ef_C l yX0_rank wsX0_rank ({ frames := 2, cells := 0, slots := 0, locals := 43 } : Room) [.ref (q 1)] (dC, dI) vwCl tys (cC cI q (A1) (U1) (b1) (e1) (A2) (U2) (b2) (e2) (L) (R)) (fun o w1 => o = some (.int (iv ((bl A1 : Int) - (bl U1 : Int) + e1))) ∧ w1 = cC cI q (A1) (U1) (b1) (e1) (A2) (U2) (b2) (e2) (L) (R)) := by
  refine ef_C.of (cc := cX0_rank) (maxL := 1) (ret := (some .int)) (by decide) rfl (Nat.le_of_ble_eq_true rfl) ?_
  intro p e s m below meth c ls hx hb hml hr hts hown hlocks hK hNX hP hD hS hl
  have hl : lv_has ls 1 [(0, .ref (q 1))] := hl
  have hown : s.vm.findClass RX0 = some m.cls := hown
  generalize hH : s.heap = H at hP ⊢
  have hS : va_S (ef_A (cC cI q (A1) (U1) (b1) (e1) (A2) (U2) (b2) (e2) (L) (R))) s.heap H [] := by rw [← hH]; exact hS
  generalize ([] : List Loc) = locs at hS ⊢
  refine lv_aload_n hx hb dX0_rank_0 rfl (lv_at hl 0 rfl) ?_
  refine va_get (D := (dC, dI)) (ci := 0) (v := .ref (q 3)) (C := RX0) (T := TX0) (N := 4) hx hb hts (by decide +kernel) hown hK hP 1 rfl rfl 0 (by decide) (hts (.fieldLink RX0 10 "ExactFractions$Fraction" "above" "LExactFractions$Whole;") (by decide +kernel)) (fun _ h9 => h9) rfl dX0_rank_1 ?_
  refine ef_callV (As := []) (rest := []) ⟨hx, hb, hml, hown, hts⟩ (c_length l dC dI ht (isW_c (X := A1) (ws := cC cI q (A1) (U1) (b1) (e1) (A2) (U2) (b2) (e2) (L) (R)) (k0 := 3) (k1 := 4) (by decide) rfl rfl) (by omega)) (cwV 0 hts gX0_rank_X1_length rfl rfl rfl (by decide +kernel) ⟨Nat.le_of_ble_eq_true rfl, Nat.le_of_ble_eq_true rfl⟩) hK hNX hP hD hS 3 rfl rfl rfl rfl hl.1 rfl (Nat.le_of_ble_eq_true rfl) dX0_rank_4 ⟨Nat.zero_le _, Nat.zero_le _⟩ (fun o w1 H locs hq hP hD hS => ?_)
  obtain ⟨rfl, e9⟩ := hq
  rw [e9] at hP hD
  refine W.eq (g2 := F0 m 7 ls [.int (iv ((bl A1 : Int)))]) rfl ?_
  refine lv_aload_n hx hb dX0_rank_7 rfl (lv_at hl 0 rfl) ?_
  refine va_get (D := (dC, dI)) (ci := 0) (v := .ref (q 5)) (C := RX0) (T := TX0) (N := 4) hx hb hts (by decide +kernel) hown hK hP 1 rfl rfl 1 (by decide) (hts (.fieldLink RX0 16 "ExactFractions$Fraction" "under" "LExactFractions$Whole;") (by decide +kernel)) (fun _ h9 => h9) rfl dX0_rank_8 ?_
  refine ef_callV (As := []) (rest := [.int (iv ((bl A1 : Int)))]) ⟨hx, hb, hml, hown, hts⟩ (c_length l dC dI ht (isW_c (X := U1) (ws := cC cI q (A1) (U1) (b1) (e1) (A2) (U2) (b2) (e2) (L) (R)) (k0 := 5) (k1 := 6) (by decide) rfl rfl) (by omega)) (cwV 0 hts gX0_rank_X1_length rfl rfl rfl (by decide +kernel) ⟨Nat.le_of_ble_eq_true rfl, Nat.le_of_ble_eq_true rfl⟩) hK hNX hP hD hS 5 rfl rfl rfl rfl hl.1 rfl (Nat.le_of_ble_eq_true rfl) dX0_rank_11 ⟨Nat.zero_le _, Nat.zero_le _⟩ (fun o w1 H locs hq hP hD hS => ?_)
  obtain ⟨rfl, e9⟩ := hq
  rw [e9] at hP hD
  refine W.eq (g2 := F0 m 14 ls [.int (iv ((bl U1 : Int))), .int (iv ((bl A1 : Int)))]) rfl ?_
  refine iw_isub hx hb dX0_rank_14 ?_
  refine lv_aload_n hx hb dX0_rank_15 rfl (lv_at hl 0 rfl) ?_
  refine va_get (D := (dC, dI)) (ci := 0) (v := .int (iv (e1))) (C := RX0) (T := TX0) (N := 4) hx hb hts (by decide +kernel) hown hK hP 1 rfl rfl 3 (by decide) (hts (.fieldLink RX0 30 "ExactFractions$Fraction" "exponent" "I") (by decide +kernel)) (fun _ h9 => h9) rfl dX0_rank_16 ?_
  refine iw_iadd hx hb dX0_rank_19 ?_
  exact ef_iret hx hb hr hlocks hP hD hS dX0_rank_20 (⟨rfl, rfl⟩)

set_option maxRecDepth 100000 in
set_option maxHeartbeats 4000000 in
/-- rank -/
theorem c_rank1 (l : Launch) (dC : Nat → ClassId) (dI : Nat → Nat → Nat) {cI : ClassId} {tys : List (ClassId × FieldType)} (ht : tys[0]? = some (cI, .int)) (q : Nat → Nat) {A1 U1 A2 U2 L R : Nat} {b1 e1 b2 e2 : Int} (hA1 : wl A1 ≤ 150) (hU1 : wl U1 ≤ 150) (hA2 : wl A2 ≤ 150) (hU2 : wl U2 ≤ 150) (hL : wl L ≤ 301) (hR : wl R ≤ 301) : ef_C l yX0_rank wsX0_rank ({ frames := 2, cells := 0, slots := 0, locals := 43 } : Room) [.ref (q 2)] (dC, dI) vwCl tys (cC cI q (A1) (U1) (b1) (e1) (A2) (U2) (b2) (e2) (L) (R)) (fun o w1 => o = some (.int (iv ((bl A2 : Int) - (bl U2 : Int) + e2))) ∧ w1 = cC cI q (A1) (U1) (b1) (e1) (A2) (U2) (b2) (e2) (L) (R)) := by
  refine ef_C.of (cc := cX0_rank) (maxL := 1) (ret := (some .int)) (by decide) rfl (Nat.le_of_ble_eq_true rfl) ?_
  intro p e s m below meth c ls hx hb hml hr hts hown hlocks hK hNX hP hD hS hl
  have hl : lv_has ls 1 [(0, .ref (q 2))] := hl
  have hown : s.vm.findClass RX0 = some m.cls := hown
  generalize hH : s.heap = H at hP ⊢
  have hS : va_S (ef_A (cC cI q (A1) (U1) (b1) (e1) (A2) (U2) (b2) (e2) (L) (R))) s.heap H [] := by rw [← hH]; exact hS
  generalize ([] : List Loc) = locs at hS ⊢
  refine lv_aload_n hx hb dX0_rank_0 rfl (lv_at hl 0 rfl) ?_
  refine va_get (D := (dC, dI)) (ci := 0) (v := .ref (q 7)) (C := RX0) (T := TX0) (N := 4) hx hb hts (by decide +kernel) hown hK hP 2 rfl rfl 0 (by decide) (hts (.fieldLink RX0 10 "ExactFractions$Fraction" "above" "LExactFractions$Whole;") (by decide +kernel)) (fun _ h9 => h9) rfl dX0_rank_1 ?_
  refine ef_callV (As := []) (rest := []) ⟨hx, hb, hml, hown, hts⟩ (c_length l dC dI ht (isW_c (X := A2) (ws := cC cI q (A1) (U1) (b1) (e1) (A2) (U2) (b2) (e2) (L) (R)) (k0 := 7) (k1 := 8) (by decide) rfl rfl) (by omega)) (cwV 0 hts gX0_rank_X1_length rfl rfl rfl (by decide +kernel) ⟨Nat.le_of_ble_eq_true rfl, Nat.le_of_ble_eq_true rfl⟩) hK hNX hP hD hS 7 rfl rfl rfl rfl hl.1 rfl (Nat.le_of_ble_eq_true rfl) dX0_rank_4 ⟨Nat.zero_le _, Nat.zero_le _⟩ (fun o w1 H locs hq hP hD hS => ?_)
  obtain ⟨rfl, e9⟩ := hq
  rw [e9] at hP hD
  refine W.eq (g2 := F0 m 7 ls [.int (iv ((bl A2 : Int)))]) rfl ?_
  refine lv_aload_n hx hb dX0_rank_7 rfl (lv_at hl 0 rfl) ?_
  refine va_get (D := (dC, dI)) (ci := 0) (v := .ref (q 9)) (C := RX0) (T := TX0) (N := 4) hx hb hts (by decide +kernel) hown hK hP 2 rfl rfl 1 (by decide) (hts (.fieldLink RX0 16 "ExactFractions$Fraction" "under" "LExactFractions$Whole;") (by decide +kernel)) (fun _ h9 => h9) rfl dX0_rank_8 ?_
  refine ef_callV (As := []) (rest := [.int (iv ((bl A2 : Int)))]) ⟨hx, hb, hml, hown, hts⟩ (c_length l dC dI ht (isW_c (X := U2) (ws := cC cI q (A1) (U1) (b1) (e1) (A2) (U2) (b2) (e2) (L) (R)) (k0 := 9) (k1 := 10) (by decide) rfl rfl) (by omega)) (cwV 0 hts gX0_rank_X1_length rfl rfl rfl (by decide +kernel) ⟨Nat.le_of_ble_eq_true rfl, Nat.le_of_ble_eq_true rfl⟩) hK hNX hP hD hS 9 rfl rfl rfl rfl hl.1 rfl (Nat.le_of_ble_eq_true rfl) dX0_rank_11 ⟨Nat.zero_le _, Nat.zero_le _⟩ (fun o w1 H locs hq hP hD hS => ?_)
  obtain ⟨rfl, e9⟩ := hq
  rw [e9] at hP hD
  refine W.eq (g2 := F0 m 14 ls [.int (iv ((bl U2 : Int))), .int (iv ((bl A2 : Int)))]) rfl ?_
  refine iw_isub hx hb dX0_rank_14 ?_
  refine lv_aload_n hx hb dX0_rank_15 rfl (lv_at hl 0 rfl) ?_
  refine va_get (D := (dC, dI)) (ci := 0) (v := .int (iv (e2))) (C := RX0) (T := TX0) (N := 4) hx hb hts (by decide +kernel) hown hK hP 2 rfl rfl 3 (by decide) (hts (.fieldLink RX0 30 "ExactFractions$Fraction" "exponent" "I") (by decide +kernel)) (fun _ h9 => h9) rfl dX0_rank_16 ?_
  refine iw_iadd hx hb dX0_rank_19 ?_
  exact ef_iret hx hb hr hlocks hP hD hS dX0_rank_20 (⟨rfl, rfl⟩)

set_option maxRecDepth 100000 in
set_option maxHeartbeats 4000000 in
/-- restart -/
theorem c_restart0 (l : Launch) (dC : Nat → ClassId) (dI : Nat → Nat → Nat) {cI : ClassId} {tys : List (ClassId × FieldType)} (ht : tys[0]? = some (cI, .int)) (q : Nat → Nat) {A1 U1 A2 U2 L R : Nat} {b1 e1 b2 e2 : Int} (hA1 : wl A1 ≤ 150) (hU1 : wl U1 ≤ 150) (hA2 : wl A2 ≤ 150) (hU2 : wl U2 ≤ 150) (hL : wl L ≤ 301) (hR : wl R ≤ 301) : ef_C l yX0_restart wsX0_restart ({ frames := 3, cells := 0, slots := 0, locals := 67 } : Room) [.ref (q 1)] (dC, dI) vwCl tys (cC cI q (A1) (U1) (b1) (e1) (A2) (U2) (b2) (e2) (L) (R)) (fun o w1 => o = none ∧ w1 = cC cI q (0) (1) (0) (0) (A2) (U2) (b2) (e2) (L) (R)) := by
  refine ef_C.of (cc := cX0_restart) (maxL := 1) (ret := none) (by decide) rfl (Nat.le_of_ble_eq_true rfl) ?_
  intro p e s m below meth c ls hx hb hml hr hts hown hlocks hK hNX hP hD hS hl
  have hl : lv_has ls 1 [(0, .ref (q 1))] := hl
  have hown : s.vm.findClass RX0 = some m.cls := hown
  generalize hH : s.heap = H at hP ⊢
  have hS : va_S (ef_A (cC cI q (A1) (U1) (b1) (e1) (A2) (U2) (b2) (e2) (L) (R))) s.heap H [] := by rw [← hH]; exact hS
  generalize ([] : List Loc) = locs at hS ⊢
  refine lv_aload_n hx hb dX0_restart_0 rfl (lv_at hl 0 rfl) ?_
  refine va_get (D := (dC, dI)) (ci := 0) (v := .ref (q 3)) (C := RX0) (T := TX0) (N := 4) hx hb hts (by decide +kernel) hown hK hP 1 rfl rfl 0 (by decide) (hts (.fieldLink RX0 10 "ExactFractions$Fraction" "above" "LExactFractions$Whole;") (by decide +kernel)) (fun _ h9 => h9) rfl dX0_restart_1 ?_
  refine lv_lconst (v := jv (0)) hx hb dX0_restart_4 (by decide) ?_
  refine iw_topl (y := jv (((0 : Nat) : Int))) (congrArg jv (by omega : ((0) : Int) = (((0 : Nat) : Int)))) ?_
  refine ef_callV (As := [.long (jv (((0 : Nat) : Int)))]) (rest := []) ⟨hx, hb, hml, hown, hts⟩ (c_become l dC dI ht (isW_c (X := A1) (ws := cC cI q (A1) (U1) (b1) (e1) (A2) (U2) (b2) (e2) (L) (R)) (k0 := 3) (k1 := 4) (by decide) rfl rfl) (by omega) (wd_lt _) wd_z (0) (by decide)) (cwV 1 hts gX0_restart_X1_become rfl rfl rfl (by decide +kernel) ⟨Nat.le_of_ble_eq_true rfl, Nat.le_of_ble_eq_true rfl⟩) hK hNX hP hD hS 3 rfl rfl rfl rfl hl.1 rfl (Nat.le_of_ble_eq_true rfl) dX0_restart_5 ⟨Nat.zero_le _, Nat.zero_le _⟩ (fun o w1 H locs hq hP hD hS => ?_)
  obtain ⟨rfl, rfl⟩ := hq
  have hP : va_P (dC, dI) vwCl (cC cI q (0) (U1) (b1) (e1) (A2) (U2) (b2) (e2) (L) (R)) H := hP
  have hD : va_D (ef_A (cC cI q (A1) (U1) (b1) (e1) (A2) (U2) (b2) (e2) (L) (R))) (cC cI q (0) (U1) (b1) (e1) (A2) (U2) (b2) (e2) (L) (R)) := hD
  refine W.eq (g2 := F0 m 8 ls []) rfl ?_
  refine lv_aload_n hx hb dX0_restart_8 rfl (lv_at hl 0 rfl) ?_
  refine va_get (D := (dC, dI)) (ci := 0) (v := .ref (q 5)) (C := RX0) (T := TX0) (N := 4) hx hb hts (by decide +kernel) hown hK hP 1 rfl rfl 1 (by decide) (hts (.fieldLink RX0 16 "ExactFractions$Fraction" "under" "LExactFractions$Whole;") (by decide +kernel)) (fun _ h9 => h9) rfl dX0_restart_9 ?_
  refine lv_lconst (v := jv (1)) hx hb dX0_restart_12 (by decide) ?_
  refine iw_topl (y := jv (((1 : Nat) : Int))) (congrArg jv (by omega : ((1) : Int) = (((1 : Nat) : Int)))) ?_
  refine ef_callV (As := [.long (jv (((1 : Nat) : Int)))]) (rest := []) ⟨hx, hb, hml, hown, hts⟩ (c_become l dC dI ht (isW_c (X := U1) (ws := cC cI q (0) (U1) (b1) (e1) (A2) (U2) (b2) (e2) (L) (R)) (k0 := 5) (k1 := 6) (by decide) rfl rfl) (by omega) (wd_lt _) wd_z (1) (by decide)) (cwV 1 hts gX0_restart_X1_become rfl rfl rfl (by decide +kernel) ⟨Nat.le_of_ble_eq_true rfl, Nat.le_of_ble_eq_true rfl⟩) hK hNX hP hD hS 5 rfl rfl rfl rfl hl.1 rfl (Nat.le_of_ble_eq_true rfl) dX0_restart_13 ⟨Nat.zero_le _, Nat.zero_le _⟩ (fun o w1 H locs hq hP hD hS => ?_)
  obtain ⟨rfl, rfl⟩ := hq
  have hP : va_P (dC, dI) vwCl (cC cI q (0) (1) (b1) (e1) (A2) (U2) (b2) (e2) (L) (R)) H := hP
  have hD : va_D (ef_A (cC cI q (A1) (U1) (b1) (e1) (A2) (U2) (b2) (e2) (L) (R))) (cC cI q (0) (1) (b1) (e1) (A2) (U2) (b2) (e2) (L) (R)) := hD
  refine W.eq (g2 := F0 m 16 ls []) rfl ?_
  refine lv_aload_n hx hb dX0_restart_16 rfl (lv_at hl 0 rfl) ?_
  refine lv_iconst (v := iv (0)) hx hb dX0_restart_17 (by decide) ?_
  refine va_put (D := (dC, dI)) (ci := 0) (v := .int (iv (0))) (ty := .boolean) (C := RX0) (T := TX0) (N := 4) hx hb hts (by decide +kernel) tyX0 tyX0_ok nmX0 hown hK hP hD hS 1 rfl rfl 2 (by decide) (hts (.fieldLink RX0 26 "ExactFractions$Fraction" "below" "Z") (by decide +kernel)) (fun _ h9 => h9) rfl (by decide +kernel) rfl rfl (Nat.le_of_ble_eq_true rfl) dX0_restart_18 (fun H locs hP hD hS => ?_)
  have hP : va_P (dC, dI) vwCl (cC cI q (0) (1) (0) (e1) (A2) (U2) (b2) (e2) (L) (R)) H := hP
  have hD : va_D (ef_A (cC cI q (A1) (U1) (b1) (e1) (A2) (U2) (b2) (e2) (L) (R))) (cC cI q (0) (1) (0) (e1) (A2) (U2) (b2) (e2) (L) (R)) := hD
  refine lv_aload_n hx hb dX0_restart_21 rfl (lv_at hl 0 rfl) ?_
  refine lv_iconst (v := iv (0)) hx hb dX0_restart_22 (by decide) ?_
  refine va_put (D := (dC, dI)) (ci := 0) (v := .int (iv (0))) (ty := .int) (C := RX0) (T := TX0) (N := 4) hx hb hts (by decide +kernel) tyX0 tyX0_ok nmX0 hown hK hP hD hS 1 rfl rfl 3 (by decide) (hts (.fieldLink RX0 30 "ExactFractions$Fraction" "exponent" "I") (by decide +kernel)) (fun _ h9 => h9) rfl (by decide +kernel) rfl rfl (Nat.le_of_ble_eq_true rfl) dX0_restart_23 (fun H locs hP hD hS => ?_)
  have hP : va_P (dC, dI) vwCl (cC cI q (0) (1) (0) (0) (A2) (U2) (b2) (e2) (L) (R)) H := hP
  have hD : va_D (ef_A (cC cI q (A1) (U1) (b1) (e1) (A2) (U2) (b2) (e2) (L) (R))) (cC cI q (0) (1) (0) (0) (A2) (U2) (b2) (e2) (L) (R)) := hD
  exact ef_vret hx hb hr hlocks hP hD hS dX0_restart_26 (⟨rfl, rfl⟩)

set_option maxRecDepth 100000 in
set_option maxHeartbeats 4000000 in
/-- restart -/
theorem c_restart1 (l : Launch) (dC : Nat → ClassId) (dI : Nat → Nat → Nat) {cI : ClassId} {tys : List (ClassId × FieldType)} (ht : tys[0]? = some (cI, .int)) (q : Nat → Nat) {A1 U1 A2 U2 L R : Nat} {b1 e1 b2 e2 : Int} (hA1 : wl A1 ≤ 150) (hU1 : wl U1 ≤ 150) (hA2 : wl A2 ≤ 150) (hU2 : wl U2 ≤ 150) (hL : wl L ≤ 301) (hR : wl R ≤ 301) : ef_C l yX0_restart wsX0_restart ({ frames := 3, cells := 0, slots := 0, locals := 67 } : Room) [.ref (q 2)] (dC, dI) vwCl tys (cC cI q (A1) (U1) (b1) (e1) (A2) (U2) (b2) (e2) (L) (R)) (fun o w1 => o = none ∧ w1 = cC cI q (A1) (U1) (b1) (e1) (0) (1) (0) (0) (L) (R)) := by
  refine ef_C.of (cc := cX0_restart) (maxL := 1) (ret := none) (by decide) rfl (Nat.le_of_ble_eq_true rfl) ?_
  intro p e s m below meth c ls hx hb hml hr hts hown hlocks hK hNX hP hD hS hl
  have hl : lv_has ls 1 [(0, .ref (q 2))] := hl
  have hown : s.vm.findClass RX0 = some m.cls := hown
  generalize hH : s.heap = H at hP ⊢
  have hS : va_S (ef_A (cC cI q (A1) (U1) (b1) (e1) (A2) (U2) (b2) (e2) (L) (R))) s.heap H [] := by rw [← hH]; exact hS
  generalize ([] : List Loc) = locs at hS ⊢
  refine lv_aload_n hx hb dX0_restart_0 rfl (lv_at hl 0 rfl) ?_
  refine va_get (D := (dC, dI)) (ci := 0) (v := .ref (q 7)) (C := RX0) (T := TX0) (N := 4) hx hb hts (by decide +kernel) hown hK hP 2 rfl rfl 0 (by decide) (hts (.fieldLink RX0 10 "ExactFractions$Fraction" "above" "LExactFractions$Whole;") (by decide +kernel)) (fun _ h9 => h9) rfl dX0_restart_1 ?_
  refine lv_lconst (v := jv (0)) hx hb dX0_restart_4 (by decide) ?_
  refine iw_topl (y := jv (((0 : Nat) : Int))) (congrArg jv (by omega : ((0) : Int) = (((0 : Nat) : Int)))) ?_
  refine ef_callV (As := [.long (jv (((0 : Nat) : Int)))]) (rest := []) ⟨hx, hb, hml, hown, hts⟩ (c_become l dC dI ht (isW_c (X := A2) (ws := cC cI q (A1) (U1) (b1) (e1) (A2) (U2) (b2) (e2) (L) (R)) (k0 := 7) (k1 := 8) (by decide) rfl rfl) (by omega) (wd_lt _) wd_z (0) (by decide)) (cwV 1 hts gX0_restart_X1_become rfl rfl rfl (by decide +kernel) ⟨Nat.le_of_ble_eq_true rfl, Nat.le_of_ble_eq_true rfl⟩) hK hNX hP hD hS 7 rfl rfl rfl rfl hl.1 rfl (Nat.le_of_ble_eq_true rfl) dX0_restart_5 ⟨Nat.zero_le _, Nat.zero_le _⟩ (fun o w1 H locs hq hP hD hS => ?_)
  obtain ⟨rfl, rfl⟩ := hq
  have hP : va_P (dC, dI) vwCl (cC cI q (A1) (U1) (b1) (e1) (0) (U2) (b2) (e2) (L) (R)) H := hP
  have hD : va_D (ef_A (cC cI q (A1) (U1) (b1) (e1) (A2) (U2) (b2) (e2) (L) (R))) (cC cI q (A1) (U1) (b1) (e1) (0) (U2) (b2) (e2) (L) (R)) := hD
  refine W.eq (g2 := F0 m 8 ls []) rfl ?_
  refine lv_aload_n hx hb dX0_restart_8 rfl (lv_at hl 0 rfl) ?_
  refine va_get (D := (dC, dI)) (ci := 0) (v := .ref (q 9)) (C := RX0) (T := TX0) (N := 4) hx hb hts (by decide +kernel) hown hK hP 2 rfl rfl 1 (by decide) (hts (.fieldLink RX0 16 "ExactFractions$Fraction" "under" "LExactFractions$Whole;") (by decide +kernel)) (fun _ h9 => h9) rfl dX0_restart_9 ?_
  refine lv_lconst (v := jv (1)) hx hb dX0_restart_12 (by decide) ?_
  refine iw_topl (y := jv (((1 : Nat) : Int))) (congrArg jv (by omega : ((1) : Int) = (((1 : Nat) : Int)))) ?_
  refine ef_callV (As := [.long (jv (((1 : Nat) : Int)))]) (rest := []) ⟨hx, hb, hml, hown, hts⟩ (c_become l dC dI ht (isW_c (X := U2) (ws := cC cI q (A1) (U1) (b1) (e1) (0) (U2) (b2) (e2) (L) (R)) (k0 := 9) (k1 := 10) (by decide) rfl rfl) (by omega) (wd_lt _) wd_z (1) (by decide)) (cwV 1 hts gX0_restart_X1_become rfl rfl rfl (by decide +kernel) ⟨Nat.le_of_ble_eq_true rfl, Nat.le_of_ble_eq_true rfl⟩) hK hNX hP hD hS 9 rfl rfl rfl rfl hl.1 rfl (Nat.le_of_ble_eq_true rfl) dX0_restart_13 ⟨Nat.zero_le _, Nat.zero_le _⟩ (fun o w1 H locs hq hP hD hS => ?_)
  obtain ⟨rfl, rfl⟩ := hq
  have hP : va_P (dC, dI) vwCl (cC cI q (A1) (U1) (b1) (e1) (0) (1) (b2) (e2) (L) (R)) H := hP
  have hD : va_D (ef_A (cC cI q (A1) (U1) (b1) (e1) (A2) (U2) (b2) (e2) (L) (R))) (cC cI q (A1) (U1) (b1) (e1) (0) (1) (b2) (e2) (L) (R)) := hD
  refine W.eq (g2 := F0 m 16 ls []) rfl ?_
  refine lv_aload_n hx hb dX0_restart_16 rfl (lv_at hl 0 rfl) ?_
  refine lv_iconst (v := iv (0)) hx hb dX0_restart_17 (by decide) ?_
  refine va_put (D := (dC, dI)) (ci := 0) (v := .int (iv (0))) (ty := .boolean) (C := RX0) (T := TX0) (N := 4) hx hb hts (by decide +kernel) tyX0 tyX0_ok nmX0 hown hK hP hD hS 2 rfl rfl 2 (by decide) (hts (.fieldLink RX0 26 "ExactFractions$Fraction" "below" "Z") (by decide +kernel)) (fun _ h9 => h9) rfl (by decide +kernel) rfl rfl (Nat.le_of_ble_eq_true rfl) dX0_restart_18 (fun H locs hP hD hS => ?_)
  have hP : va_P (dC, dI) vwCl (cC cI q (A1) (U1) (b1) (e1) (0) (1) (0) (e2) (L) (R)) H := hP
  have hD : va_D (ef_A (cC cI q (A1) (U1) (b1) (e1) (A2) (U2) (b2) (e2) (L) (R))) (cC cI q (A1) (U1) (b1) (e1) (0) (1) (0) (e2) (L) (R)) := hD
  refine lv_aload_n hx hb dX0_restart_21 rfl (lv_at hl 0 rfl) ?_
  refine lv_iconst (v := iv (0)) hx hb dX0_restart_22 (by decide) ?_
  refine va_put (D := (dC, dI)) (ci := 0) (v := .int (iv (0))) (ty := .int) (C := RX0) (T := TX0) (N := 4) hx hb hts (by decide +kernel) tyX0 tyX0_ok nmX0 hown hK hP hD hS 2 rfl rfl 3 (by decide) (hts (.fieldLink RX0 30 "ExactFractions$Fraction" "exponent" "I") (by decide +kernel)) (fun _ h9 => h9) rfl (by decide +kernel) rfl rfl (Nat.le_of_ble_eq_true rfl) dX0_restart_23 (fun H locs hP hD hS => ?_)
  have hP : va_P (dC, dI) vwCl (cC cI q (A1) (U1) (b1) (e1) (0) (1) (0) (0) (L) (R)) H := hP
  have hD : va_D (ef_A (cC cI q (A1) (U1) (b1) (e1) (A2) (U2) (b2) (e2) (L) (R))) (cC cI q (A1) (U1) (b1) (e1) (0) (1) (0) (0) (L) (R)) := hD
  exact ef_vret hx hb hr hlocks hP hD hS dX0_restart_26 (⟨rfl, rfl⟩)
end
section
set_option maxRecDepth 100000 in
set_option maxHeartbeats 4000000 in
/-- begin -/
theorem c_begin0 (l : Launch) (dC : Nat → ClassId) (dI : Nat → Nat → Nat) {cI : ClassId} {tys : List (ClassId × FieldType)} (ht : tys[0]? = some (cI, .int)) (q : Nat → Nat) {A1 U1 A2 U2 L R : Nat} {b1 e1 b2 e2 : Int} (hA1 : wl A1 ≤ 150) (hU1 : wl U1 ≤ 150) (hA2 : wl A2 ≤ 150) (hU2 : wl U2 ≤ 150) (hL : wl L ≤ 301) (hR : wl R ≤ 301) : ef_C l yX2_begin wsX2_begin ({ frames := 4, cells := 0, slots := 0, locals := 87 } : Room) [.ref (q 0), .int (iv (0))] (dC, dI) vwCl tys (cC cI q (A1) (U1) (b1) (e1) (A2) (U2) (b2) (e2) (L) (R)) (fun o w1 => ∃ L2 R2 : Nat, o = some (.int (iv (0))) ∧ w1 = cC cI q (0) (1) (0) (0) (A2) (U2) (b2) (e2) (L2) (R2) ∧ wl L2 ≤ 301 ∧ wl R2 ≤ 301) := by
  refine ef_C.of (cc := cX2_begin) (maxL := 3) (ret := (some .int)) (by decide) rfl (Nat.le_of_ble_eq_true rfl) ?_
  intro p e s m below meth c ls hx hb hml hr hts hown hlocks hK hNX hP hD hS hl
  have hl : lv_has ls 3 [(0, .ref (q 0)), (1, .int (iv (0)))] := hl
  have hown : s.vm.findClass RX2 = some m.cls := hown
  generalize hH : s.heap = H at hP ⊢
  have hS : va_S (ef_A (cC cI q (A1) (U1) (b1) (e1) (A2) (U2) (b2) (e2) (L) (R))) s.heap H [] := by rw [← hH]; exact hS
  generalize ([] : List Loc) = locs at hS ⊢
  refine lv_aload_n hx hb dX2_begin_0 rfl (lv_at hl 0 rfl) ?_
  refine lv_iload_n hx hb dX2_begin_1 rfl (lv_at hl 1 rfl) ?_
  refine ef_callV (As := [.int (iv (0))]) (rest := []) ⟨hx, hb, hml, hown, hts⟩ (c_numberOf0 l dC dI ht q) (cwV 1 hts gX2_begin_X2_numberOf rfl rfl rfl (by decide +kernel) ⟨Nat.le_of_ble_eq_true rfl, Nat.le_of_ble_eq_true rfl⟩) hK hNX hP hD hS 0 rfl rfl rfl rfl hl.1 rfl (Nat.le_of_ble_eq_true rfl) dX2_begin_2 ⟨Nat.zero_le _, Nat.zero_le _⟩ (fun o w1 H locs hq hP hD hS => ?_)
  obtain ⟨rfl, e9⟩ := hq
  rw [e9] at hP hD
  refine W.eq (g2 := F0 m 5 ls [.ref (q 1)]) rfl ?_
  refine lv_astore_n (lv' := [(2, .ref (q 1)), (0, .ref (q 0)), (1, .int (iv (0)))]) hx hb dX2_begin_5 rfl hl (by decide) rfl (fun ls hl => ?_)
  refine lv_aload_n hx hb dX2_begin_6 rfl (lv_at hl 0 rfl) ?_
  refine lv_ifnonnull (tgt := 12) hx hb dX2_begin_7 (by decide) ?_
  refine lv_aload_n hx hb dX2_begin_12 rfl (lv_at hl 0 rfl) ?_
  refine ef_callV (As := []) (rest := []) ⟨hx, hb, hml, hown, hts⟩ (c_restart0 l dC dI ht q hA1 hU1 hA2 hU2 hL hR) (cwV 0 hts gX2_begin_X0_restart rfl rfl rfl (by decide +kernel) ⟨Nat.le_of_ble_eq_true rfl, Nat.le_of_ble_eq_true rfl⟩) hK hNX hP hD hS 1 rfl rfl rfl rfl hl.1 rfl (Nat.le_of_ble_eq_true rfl) dX2_begin_13 ⟨Nat.zero_le _, Nat.zero_le _⟩ (fun o w1 H locs hq hP hD hS => ?_)
  obtain ⟨rfl, rfl⟩ := hq
  have hP : va_P (dC, dI) vwCl (cC cI q (0) (1) (0) (0) (A2) (U2) (b2) (e2) (L) (R)) H := hP
  have hD : va_D (ef_A (cC cI q (A1) (U1) (b1) (e1) (A2) (U2) (b2) (e2) (L) (R))) (cC cI q (0) (1) (0) (0) (A2) (U2) (b2) (e2) (L) (R)) := hD
  refine W.eq (g2 := F0 m 16 ls []) rfl ?_
  refine lv_iconst (v := iv (0)) hx hb dX2_begin_16 (by decide) ?_
  exact ef_iret hx hb hr hlocks hP hD hS dX2_begin_17 (⟨_, _, rfl, rfl, hL, hR⟩)

set_option maxRecDepth 100000 in
set_option maxHeartbeats 4000000 in
/-- begin -/
theorem c_begin1 (l : Launch) (dC : Nat → ClassId) (dI : Nat → Nat → Nat) {cI : ClassId} {tys : List (ClassId × FieldType)} (ht : tys[0]? = some (cI, .int)) (q : Nat → Nat) {A1 U1 A2 U2 L R : Nat} {b1 e1 b2 e2 : Int} (hA1 : wl A1 ≤ 150) (hU1 : wl U1 ≤ 150) (hA2 : wl A2 ≤ 150) (hU2 : wl U2 ≤ 150) (hL : wl L ≤ 301) (hR : wl R ≤ 301) : ef_C l yX2_begin wsX2_begin ({ frames := 4, cells := 0, slots := 0, locals := 87 } : Room) [.ref (q 0), .int (iv (1))] (dC, dI) vwCl tys (cC cI q (A1) (U1) (b1) (e1) (A2) (U2) (b2) (e2) (L) (R)) (fun o w1 => ∃ L2 R2 : Nat, o = some (.int (iv (0))) ∧ w1 = cC cI q (A1) (U1) (b1) (e1) (0) (1) (0) (0) (L2) (R2) ∧ wl L2 ≤ 301 ∧ wl R2 ≤ 301) := by
  refine ef_C.of (cc := cX2_begin) (maxL := 3) (ret := (some .int)) (by decide) rfl (Nat.le_of_ble_eq_true rfl) ?_
  intro p e s m below meth c ls hx hb hml hr hts hown hlocks hK hNX hP hD hS hl
  have hl : lv_has ls 3 [(0, .ref (q 0)), (1, .int (iv (1)))] := hl
  have hown : s.vm.findClass RX2 = some m.cls := hown
  generalize hH : s.heap = H at hP ⊢
  have hS : va_S (ef_A (cC cI q (A1) (U1) (b1) (e1) (A2) (U2) (b2) (e2) (L) (R))) s.heap H [] := by rw [← hH]; exact hS
  generalize ([] : List Loc) = locs at hS ⊢
  refine lv_aload_n hx hb dX2_begin_0 rfl (lv_at hl 0 rfl) ?_
  refine lv_iload_n hx hb dX2_begin_1 rfl (lv_at hl 1 rfl) ?_
  refine ef_callV (As := [.int (iv (1))]) (rest := []) ⟨hx, hb, hml, hown, hts⟩ (c_numberOf1 l dC dI ht q) (cwV 1 hts gX2_begin_X2_numberOf rfl rfl rfl (by decide +kernel) ⟨Nat.le_of_ble_eq_true rfl, Nat.le_of_ble_eq_true rfl⟩) hK hNX hP hD hS 0 rfl rfl rfl rfl hl.1 rfl (Nat.le_of_ble_eq_true rfl) dX2_begin_2 ⟨Nat.zero_le _, Nat.zero_le _⟩ (fun o w1 H locs hq hP hD hS => ?_)
  obtain ⟨rfl, e9⟩ := hq
  rw [e9] at hP hD
  refine W.eq (g2 := F0 m 5 ls [.ref (q 2)]) rfl ?_
  refine lv_astore_n (lv' := [(2, .ref (q 2)), (0, .ref (q 0)), (1, .int (iv (1)))]) hx hb dX2_begin_5 rfl hl (by decide) rfl (fun ls hl => ?_)
  refine lv_aload_n hx hb dX2_begin_6 rfl (lv_at hl 0 rfl) ?_
  refine lv_ifnonnull (tgt := 12) hx hb dX2_begin_7 (by decide) ?_
  refine lv_aload_n hx hb dX2_begin_12 rfl (lv_at hl 0 rfl) ?_
  refine ef_callV (As := []) (rest := []) ⟨hx, hb, hml, hown, hts⟩ (c_restart1 l dC dI ht q hA1 hU1 hA2 hU2 hL hR) (cwV 0 hts gX2_begin_X0_restart rfl rfl rfl (by decide +kernel) ⟨Nat.le_of_ble_eq_true rfl, Nat.le_of_ble_eq_true rfl⟩) hK hNX hP hD hS 2 rfl rfl rfl rfl hl.1 rfl (Nat.le_of_ble_eq_true rfl) dX2_begin_13 ⟨Nat.zero_le _, Nat.zero_le _⟩ (fun o w1 H locs hq hP hD hS => ?_)
  obtain ⟨rfl, rfl⟩ := hq
  have hP : va_P (dC, dI) vwCl (cC cI q (A1) (U1) (b1) (e1) (0) (1) (0) (0) (L) (R)) H := hP
  have hD : va_D (ef_A (cC cI q (A1) (U1) (b1) (e1) (A2) (U2) (b2) (e2) (L) (R))) (cC cI q (A1) (U1) (b1) (e1) (0) (1) (0) (0) (L) (R)) := hD
  refine W.eq (g2 := F0 m 16 ls []) rfl ?_
  refine lv_iconst (v := iv (0)) hx hb dX2_begin_16 (by decide) ?_
  exact ef_iret hx hb hr hlocks hP hD hS dX2_begin_17 (⟨_, _, rfl, rfl, hL, hR⟩)

set_option maxRecDepth 100000 in
set_option maxHeartbeats 4000000 in
/-- begin -/
theorem c_beginx (l : Launch) (dC : Nat → ClassId) (dI : Nat → Nat → Nat) {cI : ClassId} {tys : List (ClassId × FieldType)} (ht : tys[0]? = some (cI, .int)) (q : Nat → Nat) {A1 U1 A2 U2 L R : Nat} {b1 e1 b2 e2 : Int} (hA1 : wl A1 ≤ 150) (hU1 : wl U1 ≤ 150) (hA2 : wl A2 ≤ 150) (hU2 : wl U2 ≤ 150) (hL : wl L ≤ 301) (hR : wl R ≤ 301) (z : Int) (hz : ir z) (hz0 : z ≠ 0) (hz1 : z ≠ 1) : ef_C l yX2_begin wsX2_begin ({ frames := 4, cells := 0, slots := 0, locals := 87 } : Room) [.ref (q 0), .int (iv (z))] (dC, dI) vwCl tys (cC cI q (A1) (U1) (b1) (e1) (A2) (U2) (b2) (e2) (L) (R)) (fun o w1 => ∃ L2 R2 : Nat, o = some (.int (iv (-1))) ∧ w1 = cC cI q (A1) (U1) (b1) (e1) (A2) (U2) (b2) (e2) (L2) (R2) ∧ wl L2 ≤ 301 ∧ wl R2 ≤ 301) := by
  refine ef_C.of (cc := cX2_begin) (maxL := 3) (ret := (some .int)) (by decide) rfl (Nat.le_of_ble_eq_true rfl) ?_
  intro p e s m below meth c ls hx hb hml hr hts hown hlocks hK hNX hP hD hS hl
  have hl : lv_has ls 3 [(0, .ref (q 0)), (1, .int (iv (z)))] := hl
  have hown : s.vm.findClass RX2 = some m.cls := hown
  generalize hH : s.heap = H at hP ⊢
  have hS : va_S (ef_A (cC cI q (A1) (U1) (b1) (e1) (A2) (U2) (b2) (e2) (L) (R))) s.heap H [] := by rw [← hH]; exact hS
  generalize ([] : List Loc) = locs at hS ⊢
  refine lv_aload_n hx hb dX2_begin_0 rfl (lv_at hl 0 rfl) ?_
  refine lv_iload_n hx hb dX2_begin_1 rfl (lv_at hl 1 rfl) ?_
  refine ef_callV (As := [.int (iv (z))]) (rest := []) ⟨hx, hb, hml, hown, hts⟩ (c_numberOfx l dC dI ht q z hz hz0 hz1) (cwV 1 hts gX2_begin_X2_numberOf rfl rfl rfl (by decide +kernel) ⟨Nat.le_of_ble_eq_true rfl, Nat.le_of_ble_eq_true rfl⟩) hK hNX hP hD hS 0 rfl rfl rfl rfl hl.1 rfl (Nat.le_of_ble_eq_true rfl) dX2_begin_2 ⟨Nat.zero_le _, Nat.zero_le _⟩ (fun o w1 H locs hq hP hD hS => ?_)
  obtain ⟨rfl, e9⟩ := hq
  rw [e9] at hP hD
  refine W.eq (g2 := F0 m 5 ls [.null]) rfl ?_
  refine lv_astore_nN (lv' := [(2, .null), (0, .ref (q 0)), (1, .int (iv (z)))]) hx hb dX2_begin_5 rfl hl (by decide) rfl (fun ls hl => ?_)
  refine lv_aload_nN hx hb dX2_begin_6 rfl (lv_at hl 0 rfl) ?_
  refine lv_ifnonnullN hx hb dX2_begin_7 ?_
  refine lv_iconst (v := iv (-1)) hx hb dX2_begin_10 (by decide) ?_
  exact ef_iret hx hb hr hlocks hP hD hS dX2_begin_11 (⟨_, _, rfl, rfl, hL, hR⟩)

set_option maxRecDepth 100000 in
set_option maxHeartbeats 4000000 in
/-- keepLeftIn -/
theorem c_keep00F (l : Launch) (dC : Nat → ClassId) (dI : Nat → Nat → Nat) {cI : ClassId} {tys : List (ClassId × FieldType)} (ht : tys[0]? = some (cI, .int)) (q : Nat → Nat) {A1 U1 A2 U2 L R : Nat} {b1 e1 b2 e2 : Int} (hA1 : wl A1 ≤ 150) (hU1 : wl U1 ≤ 150) (hA2 : wl A2 ≤ 150) (hU2 : wl U2 ≤ 150) (hL : wl L ≤ 301) (hR : wl R ≤ 301) (hb4 : 4800 < bl L) : ef_C l yX2_keepLeftIn wsX2_keepLeftIn ({ frames := 3, cells := 0, slots := 0, locals := 67 } : Room) [.ref (q 0), .ref (q 3)] (dC, dI) vwCl tys (cC cI q (A1) (U1) (b1) (e1) (A2) (U2) (b2) (e2) (L) (R)) (fun o w1 => o = some (.int (iv (-2))) ∧ w1 = cC cI q (A1) (U1) (b1) (e1) (A2) (U2) (b2) (e2) (L) (R)) := by
  refine ef_C.of (cc := cX2_keepLeftIn) (maxL := 2) (ret := (some .int)) (by decide) rfl (Nat.le_of_ble_eq_true rfl) ?_
  intro p e s m below meth c ls hx hb hml hr hts hown hlocks hK hNX hP hD hS hl
  have hl : lv_has ls 2 [(0, .ref (q 0)), (1, .ref (q 3))] := hl
  have hown : s.vm.findClass RX2 = some m.cls := hown
  generalize hH : s.heap = H at hP ⊢
  have hS : va_S (ef_A (cC cI q (A1) (U1) (b1) (e1) (A2) (U2) (b2) (e2) (L) (R))) s.heap H [] := by rw [← hH]; exact hS
  generalize ([] : List Loc) = locs at hS ⊢
  have hbl : bl L ≤ 9632 := bl_le (Nat.lt_of_lt_of_le (wl_lt L) (Nat.pow_le_pow_right (by decide) (by omega)))
  refine lv_aload_n hx hb dX2_keepLeftIn_0 rfl (lv_at hl 0 rfl) ?_
  refine va_get (D := (dC, dI)) (ci := 2) (v := .ref (q 11)) (C := RX2) (T := TX2) (N := 4) hx hb hts (by decide +kernel) hown hK hP 0 rfl rfl 2 (by decide) (hts (.fieldLink RX2 22 "ExactFractions" "left" "LExactFractions$Whole;") (by decide +kernel)) (fun _ h9 => h9) rfl dX2_keepLeftIn_1 ?_
  refine ef_callV (As := []) (rest := []) ⟨hx, hb, hml, hown, hts⟩ (c_length l dC dI ht (isW_c (X := L) (ws := cC cI q (A1) (U1) (b1) (e1) (A2) (U2) (b2) (e2) (L) (R)) (k0 := 11) (k1 := 12) (by decide) rfl rfl) hL) (cwV 0 hts gX2_keepLeftIn_X1_length rfl rfl rfl (by decide +kernel) ⟨Nat.le_of_ble_eq_true rfl, Nat.le_of_ble_eq_true rfl⟩) hK hNX hP hD hS 11 rfl rfl rfl rfl hl.1 rfl (Nat.le_of_ble_eq_true rfl) dX2_keepLeftIn_4 ⟨Nat.zero_le _, Nat.zero_le _⟩ (fun o w1 H locs hq hP hD hS => ?_)
  obtain ⟨rfl, e9⟩ := hq
  rw [e9] at hP hD
  refine W.eq (g2 := F0 m 7 ls [.int (iv ((bl L : Int)))]) rfl ?_
  refine lv_sipush (v := iv (4800)) hx hb dX2_keepLeftIn_7 (by decide) ?_
  refine iw_icmp_le (tgt := 16) hx hb dX2_keepLeftIn_10 (by decide) ⟨by omega, by omega⟩ ⟨by omega, by omega⟩ (fun c1 => ?_) (fun c1 => ?_)
  ·
    exact absurd c1 (by omega)
  ·
    refine lv_bipush (v := iv (-2)) hx hb dX2_keepLeftIn_13 (by decide) ?_
    exact ef_iret hx hb hr hlocks hP hD hS dX2_keepLeftIn_15 (⟨rfl, rfl⟩)

set_option maxRecDepth 100000 in
set_option maxHeartbeats 4000000 in
/-- keepLeftIn -/
theorem c_keep00K (l : Launch) (dC : Nat → ClassId) (dI : Nat → Nat → Nat) {cI : ClassId} {tys : List (ClassId × FieldType)} (ht : tys[0]? = some (cI, .int)) (q : Nat → Nat) {A1 U1 A2 U2 L R : Nat} {b1 e1 b2 e2 : Int} (hA1 : wl A1 ≤ 150) (hU1 : wl U1 ≤ 150) (hA2 : wl A2 ≤ 150) (hU2 : wl U2 ≤ 150) (hL : wl L ≤ 301) (hR : wl R ≤ 301) (hb4 : bl L ≤ 4800) : ef_C l yX2_keepLeftIn wsX2_keepLeftIn ({ frames := 3, cells := 0, slots := 0, locals := 67 } : Room) [.ref (q 0), .ref (q 3)] (dC, dI) vwCl tys (cC cI q (A1) (U1) (b1) (e1) (A2) (U2) (b2) (e2) (L) (R)) (fun o w1 => o = some (.int (iv (bl L : Int))) ∧ w1 = cC cI q (L) (U1) (b1) (e1) (A2) (U2) (b2) (e2) (L) (R)) := by
  refine ef_C.of (cc := cX2_keepLeftIn) (maxL := 2) (ret := (some .int)) (by decide) rfl (Nat.le_of_ble_eq_true rfl) ?_
  intro p e s m below meth c ls hx hb hml hr hts hown hlocks hK hNX hP hD hS hl
  have hl : lv_has ls 2 [(0, .ref (q 0)), (1, .ref (q 3))] := hl
  have hown : s.vm.findClass RX2 = some m.cls := hown
  generalize hH : s.heap = H at hP ⊢
  have hS : va_S (ef_A (cC cI q (A1) (U1) (b1) (e1) (A2) (U2) (b2) (e2) (L) (R))) s.heap H [] := by rw [← hH]; exact hS
  generalize ([] : List Loc) = locs at hS ⊢
  have hbl : bl L ≤ 9632 := bl_le (Nat.lt_of_lt_of_le (wl_lt L) (Nat.pow_le_pow_right (by decide) (by omega)))
  refine lv_aload_n hx hb dX2_keepLeftIn_0 rfl (lv_at hl 0 rfl) ?_
  refine va_get (D := (dC, dI)) (ci := 2) (v := .ref (q 11)) (C := RX2) (T := TX2) (N := 4) hx hb hts (by decide +kernel) hown hK hP 0 rfl rfl 2 (by decide) (hts (.fieldLink RX2 22 "ExactFractions" "left" "LExactFractions$Whole;") (by decide +kernel)) (fun _ h9 => h9) rfl dX2_keepLeftIn_1 ?_
  refine ef_callV (As := []) (rest := []) ⟨hx, hb, hml, hown, hts⟩ (c_length l dC dI ht (isW_c (X := L) (ws := cC cI q (A1) (U1) (b1) (e1) (A2) (U2) (b2) (e2) (L) (R)) (k0 := 11) (k1 := 12) (by decide) rfl rfl) hL) (cwV 0 hts gX2_keepLeftIn_X1_length rfl rfl rfl (by decide +kernel) ⟨Nat.le_of_ble_eq_true rfl, Nat.le_of_ble_eq_true rfl⟩) hK hNX hP hD hS 11 rfl rfl rfl rfl hl.1 rfl (Nat.le_of_ble_eq_true rfl) dX2_keepLeftIn_4 ⟨Nat.zero_le _, Nat.zero_le _⟩ (fun o w1 H locs hq hP hD hS => ?_)
  obtain ⟨rfl, e9⟩ := hq
  rw [e9] at hP hD
  refine W.eq (g2 := F0 m 7 ls [.int (iv ((bl L : Int)))]) rfl ?_
  refine lv_sipush (v := iv (4800)) hx hb dX2_keepLeftIn_7 (by decide) ?_
  refine iw_icmp_le (tgt := 16) hx hb dX2_keepLeftIn_10 (by decide) ⟨by omega, by omega⟩ ⟨by omega, by omega⟩ (fun c1 => ?_) (fun c1 => ?_)
  ·
    refine lv_aload_n hx hb dX2_keepLeftIn_16 rfl (lv_at hl 1 rfl) ?_
    refine lv_aload_n hx hb dX2_keepLeftIn_17 rfl (lv_at hl 0 rfl) ?_
    refine va_get (D := (dC, dI)) (ci := 2) (v := .ref (q 11)) (C := RX2) (T := TX2) (N := 4) hx hb hts (by decide +kernel) hown hK hP 0 rfl rfl 2 (by decide) (hts (.fieldLink RX2 22 "ExactFractions" "left" "LExactFractions$Whole;") (by decide +kernel)) (fun _ h9 => h9) rfl dX2_keepLeftIn_18 ?_
    refine ef_callV (As := [.ref (q 11)]) (rest := []) ⟨hx, hb, hml, hown, hts⟩ (c_copy l dC dI ht (isW_c (X := A1) (ws := cC cI q (A1) (U1) (b1) (e1) (A2) (U2) (b2) (e2) (L) (R)) (k0 := 3) (k1 := 4) (by decide) rfl rfl) (by omega) (wd_lt _) wd_z (isW_c (X := L) (ws := cC cI q (A1) (U1) (b1) (e1) (A2) (U2) (b2) (e2) (L) (R)) (k0 := 11) (k1 := 12) (by decide) rfl rfl) (by omega) (apt_c (k0 := 3) (k1 := 4) (j0 := 11) (j1 := 12) rfl)) (cwV 1 hts gX2_keepLeftIn_X1_copy rfl rfl rfl (by decide +kernel) ⟨Nat.le_of_ble_eq_true rfl, Nat.le_of_ble_eq_true rfl⟩) hK hNX hP hD hS 3 rfl rfl rfl rfl hl.1 rfl (Nat.le_of_ble_eq_true rfl) dX2_keepLeftIn_21 ⟨Nat.zero_le _, Nat.zero_le _⟩ (fun o w1 H locs hq hP hD hS => ?_)
    obtain ⟨rfl, rfl⟩ := hq
    have hP : va_P (dC, dI) vwCl (cC cI q (L) (U1) (b1) (e1) (A2) (U2) (b2) (e2) (L) (R)) H := hP
    have hD : va_D (ef_A (cC cI q (A1) (U1) (b1) (e1) (A2) (U2) (b2) (e2) (L) (R))) (cC cI q (L) (U1) (b1) (e1) (A2) (U2) (b2) (e2) (L) (R)) := hD
    refine W.eq (g2 := F0 m 24 ls []) rfl ?_
    refine lv_aload_n hx hb dX2_keepLeftIn_24 rfl (lv_at hl 1 rfl) ?_
    refine ef_callV (As := []) (rest := []) ⟨hx, hb, hml, hown, hts⟩ (c_length l dC dI ht (isW_c (X := L) (ws := cC cI q (L) (U1) (b1) (e1) (A2) (U2) (b2) (e2) (L) (R)) (k0 := 3) (k1 := 4) (by decide) rfl rfl) (by omega)) (cwV 0 hts gX2_keepLeftIn_X1_length rfl rfl rfl (by decide +kernel) ⟨Nat.le_of_ble_eq_true rfl, Nat.le_of_ble_eq_true rfl⟩) hK hNX hP hD hS 3 rfl rfl rfl rfl hl.1 rfl (Nat.le_of_ble_eq_true rfl) dX2_keepLeftIn_25 ⟨Nat.zero_le _, Nat.zero_le _⟩ (fun o w1 H locs hq hP hD hS => ?_)
    obtain ⟨rfl, e9⟩ := hq
    rw [e9] at hP hD
    refine W.eq (g2 := F0 m 28 ls [.int (iv ((bl L : Int)))]) rfl ?_
    exact ef_iret hx hb hr hlocks hP hD hS dX2_keepLeftIn_28 (⟨rfl, rfl⟩)
  ·
    exact absurd c1 (by omega)

set_option maxRecDepth 100000 in
set_option maxHeartbeats 4000000 in
/-- keepLeftIn -/
theorem c_keep01F (l : Launch) (dC : Nat → ClassId) (dI : Nat → Nat → Nat) {cI : ClassId} {tys : List (ClassId × FieldType)} (ht : tys[0]? = some (cI, .int)) (q : Nat → Nat) {A1 U1 A2 U2 L R : Nat} {b1 e1 b2 e2 : Int} (hA1 : wl A1 ≤ 150) (hU1 : wl U1 ≤ 150) (hA2 : wl A2 ≤ 150) (hU2 : wl U2 ≤ 150) (hL : wl L ≤ 301) (hR : wl R ≤ 301) (hb4 : 4800 < bl L) : ef_C l yX2_keepLeftIn wsX2_keepLeftIn ({ frames := 3, cells := 0, slots := 0, locals := 67 } : Room) [.ref (q 0), .ref (q 5)] (dC, dI) vwCl tys (cC cI q (A1) (U1) (b1) (e1) (A2) (U2) (b2) (e2) (L) (R)) (fun o w1 => o = some (.int (iv (-2))) ∧ w1 = cC cI q (A1) (U1) (b1) (e1) (A2) (U2) (b2) (e2) (L) (R)) := by
  refine ef_C.of (cc := cX2_keepLeftIn) (maxL := 2) (ret := (some .int)) (by decide) rfl (Nat.le_of_ble_eq_true rfl) ?_
  intro p e s m below meth c ls hx hb hml hr hts hown hlocks hK hNX hP hD hS hl
  have hl : lv_has ls 2 [(0, .ref (q 0)), (1, .ref (q 5))] := hl
  have hown : s.vm.findClass RX2 = some m.cls := hown
  generalize hH : s.heap = H at hP ⊢
  have hS : va_S (ef_A (cC cI q (A1) (U1) (b1) (e1) (A2) (U2) (b2) (e2) (L) (R))) s.heap H [] := by rw [← hH]; exact hS
  generalize ([] : List Loc) = locs at hS ⊢
  have hbl : bl L ≤ 9632 := bl_le (Nat.lt_of_lt_of_le (wl_lt L) (Nat.pow_le_pow_right (by decide) (by omega)))
  refine lv_aload_n hx hb dX2_keepLeftIn_0 rfl (lv_at hl 0 rfl) ?_
  refine va_get (D := (dC, dI)) (ci := 2) (v := .ref (q 11)) (C := RX2) (T := TX2) (N := 4) hx hb hts (by decide +kernel) hown hK hP 0 rfl rfl 2 (by decide) (hts (.fieldLink RX2 22 "ExactFractions" "left" "LExactFractions$Whole;") (by decide +kernel)) (fun _ h9 => h9) rfl dX2_keepLeftIn_1 ?_
  refine ef_callV (As := []) (rest := []) ⟨hx, hb, hml, hown, hts⟩ (c_length l dC dI ht (isW_c (X := L) (ws := cC cI q (A1) (U1) (b1) (e1) (A2) (U2) (b2) (e2) (L) (R)) (k0 := 11) (k1 := 12) (by decide) rfl rfl) hL) (cwV 0 hts gX2_keepLeftIn_X1_length rfl rfl rfl (by decide +kernel) ⟨Nat.le_of_ble_eq_true rfl, Nat.le_of_ble_eq_true rfl⟩) hK hNX hP hD hS 11 rfl rfl rfl rfl hl.1 rfl (Nat.le_of_ble_eq_true rfl) dX2_keepLeftIn_4 ⟨Nat.zero_le _, Nat.zero_le _⟩ (fun o w1 H locs hq hP hD hS => ?_)
  obtain ⟨rfl, e9⟩ := hq
  rw [e9] at hP hD
  refine W.eq (g2 := F0 m 7 ls [.int (iv ((bl L : Int)))]) rfl ?_
  refine lv_sipush (v := iv (4800)) hx hb dX2_keepLeftIn_7 (by decide) ?_
  refine iw_icmp_le (tgt := 16) hx hb dX2_keepLeftIn_10 (by decide) ⟨by omega, by omega⟩ ⟨by omega, by omega⟩ (fun c1 => ?_) (fun c1 => ?_)
  ·
    exact absurd c1 (by omega)
  ·
    refine lv_bipush (v := iv (-2)) hx hb dX2_keepLeftIn_13 (by decide) ?_
    exact ef_iret hx hb hr hlocks hP hD hS dX2_keepLeftIn_15 (⟨rfl, rfl⟩)

set_option maxRecDepth 100000 in
set_option maxHeartbeats 4000000 in
/-- keepLeftIn -/
theorem c_keep01K (l : Launch) (dC : Nat → ClassId) (dI : Nat → Nat → Nat) {cI : ClassId} {tys : List (ClassId × FieldType)} (ht : tys[0]? = some (cI, .int)) (q : Nat → Nat) {A1 U1 A2 U2 L R : Nat} {b1 e1 b2 e2 : Int} (hA1 : wl A1 ≤ 150) (hU1 : wl U1 ≤ 150) (hA2 : wl A2 ≤ 150) (hU2 : wl U2 ≤ 150) (hL : wl L ≤ 301) (hR : wl R ≤ 301) (hb4 : bl L ≤ 4800) : ef_C l yX2_keepLeftIn wsX2_keepLeftIn ({ frames := 3, cells := 0, slots := 0, locals := 67 } : Room) [.ref (q 0), .ref (q 5)] (dC, dI) vwCl tys (cC cI q (A1) (U1) (b1) (e1) (A2) (U2) (b2) (e2) (L) (R)) (fun o w1 => o = some (.int (iv (bl L : Int))) ∧ w1 = cC cI q (A1) (L) (b1) (e1) (A2) (U2) (b2) (e2) (L) (R)) := by
  refine ef_C.of (cc := cX2_keepLeftIn) (maxL := 2) (ret := (some .int)) (by decide) rfl (Nat.le_of_ble_eq_true rfl) ?_
  intro p e s m below meth c ls hx hb hml hr hts hown hlocks hK hNX hP hD hS hl
  have hl : lv_has ls 2 [(0, .ref (q 0)), (1, .ref (q 5))] := hl
  have hown : s.vm.findClass RX2 = some m.cls := hown
  generalize hH : s.heap = H at hP ⊢
  have hS : va_S (ef_A (cC cI q (A1) (U1) (b1) (e1) (A2) (U2) (b2) (e2) (L) (R))) s.heap H [] := by rw [← hH]; exact hS
  generalize ([] : List Loc) = locs at hS ⊢
  have hbl : bl L ≤ 9632 := bl_le (Nat.lt_of_lt_of_le (wl_lt L) (Nat.pow_le_pow_right (by decide) (by omega)))
  refine lv_aload_n hx hb dX2_keepLeftIn_0 rfl (lv_at hl 0 rfl) ?_
  refine va_get (D := (dC, dI)) (ci := 2) (v := .ref (q 11)) (C := RX2) (T := TX2) (N := 4) hx hb hts (by decide +kernel) hown hK hP 0 rfl rfl 2 (by decide) (hts (.fieldLink RX2 22 "ExactFractions" "left" "LExactFractions$Whole;") (by decide +kernel)) (fun _ h9 => h9) rfl dX2_keepLeftIn_1 ?_
  refine ef_callV (As := []) (rest := []) ⟨hx, hb, hml, hown, hts⟩ (c_length l dC dI ht (isW_c (X := L) (ws := cC cI q (A1) (U1) (b1) (e1) (A2) (U2) (b2) (e2) (L) (R)) (k0 := 11) (k1 := 12) (by decide) rfl rfl) hL) (cwV 0 hts gX2_keepLeftIn_X1_length rfl rfl rfl (by decide +kernel) ⟨Nat.le_of_ble_eq_true rfl, Nat.le_of_ble_eq_true rfl⟩) hK hNX hP hD hS 11 rfl rfl rfl rfl hl.1 rfl (Nat.le_of_ble_eq_true rfl) dX2_keepLeftIn_4 ⟨Nat.zero_le _, Nat.zero_le _⟩ (fun o w1 H locs hq hP hD hS => ?_)
  obtain ⟨rfl, e9⟩ := hq
  rw [e9] at hP hD
  refine W.eq (g2 := F0 m 7 ls [.int (iv ((bl L : Int)))]) rfl ?_
  refine lv_sipush (v := iv (4800)) hx hb dX2_keepLeftIn_7 (by decide) ?_
  refine iw_icmp_le (tgt := 16) hx hb dX2_keepLeftIn_10 (by decide) ⟨by omega, by omega⟩ ⟨by omega, by omega⟩ (fun c1 => ?_) (fun c1 => ?_)
  ·
    refine lv_aload_n hx hb dX2_keepLeftIn_16 rfl (lv_at hl 1 rfl) ?_
    refine lv_aload_n hx hb dX2_keepLeftIn_17 rfl (lv_at hl 0 rfl) ?_
    refine va_get (D := (dC, dI)) (ci := 2) (v := .ref (q 11)) (C := RX2) (T := TX2) (N := 4) hx hb hts (by decide +kernel) hown hK hP 0 rfl rfl 2 (by decide) (hts (.fieldLink RX2 22 "ExactFractions" "left" "LExactFractions$Whole;") (by decide +kernel)) (fun _ h9 => h9) rfl dX2_keepLeftIn_18 ?_
    refine ef_callV (As := [.ref (q 11)]) (rest := []) ⟨hx, hb, hml, hown, hts⟩ (c_copy l dC dI ht (isW_c (X := U1) (ws := cC cI q (A1) (U1) (b1) (e1) (A2) (U2) (b2) (e2) (L) (R)) (k0 := 5) (k1 := 6) (by decide) rfl rfl) (by omega) (wd_lt _) wd_z (isW_c (X := L) (ws := cC cI q (A1) (U1) (b1) (e1) (A2) (U2) (b2) (e2) (L) (R)) (k0 := 11) (k1 := 12) (by decide) rfl rfl) (by omega) (apt_c (k0 := 5) (k1 := 6) (j0 := 11) (j1 := 12) rfl)) (cwV 1 hts gX2_keepLeftIn_X1_copy rfl rfl rfl (by decide +kernel) ⟨Nat.le_of_ble_eq_true rfl, Nat.le_of_ble_eq_true rfl⟩) hK hNX hP hD hS 5 rfl rfl rfl rfl hl.1 rfl (Nat.le_of_ble_eq_true rfl) dX2_keepLeftIn_21 ⟨Nat.zero_le _, Nat.zero_le _⟩ (fun o w1 H locs hq hP hD hS => ?_)
    obtain ⟨rfl, rfl⟩ := hq
    have hP : va_P (dC, dI) vwCl (cC cI q (A1) (L) (b1) (e1) (A2) (U2) (b2) (e2) (L) (R)) H := hP
    have hD : va_D (ef_A (cC cI q (A1) (U1) (b1) (e1) (A2) (U2) (b2) (e2) (L) (R))) (cC cI q (A1) (L) (b1) (e1) (A2) (U2) (b2) (e2) (L) (R)) := hD
    refine W.eq (g2 := F0 m 24 ls []) rfl ?_
    refine lv_aload_n hx hb dX2_keepLeftIn_24 rfl (lv_at hl 1 rfl) ?_
    refine ef_callV (As := []) (rest := []) ⟨hx, hb, hml, hown, hts⟩ (c_length l dC dI ht (isW_c (X := L) (ws := cC cI q (A1) (L) (b1) (e1) (A2) (U2) (b2) (e2) (L) (R)) (k0 := 5) (k1 := 6) (by decide) rfl rfl) (by omega)) (cwV 0 hts gX2_keepLeftIn_X1_length rfl rfl rfl (by decide +kernel) ⟨Nat.le_of_ble_eq_true rfl, Nat.le_of_ble_eq_true rfl⟩) hK hNX hP hD hS 5 rfl rfl rfl rfl hl.1 rfl (Nat.le_of_ble_eq_true rfl) dX2_keepLeftIn_25 ⟨Nat.zero_le _, Nat.zero_le _⟩ (fun o w1 H locs hq hP hD hS => ?_)
    obtain ⟨rfl, e9⟩ := hq
    rw [e9] at hP hD
    refine W.eq (g2 := F0 m 28 ls [.int (iv ((bl L : Int)))]) rfl ?_
    exact ef_iret hx hb hr hlocks hP hD hS dX2_keepLeftIn_28 (⟨rfl, rfl⟩)
  ·
    exact absurd c1 (by omega)

set_option maxRecDepth 100000 in
set_option maxHeartbeats 4000000 in
/-- keepLeftIn -/
theorem c_keep10F (l : Launch) (dC : Nat → ClassId) (dI : Nat → Nat → Nat) {cI : ClassId} {tys : List (ClassId × FieldType)} (ht : tys[0]? = some (cI, .int)) (q : Nat → Nat) {A1 U1 A2 U2 L R : Nat} {b1 e1 b2 e2 : Int} (hA1 : wl A1 ≤ 150) (hU1 : wl U1 ≤ 150) (hA2 : wl A2 ≤ 150) (hU2 : wl U2 ≤ 150) (hL : wl L ≤ 301) (hR : wl R ≤ 301) (hb4 : 4800 < bl L) : ef_C l yX2_keepLeftIn wsX2_keepLeftIn ({ frames := 3, cells := 0, slots := 0, locals := 67 } : Room) [.ref (q 0), .ref (q 7)] (dC, dI) vwCl tys (cC cI q (A1) (U1) (b1) (e1) (A2) (U2) (b2) (e2) (L) (R)) (fun o w1 => o = some (.int (iv (-2))) ∧ w1 = cC cI q (A1) (U1) (b1) (e1) (A2) (U2) (b2) (e2) (L) (R)) := by
  refine ef_C.of (cc := cX2_keepLeftIn) (maxL := 2) (ret := (some .int)) (by decide) rfl (Nat.le_of_ble_eq_true rfl) ?_
  intro p e s m below meth c ls hx hb hml hr hts hown hlocks hK hNX hP hD hS hl
  have hl : lv_has ls 2 [(0, .ref (q 0)), (1, .ref (q 7))] := hl
  have hown : s.vm.findClass RX2 = some m.cls := hown
  generalize hH : s.heap = H at hP ⊢
  have hS : va_S (ef_A (cC cI q (A1) (U1) (b1) (e1) (A2) (U2) (b2) (e2) (L) (R))) s.heap H [] := by rw [← hH]; exact hS
  generalize ([] : List Loc) = locs at hS ⊢
  have hbl : bl L ≤ 9632 := bl_le (Nat.lt_of_lt_of_le (wl_lt L) (Nat.pow_le_pow_right (by decide) (by omega)))
  refine lv_aload_n hx hb dX2_keepLeftIn_0 rfl (lv_at hl 0 rfl) ?_
  refine va_get (D := (dC, dI)) (ci := 2) (v := .ref (q 11)) (C := RX2) (T := TX2) (N := 4) hx hb hts (by decide +kernel) hown hK hP 0 rfl rfl 2 (by decide) (hts (.fieldLink RX2 22 "ExactFractions" "left" "LExactFractions$Whole;") (by decide +kernel)) (fun _ h9 => h9) rfl dX2_keepLeftIn_1 ?_
  refine ef_callV (As := []) (rest := []) ⟨hx, hb, hml, hown, hts⟩ (c_length l dC dI ht (isW_c (X := L) (ws := cC cI q (A1) (U1) (b1) (e1) (A2) (U2) (b2) (e2) (L) (R)) (k0 := 11) (k1 := 12) (by decide) rfl rfl) hL) (cwV 0 hts gX2_keepLeftIn_X1_length rfl rfl rfl (by decide +kernel) ⟨Nat.le_of_ble_eq_true rfl, Nat.le_of_ble_eq_true rfl⟩) hK hNX hP hD hS 11 rfl rfl rfl rfl hl.1 rfl (Nat.le_of_ble_eq_true rfl) dX2_keepLeftIn_4 ⟨Nat.zero_le _, Nat.zero_le _⟩ (fun o w1 H locs hq hP hD hS => ?_)
  obtain ⟨rfl, e9⟩ := hq
  rw [e9] at hP hD
  refine W.eq (g2 := F0 m 7 ls [.int (iv ((bl L : Int)))]) rfl ?_
  refine lv_sipush (v := iv (4800)) hx hb dX2_keepLeftIn_7 (by decide) ?_
  refine iw_icmp_le (tgt := 16) hx hb dX2_keepLeftIn_10 (by decide) ⟨by omega, by omega⟩ ⟨by omega, by omega⟩ (fun c1 => ?_) (fun c1 => ?_)
  ·
    exact absurd c1 (by omega)
  ·
    refine lv_bipush (v := iv (-2)) hx hb dX2_keepLeftIn_13 (by decide) ?_
    exact ef_iret hx hb hr hlocks hP hD hS dX2_keepLeftIn_15 (⟨rfl, rfl⟩)

set_option maxRecDepth 100000 in
set_option maxHeartbeats 4000000 in
/-- keepLeftIn -/
theorem c_keep10K (l : Launch) (dC : Nat → ClassId) (dI : Nat → Nat → Nat) {cI : ClassId} {tys : List (ClassId × FieldType)} (ht : tys[0]? = some (cI, .int)) (q : Nat → Nat) {A1 U1 A2 U2 L R : Nat} {b1 e1 b2 e2 : Int} (hA1 : wl A1 ≤ 150) (hU1 : wl U1 ≤ 150) (hA2 : wl A2 ≤ 150) (hU2 : wl U2 ≤ 150) (hL : wl L ≤ 301) (hR : wl R ≤ 301) (hb4 : bl L ≤ 4800) : ef_C l yX2_keepLeftIn wsX2_keepLeftIn ({ frames := 3, cells := 0, slots := 0, locals := 67 } : Room) [.ref (q 0), .ref (q 7)] (dC, dI) vwCl tys (cC cI q (A1) (U1) (b1) (e1) (A2) (U2) (b2) (e2) (L) (R)) (fun o w1 => o = some (.int (iv (bl L : Int))) ∧ w1 = cC cI q (A1) (U1) (b1) (e1) (L) (U2) (b2) (e2) (L) (R)) := by
  refine ef_C.of (cc := cX2_keepLeftIn) (maxL := 2) (ret := (some .int)) (by decide) rfl (Nat.le_of_ble_eq_true rfl) ?_
  intro p e s m below meth c ls hx hb hml hr hts hown hlocks hK hNX hP hD hS hl
  have hl : lv_has ls 2 [(0, .ref (q 0)), (1, .ref (q 7))] := hl
  have hown : s.vm.findClass RX2 = some m.cls := hown
  generalize hH : s.heap = H at hP ⊢
  have hS : va_S (ef_A (cC cI q (A1) (U1) (b1) (e1) (A2) (U2) (b2) (e2) (L) (R))) s.heap H [] := by rw [← hH]; exact hS
  generalize ([] : List Loc) = locs at hS ⊢
  have hbl : bl L ≤ 9632 := bl_le (Nat.lt_of_lt_of_le (wl_lt L) (Nat.pow_le_pow_right (by decide) (by omega)))
  refine lv_aload_n hx hb dX2_keepLeftIn_0 rfl (lv_at hl 0 rfl) ?_
  refine va_get (D := (dC, dI)) (ci := 2) (v := .ref (q 11)) (C := RX2) (T := TX2) (N := 4) hx hb hts (by decide +kernel) hown hK hP 0 rfl rfl 2 (by decide) (hts (.fieldLink RX2 22 "ExactFractions" "left" "LExactFractions$Whole;") (by decide +kernel)) (fun _ h9 => h9) rfl dX2_keepLeftIn_1 ?_
  refine ef_callV (As := []) (rest := []) ⟨hx, hb, hml, hown, hts⟩ (c_length l dC dI ht (isW_c (X := L) (ws := cC cI q (A1) (U1) (b1) (e1) (A2) (U2) (b2) (e2) (L) (R)) (k0 := 11) (k1 := 12) (by decide) rfl rfl) hL) (cwV 0 hts gX2_keepLeftIn_X1_length rfl rfl rfl (by decide +kernel) ⟨Nat.le_of_ble_eq_true rfl, Nat.le_of_ble_eq_true rfl⟩) hK hNX hP hD hS 11 rfl rfl rfl rfl hl.1 rfl (Nat.le_of_ble_eq_true rfl) dX2_keepLeftIn_4 ⟨Nat.zero_le _, Nat.zero_le _⟩ (fun o w1 H locs hq hP hD hS => ?_)
  obtain ⟨rfl, e9⟩ := hq
  rw [e9] at hP hD
  refine W.eq (g2 := F0 m 7 ls [.int (iv ((bl L : Int)))]) rfl ?_
  refine lv_sipush (v := iv (4800)) hx hb dX2_keepLeftIn_7 (by decide) ?_
  refine iw_icmp_le (tgt := 16) hx hb dX2_keepLeftIn_10 (by decide) ⟨by omega, by omega⟩ ⟨by omega, by omega⟩ (fun c1 => ?_) (fun c1 => ?_)
  ·
    refine lv_aload_n hx hb dX2_keepLeftIn_16 rfl (lv_at hl 1 rfl) ?_
    refine lv_aload_n hx hb dX2_keepLeftIn_17 rfl (lv_at hl 0 rfl) ?_
    refine va_get (D := (dC, dI)) (ci := 2) (v := .ref (q 11)) (C := RX2) (T := TX2) (N := 4) hx hb hts (by decide +kernel) hown hK hP 0 rfl rfl 2 (by decide) (hts (.fieldLink RX2 22 "ExactFractions" "left" "LExactFractions$Whole;") (by decide +kernel)) (fun _ h9 => h9) rfl dX2_keepLeftIn_18 ?_
    refine ef_callV (As := [.ref (q 11)]) (rest := []) ⟨hx, hb, hml, hown, hts⟩ (c_copy l dC dI ht (isW_c (X := A2) (ws := cC cI q (A1) (U1) (b1) (e1) (A2) (U2) (b2) (e2) (L) (R)) (k0 := 7) (k1 := 8) (by decide) rfl rfl) (by omega) (wd_lt _) wd_z (isW_c (X := L) (ws := cC cI q (A1) (U1) (b1) (e1) (A2) (U2) (b2) (e2) (L) (R)) (k0 := 11) (k1 := 12) (by decide) rfl rfl) (by omega) (apt_c (k0 := 7) (k1 := 8) (j0 := 11) (j1 := 12) rfl)) (cwV 1 hts gX2_keepLeftIn_X1_copy rfl rfl rfl (by decide +kernel) ⟨Nat.le_of_ble_eq_true rfl, Nat.le_of_ble_eq_true rfl⟩) hK hNX hP hD hS 7 rfl rfl rfl rfl hl.1 rfl (Nat.le_of_ble_eq_true rfl) dX2_keepLeftIn_21 ⟨Nat.zero_le _, Nat.zero_le _⟩ (fun o w1 H locs hq hP hD hS => ?_)
    obtain ⟨rfl, rfl⟩ := hq
    have hP : va_P (dC, dI) vwCl (cC cI q (A1) (U1) (b1) (e1) (L) (U2) (b2) (e2) (L) (R)) H := hP
    have hD : va_D (ef_A (cC cI q (A1) (U1) (b1) (e1) (A2) (U2) (b2) (e2) (L) (R))) (cC cI q (A1) (U1) (b1) (e1) (L) (U2) (b2) (e2) (L) (R)) := hD
    refine W.eq (g2 := F0 m 24 ls []) rfl ?_
    refine lv_aload_n hx hb dX2_keepLeftIn_24 rfl (lv_at hl 1 rfl) ?_
    refine ef_callV (As := []) (rest := []) ⟨hx, hb, hml, hown, hts⟩ (c_length l dC dI ht (isW_c (X := L) (ws := cC cI q (A1) (U1) (b1) (e1) (L) (U2) (b2) (e2) (L) (R)) (k0 := 7) (k1 := 8) (by decide) rfl rfl) (by omega)) (cwV 0 hts gX2_keepLeftIn_X1_length rfl rfl rfl (by decide +kernel) ⟨Nat.le_of_ble_eq_true rfl, Nat.le_of_ble_eq_true rfl⟩) hK hNX hP hD hS 7 rfl rfl rfl rfl hl.1 rfl (Nat.le_of_ble_eq_true rfl) dX2_keepLeftIn_25 ⟨Nat.zero_le _, Nat.zero_le _⟩ (fun o w1 H locs hq hP hD hS => ?_)
    obtain ⟨rfl, e9⟩ := hq
    rw [e9] at hP hD
    refine W.eq (g2 := F0 m 28 ls [.int (iv ((bl L : Int)))]) rfl ?_
    exact ef_iret hx hb hr hlocks hP hD hS dX2_keepLeftIn_28 (⟨rfl, rfl⟩)
  ·
    exact absurd c1 (by omega)

set_option maxRecDepth 100000 in
set_option maxHeartbeats 4000000 in
/-- keepLeftIn -/
theorem c_keep11F (l : Launch) (dC : Nat → ClassId) (dI : Nat → Nat → Nat) {cI : ClassId} {tys : List (ClassId × FieldType)} (ht : tys[0]? = some (cI, .int)) (q : Nat → Nat) {A1 U1 A2 U2 L R : Nat} {b1 e1 b2 e2 : Int} (hA1 : wl A1 ≤ 150) (hU1 : wl U1 ≤ 150) (hA2 : wl A2 ≤ 150) (hU2 : wl U2 ≤ 150) (hL : wl L ≤ 301) (hR : wl R ≤ 301) (hb4 : 4800 < bl L) : ef_C l yX2_keepLeftIn wsX2_keepLeftIn ({ frames := 3, cells := 0, slots := 0, locals := 67 } : Room) [.ref (q 0), .ref (q 9)] (dC, dI) vwCl tys (cC cI q (A1) (U1) (b1) (e1) (A2) (U2) (b2) (e2) (L) (R)) (fun o w1 => o = some (.int (iv (-2))) ∧ w1 = cC cI q (A1) (U1) (b1) (e1) (A2) (U2) (b2) (e2) (L) (R)) := by
  refine ef_C.of (cc := cX2_keepLeftIn) (maxL := 2) (ret := (some .int)) (by decide) rfl (Nat.le_of_ble_eq_true rfl) ?_
  intro p e s m below meth c ls hx hb hml hr hts hown hlocks hK hNX hP hD hS hl
  have hl : lv_has ls 2 [(0, .ref (q 0)), (1, .ref (q 9))] := hl
  have hown : s.vm.findClass RX2 = some m.cls := hown
  generalize hH : s.heap = H at hP ⊢
  have hS : va_S (ef_A (cC cI q (A1) (U1) (b1) (e1) (A2) (U2) (b2) (e2) (L) (R))) s.heap H [] := by rw [← hH]; exact hS
  generalize ([] : List Loc) = locs at hS ⊢
  have hbl : bl L ≤ 9632 := bl_le (Nat.lt_of_lt_of_le (wl_lt L) (Nat.pow_le_pow_right (by decide) (by omega)))
  refine lv_aload_n hx hb dX2_keepLeftIn_0 rfl (lv_at hl 0 rfl) ?_
  refine va_get (D := (dC, dI)) (ci := 2) (v := .ref (q 11)) (C := RX2) (T := TX2) (N := 4) hx hb hts (by decide +kernel) hown hK hP 0 rfl rfl 2 (by decide) (hts (.fieldLink RX2 22 "ExactFractions" "left" "LExactFractions$Whole;") (by decide +kernel)) (fun _ h9 => h9) rfl dX2_keepLeftIn_1 ?_
  refine ef_callV (As := []) (rest := []) ⟨hx, hb, hml, hown, hts⟩ (c_length l dC dI ht (isW_c (X := L) (ws := cC cI q (A1) (U1) (b1) (e1) (A2) (U2) (b2) (e2) (L) (R)) (k0 := 11) (k1 := 12) (by decide) rfl rfl) hL) (cwV 0 hts gX2_keepLeftIn_X1_length rfl rfl rfl (by decide +kernel) ⟨Nat.le_of_ble_eq_true rfl, Nat.le_of_ble_eq_true rfl⟩) hK hNX hP hD hS 11 rfl rfl rfl rfl hl.1 rfl (Nat.le_of_ble_eq_true rfl) dX2_keepLeftIn_4 ⟨Nat.zero_le _, Nat.zero_le _⟩ (fun o w1 H locs hq hP hD hS => ?_)
  obtain ⟨rfl, e9⟩ := hq
  rw [e9] at hP hD
  refine W.eq (g2 := F0 m 7 ls [.int (iv ((bl L : Int)))]) rfl ?_
  refine lv_sipush (v := iv (4800)) hx hb dX2_keepLeftIn_7 (by decide) ?_
  refine iw_icmp_le (tgt := 16) hx hb dX2_keepLeftIn_10 (by decide) ⟨by omega, by omega⟩ ⟨by omega, by omega⟩ (fun c1 => ?_) (fun c1 => ?_)
  ·
    exact absurd c1 (by omega)
  ·
    refine lv_bipush (v := iv (-2)) hx hb dX2_keepLeftIn_13 (by decide) ?_
    exact ef_iret hx hb hr hlocks hP hD hS dX2_keepLeftIn_15 (⟨rfl, rfl⟩)

set_option maxRecDepth 100000 in
set_option maxHeartbeats 4000000 in
/-- keepLeftIn -/
theorem c_keep11K (l : Launch) (dC : Nat → ClassId) (dI : Nat → Nat → Nat) {cI : ClassId} {tys : List (ClassId × FieldType)} (ht : tys[0]? = some (cI, .int)) (q : Nat → Nat) {A1 U1 A2 U2 L R : Nat} {b1 e1 b2 e2 : Int} (hA1 : wl A1 ≤ 150) (hU1 : wl U1 ≤ 150) (hA2 : wl A2 ≤ 150) (hU2 : wl U2 ≤ 150) (hL : wl L ≤ 301) (hR : wl R ≤ 301) (hb4 : bl L ≤ 4800) : ef_C l yX2_keepLeftIn wsX2_keepLeftIn ({ frames := 3, cells := 0, slots := 0, locals := 67 } : Room) [.ref (q 0), .ref (q 9)] (dC, dI) vwCl tys (cC cI q (A1) (U1) (b1) (e1) (A2) (U2) (b2) (e2) (L) (R)) (fun o w1 => o = some (.int (iv (bl L : Int))) ∧ w1 = cC cI q (A1) (U1) (b1) (e1) (A2) (L) (b2) (e2) (L) (R)) := by
  refine ef_C.of (cc := cX2_keepLeftIn) (maxL := 2) (ret := (some .int)) (by decide) rfl (Nat.le_of_ble_eq_true rfl) ?_
  intro p e s m below meth c ls hx hb hml hr hts hown hlocks hK hNX hP hD hS hl
  have hl : lv_has ls 2 [(0, .ref (q 0)), (1, .ref (q 9))] := hl
  have hown : s.vm.findClass RX2 = some m.cls := hown
  generalize hH : s.heap = H at hP ⊢
  have hS : va_S (ef_A (cC cI q (A1) (U1) (b1) (e1) (A2) (U2) (b2) (e2) (L) (R))) s.heap H [] := by rw [← hH]; exact hS
  generalize ([] : List Loc) = locs at hS ⊢
  have hbl : bl L ≤ 9632 := bl_le (Nat.lt_of_lt_of_le (wl_lt L) (Nat.pow_le_pow_right (by decide) (by omega)))
  refine lv_aload_n hx hb dX2_keepLeftIn_0 rfl (lv_at hl 0 rfl) ?_
  refine va_get (D := (dC, dI)) (ci := 2) (v := .ref (q 11)) (C := RX2) (T := TX2) (N := 4) hx hb hts (by decide +kernel) hown hK hP 0 rfl rfl 2 (by decide) (hts (.fieldLink RX2 22 "ExactFractions" "left" "LExactFractions$Whole;") (by decide +kernel)) (fun _ h9 => h9) rfl dX2_keepLeftIn_1 ?_
  refine ef_callV (As := []) (rest := []) ⟨hx, hb, hml, hown, hts⟩ (c_length l dC dI ht (isW_c (X := L) (ws := cC cI q (A1) (U1) (b1) (e1) (A2) (U2) (b2) (e2) (L) (R)) (k0 := 11) (k1 := 12) (by decide) rfl rfl) hL) (cwV 0 hts gX2_keepLeftIn_X1_length rfl rfl rfl (by decide +kernel) ⟨Nat.le_of_ble_eq_true rfl, Nat.le_of_ble_eq_true rfl⟩) hK hNX hP hD hS 11 rfl rfl rfl rfl hl.1 rfl (Nat.le_of_ble_eq_true rfl) dX2_keepLeftIn_4 ⟨Nat.zero_le _, Nat.zero_le _⟩ (fun o w1 H locs hq hP hD hS => ?_)
  obtain ⟨rfl, e9⟩ := hq
  rw [e9] at hP hD
  refine W.eq (g2 := F0 m 7 ls [.int (iv ((bl L : Int)))]) rfl ?_
  refine lv_sipush (v := iv (4800)) hx hb dX2_keepLeftIn_7 (by decide) ?_
  refine iw_icmp_le (tgt := 16) hx hb dX2_keepLeftIn_10 (by decide) ⟨by omega, by omega⟩ ⟨by omega, by omega⟩ (fun c1 => ?_) (fun c1 => ?_)
  ·
    refine lv_aload_n hx hb dX2_keepLeftIn_16 rfl (lv_at hl 1 rfl) ?_
    refine lv_aload_n hx hb dX2_keepLeftIn_17 rfl (lv_at hl 0 rfl) ?_
    refine va_get (D := (dC, dI)) (ci := 2) (v := .ref (q 11)) (C := RX2) (T := TX2) (N := 4) hx hb hts (by decide +kernel) hown hK hP 0 rfl rfl 2 (by decide) (hts (.fieldLink RX2 22 "ExactFractions" "left" "LExactFractions$Whole;") (by decide +kernel)) (fun _ h9 => h9) rfl dX2_keepLeftIn_18 ?_
    refine ef_callV (As := [.ref (q 11)]) (rest := []) ⟨hx, hb, hml, hown, hts⟩ (c_copy l dC dI ht (isW_c (X := U2) (ws := cC cI q (A1) (U1) (b1) (e1) (A2) (U2) (b2) (e2) (L) (R)) (k0 := 9) (k1 := 10) (by decide) rfl rfl) (by omega) (wd_lt _) wd_z (isW_c (X := L) (ws := cC cI q (A1) (U1) (b1) (e1) (A2) (U2) (b2) (e2) (L) (R)) (k0 := 11) (k1 := 12) (by decide) rfl rfl) (by omega) (apt_c (k0 := 9) (k1 := 10) (j0 := 11) (j1 := 12) rfl)) (cwV 1 hts gX2_keepLeftIn_X1_copy rfl rfl rfl (by decide +kernel) ⟨Nat.le_of_ble_eq_true rfl, Nat.le_of_ble_eq_true rfl⟩) hK hNX hP hD hS 9 rfl rfl rfl rfl hl.1 rfl (Nat.le_of_ble_eq_true rfl) dX2_keepLeftIn_21 ⟨Nat.zero_le _, Nat.zero_le _⟩ (fun o w1 H locs hq hP hD hS => ?_)
    obtain ⟨rfl, rfl⟩ := hq
    have hP : va_P (dC, dI) vwCl (cC cI q (A1) (U1) (b1) (e1) (A2) (L) (b2) (e2) (L) (R)) H := hP
    have hD : va_D (ef_A (cC cI q (A1) (U1) (b1) (e1) (A2) (U2) (b2) (e2) (L) (R))) (cC cI q (A1) (U1) (b1) (e1) (A2) (L) (b2) (e2) (L) (R)) := hD
    refine W.eq (g2 := F0 m 24 ls []) rfl ?_
    refine lv_aload_n hx hb dX2_keepLeftIn_24 rfl (lv_at hl 1 rfl) ?_
    refine ef_callV (As := []) (rest := []) ⟨hx, hb, hml, hown, hts⟩ (c_length l dC dI ht (isW_c (X := L) (ws := cC cI q (A1) (U1) (b1) (e1) (A2) (L) (b2) (e2) (L) (R)) (k0 := 9) (k1 := 10) (by decide) rfl rfl) (by omega)) (cwV 0 hts gX2_keepLeftIn_X1_length rfl rfl rfl (by decide +kernel) ⟨Nat.le_of_ble_eq_true rfl, Nat.le_of_ble_eq_true rfl⟩) hK hNX hP hD hS 9 rfl rfl rfl rfl hl.1 rfl (Nat.le_of_ble_eq_true rfl) dX2_keepLeftIn_25 ⟨Nat.zero_le _, Nat.zero_le _⟩ (fun o w1 H locs hq hP hD hS => ?_)
    obtain ⟨rfl, e9⟩ := hq
    rw [e9] at hP hD
    refine W.eq (g2 := F0 m 28 ls [.int (iv ((bl L : Int)))]) rfl ?_
    exact ef_iret hx hb hr hlocks hP hD hS dX2_keepLeftIn_28 (⟨rfl, rfl⟩)
  ·
    exact absurd c1 (by omega)

set_option maxRecDepth 100000 in
set_option maxHeartbeats 4000000 in
/-- digit -/
theorem c_digit00F (l : Launch) (dC : Nat → ClassId) (dI : Nat → Nat → Nat) {cI : ClassId} {tys : List (ClassId × FieldType)} (ht : tys[0]? = some (cI, .int)) (q : Nat → Nat) {A1 U1 A2 U2 L R : Nat} {b1 e1 b2 e2 : Int} (hA1 : wl A1 ≤ 150) (hU1 : wl U1 ≤ 150) (hA2 : wl A2 ≤ 150) (hU2 : wl U2 ≤ 150) (hL : wl L ≤ 301) (hR : wl R ≤ 301) (mu mo : Nat) (hm1 : 1 ≤ mu) (hmu : mu ≤ 1000000) (hmo : mo ≤ 1000000) (hb4 : 4800 < bl (A1 * mu + mo)) : ef_C l yX2_digit wsX2_digit ({ frames := 4, cells := 0, slots := 0, locals := 88 } : Room) [.ref (q 0), .int (iv (0)), .int (iv (0)), .int (iv ((mu : Int))), .int (iv ((mo : Int)))] (dC, dI) vwCl tys (cC cI q (A1) (U1) (b1) (e1) (A2) (U2) (b2) (e2) (L) (R)) (fun o w1 => ∃ L2 R2 : Nat, o = some (.int (iv (-2))) ∧ w1 = cC cI q (A1) (U1) (b1) (e1) (A2) (U2) (b2) (e2) (L2) (R2) ∧ wl L2 ≤ 301 ∧ wl R2 ≤ 301) := by
  refine ef_C.of (cc := cX2_digit) (maxL := 6) (ret := (some .int)) (by decide) rfl (Nat.le_of_ble_eq_true rfl) ?_
  intro p e s m below meth c ls hx hb hml hr hts hown hlocks hK hNX hP hD hS hl
  have hl : lv_has ls 6 [(0, .ref (q 0)), (1, .int (iv (0))), (2, .int (iv (0))), (3, .int (iv ((mu : Int)))), (4, .int (iv ((mo : Int))))] := hl
  have hown : s.vm.findClass RX2 = some m.cls := hown
  generalize hH : s.heap = H at hP ⊢
  have hS : va_S (ef_A (cC cI q (A1) (U1) (b1) (e1) (A2) (U2) (b2) (e2) (L) (R))) s.heap H [] := by rw [← hH]; exact hS
  generalize ([] : List Loc) = locs at hS ⊢
  have hL2 := wl_mul hA1 hmu hmo
  refine lv_aload_n hx hb dX2_digit_0 rfl (lv_at hl 0 rfl) ?_
  refine lv_iload_n hx hb dX2_digit_1 rfl (lv_at hl 1 rfl) ?_
  refine lv_iload_n hx hb dX2_digit_2 rfl (lv_at hl 2 rfl) ?_
  refine ef_callV (As := [.int (iv (0)), .int (iv (0))]) (rest := []) ⟨hx, hb, hml, hown, hts⟩ (c_partOf00 l dC dI ht q) (cwV 2 hts gX2_digit_X2_partOf rfl rfl rfl (by decide +kernel) ⟨Nat.le_of_ble_eq_true rfl, Nat.le_of_ble_eq_true rfl⟩) hK hNX hP hD hS 0 rfl rfl rfl rfl hl.1 rfl (Nat.le_of_ble_eq_true rfl) dX2_digit_3 ⟨Nat.zero_le _, Nat.zero_le _⟩ (fun o w1 H locs hq hP hD hS => ?_)
  obtain ⟨rfl, e9⟩ := hq
  rw [e9] at hP hD
  refine W.eq (g2 := F0 m 6 ls [.ref (q 3)]) rfl ?_
  refine lv_astore (lv' := [(5, .ref (q 3)), (0, .ref (q 0)), (1, .int (iv (0))), (2, .int (iv (0))), (3, .int (iv ((mu : Int)))), (4, .int (iv ((mo : Int))))]) hx hb dX2_digit_6 hl (by decide) rfl (fun ls hl => ?_)
  refine lv_aload hx hb dX2_digit_8 (lv_at hl 0 rfl) ?_
  refine lv_ifnull hx hb dX2_digit_10 ?_
  refine lv_iload_n hx hb dX2_digit_13 rfl (lv_at hl 4 rfl) ?_
  refine lv_iconst (v := iv (1)) hx hb dX2_digit_14 (by decide) ?_
  refine iw_icmp_lt (tgt := 36) hx hb dX2_digit_15 (by decide) ⟨by omega, by omega⟩ ⟨by omega, by omega⟩ (fun c0 => ?_) (fun c0 => ?_)
  ·
    exact absurd c0 (by omega)
  ·
    refine lv_iload_n hx hb dX2_digit_18 rfl (lv_at hl 4 rfl) ?_
    refine lv_ldc (v := iv (1000000)) hx hb hown (hts (.constant RX2 40 (iv (1000000))) (by decide +kernel)) dX2_digit_19 ?_
    refine iw_icmp_gt (tgt := 36) hx hb dX2_digit_21 (by decide) ⟨by omega, by omega⟩ ⟨by omega, by omega⟩ (fun c1 => ?_) (fun c1 => ?_)
    ·
      exact absurd c1 (by omega)
    ·
      refine lv_iload hx hb dX2_digit_24 (lv_at hl 5 rfl) ?_
      refine iw_if_lt (tgt := 36) hx hb dX2_digit_26 (by decide) ⟨by omega, by omega⟩ (fun c2 => ?_) (fun c2 => ?_)
      ·
        exact absurd c2 (by omega)
      ·
        refine lv_iload hx hb dX2_digit_29 (lv_at hl 5 rfl) ?_
        refine lv_ldc (v := iv (1000000)) hx hb hown (hts (.constant RX2 40 (iv (1000000))) (by decide +kernel)) dX2_digit_31 ?_
        refine iw_icmp_le (tgt := 38) hx hb dX2_digit_33 (by decide) ⟨by omega, by omega⟩ ⟨by omega, by omega⟩ (fun c3 => ?_) (fun c3 => ?_)
        ·
          refine lv_aload_n hx hb dX2_digit_38 rfl (lv_at hl 1 rfl) ?_
          refine va_get (D := (dC, dI)) (ci := 2) (v := .ref (q 11)) (C := RX2) (T := TX2) (N := 4) hx hb hts (by decide +kernel) hown hK hP 0 rfl rfl 2 (by decide) (hts (.fieldLink RX2 22 "ExactFractions" "left" "LExactFractions$Whole;") (by decide +kernel)) (fun _ h9 => h9) rfl dX2_digit_39 ?_
          refine lv_aload hx hb dX2_digit_42 (lv_at hl 0 rfl) ?_
          refine lv_iload_n hx hb dX2_digit_44 rfl (lv_at hl 4 rfl) ?_
          refine lv_iload hx hb dX2_digit_45 (lv_at hl 5 rfl) ?_
          refine ef_callV (As := [.ref (q 3), .int (iv ((mu : Int))), .int (iv ((mo : Int)))]) (rest := []) ⟨hx, hb, hml, hown, hts⟩ (c_multiple l dC dI ht (isW_c (X := L) (ws := cC cI q (A1) (U1) (b1) (e1) (A2) (U2) (b2) (e2) (L) (R)) (k0 := 11) (k1 := 12) (by decide) rfl rfl) hL (wd_lt _) wd_z (isW_c (X := A1) (ws := cC cI q (A1) (U1) (b1) (e1) (A2) (U2) (b2) (e2) (L) (R)) (k0 := 3) (k1 := 4) (by decide) rfl rfl) (by omega) (apt_c (k0 := 11) (k1 := 12) (j0 := 3) (j1 := 4) rfl) mu mo hmu hmo) (cwV 3 hts gX2_digit_X1_becomeMultiple rfl rfl rfl (by decide +kernel) ⟨Nat.le_of_ble_eq_true rfl, Nat.le_of_ble_eq_true rfl⟩) hK hNX hP hD hS 11 rfl rfl rfl rfl hl.1 rfl (Nat.le_of_ble_eq_true rfl) dX2_digit_47 ⟨Nat.zero_le _, Nat.zero_le _⟩ (fun o w1 H locs hq hP hD hS => ?_)
          obtain ⟨rfl, rfl⟩ := hq
          have hP : va_P (dC, dI) vwCl (cC cI q (A1) (U1) (b1) (e1) (A2) (U2) (b2) (e2) (A1 * mu + mo) (R)) H := hP
          have hD : va_D (ef_A (cC cI q (A1) (U1) (b1) (e1) (A2) (U2) (b2) (e2) (L) (R))) (cC cI q (A1) (U1) (b1) (e1) (A2) (U2) (b2) (e2) (A1 * mu + mo) (R)) := hD
          refine W.eq (g2 := F0 m 50 ls []) rfl ?_
          refine lv_aload_n hx hb dX2_digit_50 rfl (lv_at hl 1 rfl) ?_
          refine lv_aload hx hb dX2_digit_51 (lv_at hl 0 rfl) ?_
          refine ef_callV (As := [.ref (q 3)]) (rest := []) ⟨hx, hb, hml, hown, hts⟩ (c_keep00F l dC dI ht q hA1 hU1 hA2 hU2 (by omega) hR hb4) (cwV 1 hts gX2_digit_X2_keepLeftIn rfl rfl rfl (by decide +kernel) ⟨Nat.le_of_ble_eq_true rfl, Nat.le_of_ble_eq_true rfl⟩) hK hNX hP hD hS 0 rfl rfl rfl rfl hl.1 rfl (Nat.le_of_ble_eq_true rfl) dX2_digit_53 ⟨Nat.zero_le _, Nat.zero_le _⟩ (fun o w1 H locs hq hP hD hS => ?_)
          obtain ⟨rfl, rfl⟩ := hq
          have hP : va_P (dC, dI) vwCl (cC cI q (A1) (U1) (b1) (e1) (A2) (U2) (b2) (e2) (A1 * mu + mo) (R)) H := hP
          have hD : va_D (ef_A (cC cI q (A1) (U1) (b1) (e1) (A2) (U2) (b2) (e2) (L) (R))) (cC cI q (A1) (U1) (b1) (e1) (A2) (U2) (b2) (e2) (A1 * mu + mo) (R)) := hD
          refine W.eq (g2 := F0 m 56 ls [.int (iv (-2))]) rfl ?_
          exact ef_iret hx hb hr hlocks hP hD hS dX2_digit_56 (⟨_, _, rfl, rfl, by omega, hR⟩)
        ·
          exact absurd c3 (by omega)

set_option maxRecDepth 100000 in
set_option maxHeartbeats 4000000 in
/-- digit -/
theorem c_digit00K (l : Launch) (dC : Nat → ClassId) (dI : Nat → Nat → Nat) {cI : ClassId} {tys : List (ClassId × FieldType)} (ht : tys[0]? = some (cI, .int)) (q : Nat → Nat) {A1 U1 A2 U2 L R : Nat} {b1 e1 b2 e2 : Int} (hA1 : wl A1 ≤ 150) (hU1 : wl U1 ≤ 150) (hA2 : wl A2 ≤ 150) (hU2 : wl U2 ≤ 150) (hL : wl L ≤ 301) (hR : wl R ≤ 301) (mu mo : Nat) (hm1 : 1 ≤ mu) (hmu : mu ≤ 1000000) (hmo : mo ≤ 1000000) (hb4 : bl (A1 * mu + mo) ≤ 4800) : ef_C l yX2_digit wsX2_digit ({ frames := 4, cells := 0, slots := 0, locals := 88 } : Room) [.ref (q 0), .int (iv (0)), .int (iv (0)), .int (iv ((mu : Int))), .int (iv ((mo : Int)))] (dC, dI) vwCl tys (cC cI q (A1) (U1) (b1) (e1) (A2) (U2) (b2) (e2) (L) (R)) (fun o w1 => ∃ L2 R2 : Nat, o = some (.int (iv (bl (A1 * mu + mo) : Int))) ∧ w1 = cC cI q (A1 * mu + mo) (U1) (b1) (e1) (A2) (U2) (b2) (e2) (L2) (R2) ∧ wl L2 ≤ 301 ∧ wl R2 ≤ 301) := by
  refine ef_C.of (cc := cX2_digit) (maxL := 6) (ret := (some .int)) (by decide) rfl (Nat.le_of_ble_eq_true rfl) ?_
  intro p e s m below meth c ls hx hb hml hr hts hown hlocks hK hNX hP hD hS hl
  have hl : lv_has ls 6 [(0, .ref (q 0)), (1, .int (iv (0))), (2, .int (iv (0))), (3, .int (iv ((mu : Int)))), (4, .int (iv ((mo : Int))))] := hl
  have hown : s.vm.findClass RX2 = some m.cls := hown
  generalize hH : s.heap = H at hP ⊢
  have hS : va_S (ef_A (cC cI q (A1) (U1) (b1) (e1) (A2) (U2) (b2) (e2) (L) (R))) s.heap H [] := by rw [← hH]; exact hS
  generalize ([] : List Loc) = locs at hS ⊢
  have hL2 := wl_mul hA1 hmu hmo
  refine lv_aload_n hx hb dX2_digit_0 rfl (lv_at hl 0 rfl) ?_
  refine lv_iload_n hx hb dX2_digit_1 rfl (lv_at hl 1 rfl) ?_
  refine lv_iload_n hx hb dX2_digit_2 rfl (lv_at hl 2 rfl) ?_
  refine ef_callV (As := [.int (iv (0)), .int (iv (0))]) (rest := []) ⟨hx, hb, hml, hown, hts⟩ (c_partOf00 l dC dI ht q) (cwV 2 hts gX2_digit_X2_partOf rfl rfl rfl (by decide +kernel) ⟨Nat.le_of_ble_eq_true rfl, Nat.le_of_ble_eq_true rfl⟩) hK hNX hP hD hS 0 rfl rfl rfl rfl hl.1 rfl (Nat.le_of_ble_eq_true rfl) dX2_digit_3 ⟨Nat.zero_le _, Nat.zero_le _⟩ (fun o w1 H locs hq hP hD hS => ?_)
  obtain ⟨rfl, e9⟩ := hq
  rw [e9] at hP hD
  refine W.eq (g2 := F0 m 6 ls [.ref (q 3)]) rfl ?_
  refine lv_astore (lv' := [(5, .ref (q 3)), (0, .ref (q 0)), (1, .int (iv (0))), (2, .int (iv (0))), (3, .int (iv ((mu : Int)))), (4, .int (iv ((mo : Int))))]) hx hb dX2_digit_6 hl (by decide) rfl (fun ls hl => ?_)
  refine lv_aload hx hb dX2_digit_8 (lv_at hl 0 rfl) ?_
  refine lv_ifnull hx hb dX2_digit_10 ?_
  refine lv_iload_n hx hb dX2_digit_13 rfl (lv_at hl 4 rfl) ?_
  refine lv_iconst (v := iv (1)) hx hb dX2_digit_14 (by decide) ?_
  refine iw_icmp_lt (tgt := 36) hx hb dX2_digit_15 (by decide) ⟨by omega, by omega⟩ ⟨by omega, by omega⟩ (fun c0 => ?_) (fun c0 => ?_)
  ·
    exact absurd c0 (by omega)
  ·
    refine lv_iload_n hx hb dX2_digit_18 rfl (lv_at hl 4 rfl) ?_
    refine lv_ldc (v := iv (1000000)) hx hb hown (hts (.constant RX2 40 (iv (1000000))) (by decide +kernel)) dX2_digit_19 ?_
    refine iw_icmp_gt (tgt := 36) hx hb dX2_digit_21 (by decide) ⟨by omega, by omega⟩ ⟨by omega, by omega⟩ (fun c1 => ?_) (fun c1 => ?_)
    ·
      exact absurd c1 (by omega)
    ·
      refine lv_iload hx hb dX2_digit_24 (lv_at hl 5 rfl) ?_
      refine iw_if_lt (tgt := 36) hx hb dX2_digit_26 (by decide) ⟨by omega, by omega⟩ (fun c2 => ?_) (fun c2 => ?_)
      ·
        exact absurd c2 (by omega)
      ·
        refine lv_iload hx hb dX2_digit_29 (lv_at hl 5 rfl) ?_
        refine lv_ldc (v := iv (1000000)) hx hb hown (hts (.constant RX2 40 (iv (1000000))) (by decide +kernel)) dX2_digit_31 ?_
        refine iw_icmp_le (tgt := 38) hx hb dX2_digit_33 (by decide) ⟨by omega, by omega⟩ ⟨by omega, by omega⟩ (fun c3 => ?_) (fun c3 => ?_)
        ·
          refine lv_aload_n hx hb dX2_digit_38 rfl (lv_at hl 1 rfl) ?_
          refine va_get (D := (dC, dI)) (ci := 2) (v := .ref (q 11)) (C := RX2) (T := TX2) (N := 4) hx hb hts (by decide +kernel) hown hK hP 0 rfl rfl 2 (by decide) (hts (.fieldLink RX2 22 "ExactFractions" "left" "LExactFractions$Whole;") (by decide +kernel)) (fun _ h9 => h9) rfl dX2_digit_39 ?_
          refine lv_aload hx hb dX2_digit_42 (lv_at hl 0 rfl) ?_
          refine lv_iload_n hx hb dX2_digit_44 rfl (lv_at hl 4 rfl) ?_
          refine lv_iload hx hb dX2_digit_45 (lv_at hl 5 rfl) ?_
          refine ef_callV (As := [.ref (q 3), .int (iv ((mu : Int))), .int (iv ((mo : Int)))]) (rest := []) ⟨hx, hb, hml, hown, hts⟩ (c_multiple l dC dI ht (isW_c (X := L) (ws := cC cI q (A1) (U1) (b1) (e1) (A2) (U2) (b2) (e2) (L) (R)) (k0 := 11) (k1 := 12) (by decide) rfl rfl) hL (wd_lt _) wd_z (isW_c (X := A1) (ws := cC cI q (A1) (U1) (b1) (e1) (A2) (U2) (b2) (e2) (L) (R)) (k0 := 3) (k1 := 4) (by decide) rfl rfl) (by omega) (apt_c (k0 := 11) (k1 := 12) (j0 := 3) (j1 := 4) rfl) mu mo hmu hmo) (cwV 3 hts gX2_digit_X1_becomeMultiple rfl rfl rfl (by decide +kernel) ⟨Nat.le_of_ble_eq_true rfl, Nat.le_of_ble_eq_true rfl⟩) hK hNX hP hD hS 11 rfl rfl rfl rfl hl.1 rfl (Nat.le_of_ble_eq_true rfl) dX2_digit_47 ⟨Nat.zero_le _, Nat.zero_le _⟩ (fun o w1 H locs hq hP hD hS => ?_)
          obtain ⟨rfl, rfl⟩ := hq
          have hP : va_P (dC, dI) vwCl (cC cI q (A1) (U1) (b1) (e1) (A2) (U2) (b2) (e2) (A1 * mu + mo) (R)) H := hP
          have hD : va_D (ef_A (cC cI q (A1) (U1) (b1) (e1) (A2) (U2) (b2) (e2) (L) (R))) (cC cI q (A1) (U1) (b1) (e1) (A2) (U2) (b2) (e2) (A1 * mu + mo) (R)) := hD
          refine W.eq (g2 := F0 m 50 ls []) rfl ?_
          refine lv_aload_n hx hb dX2_digit_50 rfl (lv_at hl 1 rfl) ?_
          refine lv_aload hx hb dX2_digit_51 (lv_at hl 0 rfl) ?_
          refine ef_callV (As := [.ref (q 3)]) (rest := []) ⟨hx, hb, hml, hown, hts⟩ (c_keep00K l dC dI ht q hA1 hU1 hA2 hU2 (by omega) hR hb4) (cwV 1 hts gX2_digit_X2_keepLeftIn rfl rfl rfl (by decide +kernel) ⟨Nat.le_of_ble_eq_true rfl, Nat.le_of_ble_eq_true rfl⟩) hK hNX hP hD hS 0 rfl rfl rfl rfl hl.1 rfl (Nat.le_of_ble_eq_true rfl) dX2_digit_53 ⟨Nat.zero_le _, Nat.zero_le _⟩ (fun o w1 H locs hq hP hD hS => ?_)
          obtain ⟨rfl, rfl⟩ := hq
          have hP : va_P (dC, dI) vwCl (cC cI q (A1 * mu + mo) (U1) (b1) (e1) (A2) (U2) (b2) (e2) (A1 * mu + mo) (R)) H := hP
          have hD : va_D (ef_A (cC cI q (A1) (U1) (b1) (e1) (A2) (U2) (b2) (e2) (L) (R))) (cC cI q (A1 * mu + mo) (U1) (b1) (e1) (A2) (U2) (b2) (e2) (A1 * mu + mo) (R)) := hD
          refine W.eq (g2 := F0 m 56 ls [.int (iv ((bl (A1 * mu + mo) : Int)))]) rfl ?_
          exact ef_iret hx hb hr hlocks hP hD hS dX2_digit_56 (⟨_, _, rfl, rfl, by omega, hR⟩)
        ·
          exact absurd c3 (by omega)

set_option maxRecDepth 100000 in
set_option maxHeartbeats 4000000 in
/-- digit -/
theorem c_digit01F (l : Launch) (dC : Nat → ClassId) (dI : Nat → Nat → Nat) {cI : ClassId} {tys : List (ClassId × FieldType)} (ht : tys[0]? = some (cI, .int)) (q : Nat → Nat) {A1 U1 A2 U2 L R : Nat} {b1 e1 b2 e2 : Int} (hA1 : wl A1 ≤ 150) (hU1 : wl U1 ≤ 150) (hA2 : wl A2 ≤ 150) (hU2 : wl U2 ≤ 150) (hL : wl L ≤ 301) (hR : wl R ≤ 301) (mu mo : Nat) (hm1 : 1 ≤ mu) (hmu : mu ≤ 1000000) (hmo : mo ≤ 1000000) (hb4 : 4800 < bl (U1 * mu + mo)) : ef_C l yX2_digit wsX2_digit ({ frames := 4, cells := 0, slots := 0, locals := 88 } : Room) [.ref (q 0), .int (iv (0)), .int (iv (1)), .int (iv ((mu : Int))), .int (iv ((mo : Int)))] (dC, dI) vwCl tys (cC cI q (A1) (U1) (b1) (e1) (A2) (U2) (b2) (e2) (L) (R)) (fun o w1 => ∃ L2 R2 : Nat, o = some (.int (iv (-2))) ∧ w1 = cC cI q (A1) (U1) (b1) (e1) (A2) (U2) (b2) (e2) (L2) (R2) ∧ wl L2 ≤ 301 ∧ wl R2 ≤ 301) := by
  refine ef_C.of (cc := cX2_digit) (maxL := 6) (ret := (some .int)) (by decide) rfl (Nat.le_of_ble_eq_true rfl) ?_
  intro p e s m below meth c ls hx hb hml hr hts hown hlocks hK hNX hP hD hS hl
  have hl : lv_has ls 6 [(0, .ref (q 0)), (1, .int (iv (0))), (2, .int (iv (1))), (3, .int (iv ((mu : Int)))), (4, .int (iv ((mo : Int))))] := hl
  have hown : s.vm.findClass RX2 = some m.cls := hown
  generalize hH : s.heap = H at hP ⊢
  have hS : va_S (ef_A (cC cI q (A1) (U1) (b1) (e1) (A2) (U2) (b2) (e2) (L) (R))) s.heap H [] := by rw [← hH]; exact hS
  generalize ([] : List Loc) = locs at hS ⊢
  have hL2 := wl_mul hU1 hmu hmo
  refine lv_aload_n hx hb dX2_digit_0 rfl (lv_at hl 0 rfl) ?_
  refine lv_iload_n hx hb dX2_digit_1 rfl (lv_at hl 1 rfl) ?_
  refine lv_iload_n hx hb dX2_digit_2 rfl (lv_at hl 2 rfl) ?_
  refine ef_callV (As := [.int (iv (0)), .int (iv (1))]) (rest := []) ⟨hx, hb, hml, hown, hts⟩ (c_partOf01 l dC dI ht q) (cwV 2 hts gX2_digit_X2_partOf rfl rfl rfl (by decide +kernel) ⟨Nat.le_of_ble_eq_true rfl, Nat.le_of_ble_eq_true rfl⟩) hK hNX hP hD hS 0 rfl rfl rfl rfl hl.1 rfl (Nat.le_of_ble_eq_true rfl) dX2_digit_3 ⟨Nat.zero_le _, Nat.zero_le _⟩ (fun o w1 H locs hq hP hD hS => ?_)
  obtain ⟨rfl, e9⟩ := hq
  rw [e9] at hP hD
  refine W.eq (g2 := F0 m 6 ls [.ref (q 5)]) rfl ?_
  refine lv_astore (lv' := [(5, .ref (q 5)), (0, .ref (q 0)), (1, .int (iv (0))), (2, .int (iv (1))), (3, .int (iv ((mu : Int)))), (4, .int (iv ((mo : Int))))]) hx hb dX2_digit_6 hl (by decide) rfl (fun ls hl => ?_)
  refine lv_aload hx hb dX2_digit_8 (lv_at hl 0 rfl) ?_
  refine lv_ifnull hx hb dX2_digit_10 ?_
  refine lv_iload_n hx hb dX2_digit_13 rfl (lv_at hl 4 rfl) ?_
  refine lv_iconst (v := iv (1)) hx hb dX2_digit_14 (by decide) ?_
  refine iw_icmp_lt (tgt := 36) hx hb dX2_digit_15 (by decide) ⟨by omega, by omega⟩ ⟨by omega, by omega⟩ (fun c0 => ?_) (fun c0 => ?_)
  ·
    exact absurd c0 (by omega)
  ·
    refine lv_iload_n hx hb dX2_digit_18 rfl (lv_at hl 4 rfl) ?_
    refine lv_ldc (v := iv (1000000)) hx hb hown (hts (.constant RX2 40 (iv (1000000))) (by decide +kernel)) dX2_digit_19 ?_
    refine iw_icmp_gt (tgt := 36) hx hb dX2_digit_21 (by decide) ⟨by omega, by omega⟩ ⟨by omega, by omega⟩ (fun c1 => ?_) (fun c1 => ?_)
    ·
      exact absurd c1 (by omega)
    ·
      refine lv_iload hx hb dX2_digit_24 (lv_at hl 5 rfl) ?_
      refine iw_if_lt (tgt := 36) hx hb dX2_digit_26 (by decide) ⟨by omega, by omega⟩ (fun c2 => ?_) (fun c2 => ?_)
      ·
        exact absurd c2 (by omega)
      ·
        refine lv_iload hx hb dX2_digit_29 (lv_at hl 5 rfl) ?_
        refine lv_ldc (v := iv (1000000)) hx hb hown (hts (.constant RX2 40 (iv (1000000))) (by decide +kernel)) dX2_digit_31 ?_
        refine iw_icmp_le (tgt := 38) hx hb dX2_digit_33 (by decide) ⟨by omega, by omega⟩ ⟨by omega, by omega⟩ (fun c3 => ?_) (fun c3 => ?_)
        ·
          refine lv_aload_n hx hb dX2_digit_38 rfl (lv_at hl 1 rfl) ?_
          refine va_get (D := (dC, dI)) (ci := 2) (v := .ref (q 11)) (C := RX2) (T := TX2) (N := 4) hx hb hts (by decide +kernel) hown hK hP 0 rfl rfl 2 (by decide) (hts (.fieldLink RX2 22 "ExactFractions" "left" "LExactFractions$Whole;") (by decide +kernel)) (fun _ h9 => h9) rfl dX2_digit_39 ?_
          refine lv_aload hx hb dX2_digit_42 (lv_at hl 0 rfl) ?_
          refine lv_iload_n hx hb dX2_digit_44 rfl (lv_at hl 4 rfl) ?_
          refine lv_iload hx hb dX2_digit_45 (lv_at hl 5 rfl) ?_
          refine ef_callV (As := [.ref (q 5), .int (iv ((mu : Int))), .int (iv ((mo : Int)))]) (rest := []) ⟨hx, hb, hml, hown, hts⟩ (c_multiple l dC dI ht (isW_c (X := L) (ws := cC cI q (A1) (U1) (b1) (e1) (A2) (U2) (b2) (e2) (L) (R)) (k0 := 11) (k1 := 12) (by decide) rfl rfl) hL (wd_lt _) wd_z (isW_c (X := U1) (ws := cC cI q (A1) (U1) (b1) (e1) (A2) (U2) (b2) (e2) (L) (R)) (k0 := 5) (k1 := 6) (by decide) rfl rfl) (by omega) (apt_c (k0 := 11) (k1 := 12) (j0 := 5) (j1 := 6) rfl) mu mo hmu hmo) (cwV 3 hts gX2_digit_X1_becomeMultiple rfl rfl rfl (by decide +kernel) ⟨Nat.le_of_ble_eq_true rfl, Nat.le_of_ble_eq_true rfl⟩) hK hNX hP hD hS 11 rfl rfl rfl rfl hl.1 rfl (Nat.le_of_ble_eq_true rfl) dX2_digit_47 ⟨Nat.zero_le _, Nat.zero_le _⟩ (fun o w1 H locs hq hP hD hS => ?_)
          obtain ⟨rfl, rfl⟩ := hq
          have hP : va_P (dC, dI) vwCl (cC cI q (A1) (U1) (b1) (e1) (A2) (U2) (b2) (e2) (U1 * mu + mo) (R)) H := hP
          have hD : va_D (ef_A (cC cI q (A1) (U1) (b1) (e1) (A2) (U2) (b2) (e2) (L) (R))) (cC cI q (A1) (U1) (b1) (e1) (A2) (U2) (b2) (e2) (U1 * mu + mo) (R)) := hD
          refine W.eq (g2 := F0 m 50 ls []) rfl ?_
          refine lv_aload_n hx hb dX2_digit_50 rfl (lv_at hl 1 rfl) ?_
          refine lv_aload hx hb dX2_digit_51 (lv_at hl 0 rfl) ?_
          refine ef_callV (As := [.ref (q 5)]) (rest := []) ⟨hx, hb, hml, hown, hts⟩ (c_keep01F l dC dI ht q hA1 hU1 hA2 hU2 (by omega) hR hb4) (cwV 1 hts gX2_digit_X2_keepLeftIn rfl rfl rfl (by decide +kernel) ⟨Nat.le_of_ble_eq_true rfl, Nat.le_of_ble_eq_true rfl⟩) hK hNX hP hD hS 0 rfl rfl rfl rfl hl.1 rfl (Nat.le_of_ble_eq_true rfl) dX2_digit_53 ⟨Nat.zero_le _, Nat.zero_le _⟩ (fun o w1 H locs hq hP hD hS => ?_)
          obtain ⟨rfl, rfl⟩ := hq
          have hP : va_P (dC, dI) vwCl (cC cI q (A1) (U1) (b1) (e1) (A2) (U2) (b2) (e2) (U1 * mu + mo) (R)) H := hP
          have hD : va_D (ef_A (cC cI q (A1) (U1) (b1) (e1) (A2) (U2) (b2) (e2) (L) (R))) (cC cI q (A1) (U1) (b1) (e1) (A2) (U2) (b2) (e2) (U1 * mu + mo) (R)) := hD
          refine W.eq (g2 := F0 m 56 ls [.int (iv (-2))]) rfl ?_
          exact ef_iret hx hb hr hlocks hP hD hS dX2_digit_56 (⟨_, _, rfl, rfl, by omega, hR⟩)
        ·
          exact absurd c3 (by omega)

set_option maxRecDepth 100000 in
set_option maxHeartbeats 4000000 in
/-- digit -/
theorem c_digit01K (l : Launch) (dC : Nat → ClassId) (dI : Nat → Nat → Nat) {cI : ClassId} {tys : List (ClassId × FieldType)} (ht : tys[0]? = some (cI, .int)) (q : Nat → Nat) {A1 U1 A2 U2 L R : Nat} {b1 e1 b2 e2 : Int} (hA1 : wl A1 ≤ 150) (hU1 : wl U1 ≤ 150) (hA2 : wl A2 ≤ 150) (hU2 : wl U2 ≤ 150) (hL : wl L ≤ 301) (hR : wl R ≤ 301) (mu mo : Nat) (hm1 : 1 ≤ mu) (hmu : mu ≤ 1000000) (hmo : mo ≤ 1000000) (hb4 : bl (U1 * mu + mo) ≤ 4800) : ef_C l yX2_digit wsX2_digit ({ frames := 4, cells := 0, slots := 0, locals := 88 } : Room) [.ref (q 0), .int (iv (0)), .int (iv (1)), .int (iv ((mu : Int))), .int (iv ((mo : Int)))] (dC, dI) vwCl tys (cC cI q (A1) (U1) (b1) (e1) (A2) (U2) (b2) (e2) (L) (R)) (fun o w1 => ∃ L2 R2 : Nat, o = some (.int (iv (bl (U1 * mu + mo) : Int))) ∧ w1 = cC cI q (A1) (U1 * mu + mo) (b1) (e1) (A2) (U2) (b2) (e2) (L2) (R2) ∧ wl L2 ≤ 301 ∧ wl R2 ≤ 301) := by
  refine ef_C.of (cc := cX2_digit) (maxL := 6) (ret := (some .int)) (by decide) rfl (Nat.le_of_ble_eq_true rfl) ?_
  intro p e s m below meth c ls hx hb hml hr hts hown hlocks hK hNX hP hD hS hl
  have hl : lv_has ls 6 [(0, .ref (q 0)), (1, .int (iv (0))), (2, .int (iv (1))), (3, .int (iv ((mu : Int)))), (4, .int (iv ((mo : Int))))] := hl
  have hown : s.vm.findClass RX2 = some m.cls := hown
  generalize hH : s.heap = H at hP ⊢
  have hS : va_S (ef_A (cC cI q (A1) (U1) (b1) (e1) (A2) (U2) (b2) (e2) (L) (R))) s.heap H [] := by rw [← hH]; exact hS
  generalize ([] : List Loc) = locs at hS ⊢
  have hL2 := wl_mul hU1 hmu hmo
  refine lv_aload_n hx hb dX2_digit_0 rfl (lv_at hl 0 rfl) ?_
  refine lv_iload_n hx hb dX2_digit_1 rfl (lv_at hl 1 rfl) ?_
  refine lv_iload_n hx hb dX2_digit_2 rfl (lv_at hl 2 rfl) ?_
  refine ef_callV (As := [.int (iv (0)), .int (iv (1))]) (rest := []) ⟨hx, hb, hml, hown, hts⟩ (c_partOf01 l dC dI ht q) (cwV 2 hts gX2_digit_X2_partOf rfl rfl rfl (by decide +kernel) ⟨Nat.le_of_ble_eq_true rfl, Nat.le_of_ble_eq_true rfl⟩) hK hNX hP hD hS 0 rfl rfl rfl rfl hl.1 rfl (Nat.le_of_ble_eq_true rfl) dX2_digit_3 ⟨Nat.zero_le _, Nat.zero_le _⟩ (fun o w1 H locs hq hP hD hS => ?_)
  obtain ⟨rfl, e9⟩ := hq
  rw [e9] at hP hD
  refine W.eq (g2 := F0 m 6 ls [.ref (q 5)]) rfl ?_
  refine lv_astore (lv' := [(5, .ref (q 5)), (0, .ref (q 0)), (1, .int (iv (0))), (2, .int (iv (1))), (3, .int (iv ((mu : Int)))), (4, .int (iv ((mo : Int))))]) hx hb dX2_digit_6 hl (by decide) rfl (fun ls hl => ?_)
  refine lv_aload hx hb dX2_digit_8 (lv_at hl 0 rfl) ?_
  refine lv_ifnull hx hb dX2_digit_10 ?_
  refine lv_iload_n hx hb dX2_digit_13 rfl (lv_at hl 4 rfl) ?_
  refine lv_iconst (v := iv (1)) hx hb dX2_digit_14 (by decide) ?_
  refine iw_icmp_lt (tgt := 36) hx hb dX2_digit_15 (by decide) ⟨by omega, by omega⟩ ⟨by omega, by omega⟩ (fun c0 => ?_) (fun c0 => ?_)
  ·
    exact absurd c0 (by omega)
  ·
    refine lv_iload_n hx hb dX2_digit_18 rfl (lv_at hl 4 rfl) ?_
    refine lv_ldc (v := iv (1000000)) hx hb hown (hts (.constant RX2 40 (iv (1000000))) (by decide +kernel)) dX2_digit_19 ?_
    refine iw_icmp_gt (tgt := 36) hx hb dX2_digit_21 (by decide) ⟨by omega, by omega⟩ ⟨by omega, by omega⟩ (fun c1 => ?_) (fun c1 => ?_)
    ·
      exact absurd c1 (by omega)
    ·
      refine lv_iload hx hb dX2_digit_24 (lv_at hl 5 rfl) ?_
      refine iw_if_lt (tgt := 36) hx hb dX2_digit_26 (by decide) ⟨by omega, by omega⟩ (fun c2 => ?_) (fun c2 => ?_)
      ·
        exact absurd c2 (by omega)
      ·
        refine lv_iload hx hb dX2_digit_29 (lv_at hl 5 rfl) ?_
        refine lv_ldc (v := iv (1000000)) hx hb hown (hts (.constant RX2 40 (iv (1000000))) (by decide +kernel)) dX2_digit_31 ?_
        refine iw_icmp_le (tgt := 38) hx hb dX2_digit_33 (by decide) ⟨by omega, by omega⟩ ⟨by omega, by omega⟩ (fun c3 => ?_) (fun c3 => ?_)
        ·
          refine lv_aload_n hx hb dX2_digit_38 rfl (lv_at hl 1 rfl) ?_
          refine va_get (D := (dC, dI)) (ci := 2) (v := .ref (q 11)) (C := RX2) (T := TX2) (N := 4) hx hb hts (by decide +kernel) hown hK hP 0 rfl rfl 2 (by decide) (hts (.fieldLink RX2 22 "ExactFractions" "left" "LExactFractions$Whole;") (by decide +kernel)) (fun _ h9 => h9) rfl dX2_digit_39 ?_
          refine lv_aload hx hb dX2_digit_42 (lv_at hl 0 rfl) ?_
          refine lv_iload_n hx hb dX2_digit_44 rfl (lv_at hl 4 rfl) ?_
          refine lv_iload hx hb dX2_digit_45 (lv_at hl 5 rfl) ?_
          refine ef_callV (As := [.ref (q 5), .int (iv ((mu : Int))), .int (iv ((mo : Int)))]) (rest := []) ⟨hx, hb, hml, hown, hts⟩ (c_multiple l dC dI ht (isW_c (X := L) (ws := cC cI q (A1) (U1) (b1) (e1) (A2) (U2) (b2) (e2) (L) (R)) (k0 := 11) (k1 := 12) (by decide) rfl rfl) hL (wd_lt _) wd_z (isW_c (X := U1) (ws := cC cI q (A1) (U1) (b1) (e1) (A2) (U2) (b2) (e2) (L) (R)) (k0 := 5) (k1 := 6) (by decide) rfl rfl) (by omega) (apt_c (k0 := 11) (k1 := 12) (j0 := 5) (j1 := 6) rfl) mu mo hmu hmo) (cwV 3 hts gX2_digit_X1_becomeMultiple rfl rfl rfl (by decide +kernel) ⟨Nat.le_of_ble_eq_true rfl, Nat.le_of_ble_eq_true rfl⟩) hK hNX hP hD hS 11 rfl rfl rfl rfl hl.1 rfl (Nat.le_of_ble_eq_true rfl) dX2_digit_47 ⟨Nat.zero_le _, Nat.zero_le _⟩ (fun o w1 H locs hq hP hD hS => ?_)
          obtain ⟨rfl, rfl⟩ := hq
          have hP : va_P (dC, dI) vwCl (cC cI q (A1) (U1) (b1) (e1) (A2) (U2) (b2) (e2) (U1 * mu + mo) (R)) H := hP
          have hD : va_D (ef_A (cC cI q (A1) (U1) (b1) (e1) (A2) (U2) (b2) (e2) (L) (R))) (cC cI q (A1) (U1) (b1) (e1) (A2) (U2) (b2) (e2) (U1 * mu + mo) (R)) := hD
          refine W.eq (g2 := F0 m 50 ls []) rfl ?_
          refine lv_aload_n hx hb dX2_digit_50 rfl (lv_at hl 1 rfl) ?_
          refine lv_aload hx hb dX2_digit_51 (lv_at hl 0 rfl) ?_
          refine ef_callV (As := [.ref (q 5)]) (rest := []) ⟨hx, hb, hml, hown, hts⟩ (c_keep01K l dC dI ht q hA1 hU1 hA2 hU2 (by omega) hR hb4) (cwV 1 hts gX2_digit_X2_keepLeftIn rfl rfl rfl (by decide +kernel) ⟨Nat.le_of_ble_eq_true rfl, Nat.le_of_ble_eq_true rfl⟩) hK hNX hP hD hS 0 rfl rfl rfl rfl hl.1 rfl (Nat.le_of_ble_eq_true rfl) dX2_digit_53 ⟨Nat.zero_le _, Nat.zero_le _⟩ (fun o w1 H locs hq hP hD hS => ?_)
          obtain ⟨rfl, rfl⟩ := hq
          have hP : va_P (dC, dI) vwCl (cC cI q (A1) (U1 * mu + mo) (b1) (e1) (A2) (U2) (b2) (e2) (U1 * mu + mo) (R)) H := hP
          have hD : va_D (ef_A (cC cI q (A1) (U1) (b1) (e1) (A2) (U2) (b2) (e2) (L) (R))) (cC cI q (A1) (U1 * mu + mo) (b1) (e1) (A2) (U2) (b2) (e2) (U1 * mu + mo) (R)) := hD
          refine W.eq (g2 := F0 m 56 ls [.int (iv ((bl (U1 * mu + mo) : Int)))]) rfl ?_
          exact ef_iret hx hb hr hlocks hP hD hS dX2_digit_56 (⟨_, _, rfl, rfl, by omega, hR⟩)
        ·
          exact absurd c3 (by omega)

set_option maxRecDepth 100000 in
set_option maxHeartbeats 4000000 in
/-- digit -/
theorem c_digit10F (l : Launch) (dC : Nat → ClassId) (dI : Nat → Nat → Nat) {cI : ClassId} {tys : List (ClassId × FieldType)} (ht : tys[0]? = some (cI, .int)) (q : Nat → Nat) {A1 U1 A2 U2 L R : Nat} {b1 e1 b2 e2 : Int} (hA1 : wl A1 ≤ 150) (hU1 : wl U1 ≤ 150) (hA2 : wl A2 ≤ 150) (hU2 : wl U2 ≤ 150) (hL : wl L ≤ 301) (hR : wl R ≤ 301) (mu mo : Nat) (hm1 : 1 ≤ mu) (hmu : mu ≤ 1000000) (hmo : mo ≤ 1000000) (hb4 : 4800 < bl (A2 * mu + mo)) : ef_C l yX2_digit wsX2_digit ({ frames := 4, cells := 0, slots := 0, locals := 88 } : Room) [.ref (q 0), .int (iv (1)), .int (iv (0)), .int (iv ((mu : Int))), .int (iv ((mo : Int)))] (dC, dI) vwCl tys (cC cI q (A1) (U1) (b1) (e1) (A2) (U2) (b2) (e2) (L) (R)) (fun o w1 => ∃ L2 R2 : Nat, o = some (.int (iv (-2))) ∧ w1 = cC cI q (A1) (U1) (b1) (e1) (A2) (U2) (b2) (e2) (L2) (R2) ∧ wl L2 ≤ 301 ∧ wl R2 ≤ 301) := by
  refine ef_C.of (cc := cX2_digit) (maxL := 6) (ret := (some .int)) (by decide) rfl (Nat.le_of_ble_eq_true rfl) ?_
  intro p e s m below meth c ls hx hb hml hr hts hown hlocks hK hNX hP hD hS hl
  have hl : lv_has ls 6 [(0, .ref (q 0)), (1, .int (iv (1))), (2, .int (iv (0))), (3, .int (iv ((mu : Int)))), (4, .int (iv ((mo : Int))))] := hl
  have hown : s.vm.findClass RX2 = some m.cls := hown
  generalize hH : s.heap = H at hP ⊢
  have hS : va_S (ef_A (cC cI q (A1) (U1) (b1) (e1) (A2) (U2) (b2) (e2) (L) (R))) s.heap H [] := by rw [← hH]; exact hS
  generalize ([] : List Loc) = locs at hS ⊢
  have hL2 := wl_mul hA2 hmu hmo
  refine lv_aload_n hx hb dX2_digit_0 rfl (lv_at hl 0 rfl) ?_
  refine lv_iload_n hx hb dX2_digit_1 rfl (lv_at hl 1 rfl) ?_
  refine lv_iload_n hx hb dX2_digit_2 rfl (lv_at hl 2 rfl) ?_
  refine ef_callV (As := [.int (iv (1)), .int (iv (0))]) (rest := []) ⟨hx, hb, hml, hown, hts⟩ (c_partOf10 l dC dI ht q) (cwV 2 hts gX2_digit_X2_partOf rfl rfl rfl (by decide +kernel) ⟨Nat.le_of_ble_eq_true rfl, Nat.le_of_ble_eq_true rfl⟩) hK hNX hP hD hS 0 rfl rfl rfl rfl hl.1 rfl (Nat.le_of_ble_eq_true rfl) dX2_digit_3 ⟨Nat.zero_le _, Nat.zero_le _⟩ (fun o w1 H locs hq hP hD hS => ?_)
  obtain ⟨rfl, e9⟩ := hq
  rw [e9] at hP hD
  refine W.eq (g2 := F0 m 6 ls [.ref (q 7)]) rfl ?_
  refine lv_astore (lv' := [(5, .ref (q 7)), (0, .ref (q 0)), (1, .int (iv (1))), (2, .int (iv (0))), (3, .int (iv ((mu : Int)))), (4, .int (iv ((mo : Int))))]) hx hb dX2_digit_6 hl (by decide) rfl (fun ls hl => ?_)
  refine lv_aload hx hb dX2_digit_8 (lv_at hl 0 rfl) ?_
  refine lv_ifnull hx hb dX2_digit_10 ?_
  refine lv_iload_n hx hb dX2_digit_13 rfl (lv_at hl 4 rfl) ?_
  refine lv_iconst (v := iv (1)) hx hb dX2_digit_14 (by decide) ?_
  refine iw_icmp_lt (tgt := 36) hx hb dX2_digit_15 (by decide) ⟨by omega, by omega⟩ ⟨by omega, by omega⟩ (fun c0 => ?_) (fun c0 => ?_)
  ·
    exact absurd c0 (by omega)
  ·
    refine lv_iload_n hx hb dX2_digit_18 rfl (lv_at hl 4 rfl) ?_
    refine lv_ldc (v := iv (1000000)) hx hb hown (hts (.constant RX2 40 (iv (1000000))) (by decide +kernel)) dX2_digit_19 ?_
    refine iw_icmp_gt (tgt := 36) hx hb dX2_digit_21 (by decide) ⟨by omega, by omega⟩ ⟨by omega, by omega⟩ (fun c1 => ?_) (fun c1 => ?_)
    ·
      exact absurd c1 (by omega)
    ·
      refine lv_iload hx hb dX2_digit_24 (lv_at hl 5 rfl) ?_
      refine iw_if_lt (tgt := 36) hx hb dX2_digit_26 (by decide) ⟨by omega, by omega⟩ (fun c2 => ?_) (fun c2 => ?_)
      ·
        exact absurd c2 (by omega)
      ·
        refine lv_iload hx hb dX2_digit_29 (lv_at hl 5 rfl) ?_
        refine lv_ldc (v := iv (1000000)) hx hb hown (hts (.constant RX2 40 (iv (1000000))) (by decide +kernel)) dX2_digit_31 ?_
        refine iw_icmp_le (tgt := 38) hx hb dX2_digit_33 (by decide) ⟨by omega, by omega⟩ ⟨by omega, by omega⟩ (fun c3 => ?_) (fun c3 => ?_)
        ·
          refine lv_aload_n hx hb dX2_digit_38 rfl (lv_at hl 1 rfl) ?_
          refine va_get (D := (dC, dI)) (ci := 2) (v := .ref (q 11)) (C := RX2) (T := TX2) (N := 4) hx hb hts (by decide +kernel) hown hK hP 0 rfl rfl 2 (by decide) (hts (.fieldLink RX2 22 "ExactFractions" "left" "LExactFractions$Whole;") (by decide +kernel)) (fun _ h9 => h9) rfl dX2_digit_39 ?_
          refine lv_aload hx hb dX2_digit_42 (lv_at hl 0 rfl) ?_
          refine lv_iload_n hx hb dX2_digit_44 rfl (lv_at hl 4 rfl) ?_
          refine lv_iload hx hb dX2_digit_45 (lv_at hl 5 rfl) ?_
          refine ef_callV (As := [.ref (q 7), .int (iv ((mu : Int))), .int (iv ((mo : Int)))]) (rest := []) ⟨hx, hb, hml, hown, hts⟩ (c_multiple l dC dI ht (isW_c (X := L) (ws := cC cI q (A1) (U1) (b1) (e1) (A2) (U2) (b2) (e2) (L) (R)) (k0 := 11) (k1 := 12) (by decide) rfl rfl) hL (wd_lt _) wd_z (isW_c (X := A2) (ws := cC cI q (A1) (U1) (b1) (e1) (A2) (U2) (b2) (e2) (L) (R)) (k0 := 7) (k1 := 8) (by decide) rfl rfl) (by omega) (apt_c (k0 := 11) (k1 := 12) (j0 := 7) (j1 := 8) rfl) mu mo hmu hmo) (cwV 3 hts gX2_digit_X1_becomeMultiple rfl rfl rfl (by decide +kernel) ⟨Nat.le_of_ble_eq_true rfl, Nat.le_of_ble_eq_true rfl⟩) hK hNX hP hD hS 11 rfl rfl rfl rfl hl.1 rfl (Nat.le_of_ble_eq_true rfl) dX2_digit_47 ⟨Nat.zero_le _, Nat.zero_le _⟩ (fun o w1 H locs hq hP hD hS => ?_)
          obtain ⟨rfl, rfl⟩ := hq
          have hP : va_P (dC, dI) vwCl (cC cI q (A1) (U1) (b1) (e1) (A2) (U2) (b2) (e2) (A2 * mu + mo) (R)) H := hP
          have hD : va_D (ef_A (cC cI q (A1) (U1) (b1) (e1) (A2) (U2) (b2) (e2) (L) (R))) (cC cI q (A1) (U1) (b1) (e1) (A2) (U2) (b2) (e2) (A2 * mu + mo) (R)) := hD
          refine W.eq (g2 := F0 m 50 ls []) rfl ?_
          refine lv_aload_n hx hb dX2_digit_50 rfl (lv_at hl 1 rfl) ?_
          refine lv_aload hx hb dX2_digit_51 (lv_at hl 0 rfl) ?_
          refine ef_callV (As := [.ref (q 7)]) (rest := []) ⟨hx, hb, hml, hown, hts⟩ (c_keep10F l dC dI ht q hA1 hU1 hA2 hU2 (by omega) hR hb4) (cwV 1 hts gX2_digit_X2_keepLeftIn rfl rfl rfl (by decide +kernel) ⟨Nat.le_of_ble_eq_true rfl, Nat.le_of_ble_eq_true rfl⟩) hK hNX hP hD hS 0 rfl rfl rfl rfl hl.1 rfl (Nat.le_of_ble_eq_true rfl) dX2_digit_53 ⟨Nat.zero_le _, Nat.zero_le _⟩ (fun o w1 H locs hq hP hD hS => ?_)
          obtain ⟨rfl, rfl⟩ := hq
          have hP : va_P (dC, dI) vwCl (cC cI q (A1) (U1) (b1) (e1) (A2) (U2) (b2) (e2) (A2 * mu + mo) (R)) H := hP
          have hD : va_D (ef_A (cC cI q (A1) (U1) (b1) (e1) (A2) (U2) (b2) (e2) (L) (R))) (cC cI q (A1) (U1) (b1) (e1) (A2) (U2) (b2) (e2) (A2 * mu + mo) (R)) := hD
          refine W.eq (g2 := F0 m 56 ls [.int (iv (-2))]) rfl ?_
          exact ef_iret hx hb hr hlocks hP hD hS dX2_digit_56 (⟨_, _, rfl, rfl, by omega, hR⟩)
        ·
          exact absurd c3 (by omega)

set_option maxRecDepth 100000 in
set_option maxHeartbeats 4000000 in
/-- digit -/
theorem c_digit10K (l : Launch) (dC : Nat → ClassId) (dI : Nat → Nat → Nat) {cI : ClassId} {tys : List (ClassId × FieldType)} (ht : tys[0]? = some (cI, .int)) (q : Nat → Nat) {A1 U1 A2 U2 L R : Nat} {b1 e1 b2 e2 : Int} (hA1 : wl A1 ≤ 150) (hU1 : wl U1 ≤ 150) (hA2 : wl A2 ≤ 150) (hU2 : wl U2 ≤ 150) (hL : wl L ≤ 301) (hR : wl R ≤ 301) (mu mo : Nat) (hm1 : 1 ≤ mu) (hmu : mu ≤ 1000000) (hmo : mo ≤ 1000000) (hb4 : bl (A2 * mu + mo) ≤ 4800) : ef_C l yX2_digit wsX2_digit ({ frames := 4, cells := 0, slots := 0, locals := 88 } : Room) [.ref (q 0), .int (iv (1)), .int (iv (0)), .int (iv ((mu : Int))), .int (iv ((mo : Int)))] (dC, dI) vwCl tys (cC cI q (A1) (U1) (b1) (e1) (A2) (U2) (b2) (e2) (L) (R)) (fun o w1 => ∃ L2 R2 : Nat, o = some (.int (iv (bl (A2 * mu + mo) : Int))) ∧ w1 = cC cI q (A1) (U1) (b1) (e1) (A2 * mu + mo) (U2) (b2) (e2) (L2) (R2) ∧ wl L2 ≤ 301 ∧ wl R2 ≤ 301) := by
  refine ef_C.of (cc := cX2_digit) (maxL := 6) (ret := (some .int)) (by decide) rfl (Nat.le_of_ble_eq_true rfl) ?_
  intro p e s m below meth c ls hx hb hml hr hts hown hlocks hK hNX hP hD hS hl
  have hl : lv_has ls 6 [(0, .ref (q 0)), (1, .int (iv (1))), (2, .int (iv (0))), (3, .int (iv ((mu : Int)))), (4, .int (iv ((mo : Int))))] := hl
  have hown : s.vm.findClass RX2 = some m.cls := hown
  generalize hH : s.heap = H at hP ⊢
  have hS : va_S (ef_A (cC cI q (A1) (U1) (b1) (e1) (A2) (U2) (b2) (e2) (L) (R))) s.heap H [] := by rw [← hH]; exact hS
  generalize ([] : List Loc) = locs at hS ⊢
  have hL2 := wl_mul hA2 hmu hmo
  refine lv_aload_n hx hb dX2_digit_0 rfl (lv_at hl 0 rfl) ?_
  refine lv_iload_n hx hb dX2_digit_1 rfl (lv_at hl 1 rfl) ?_
  refine lv_iload_n hx hb dX2_digit_2 rfl (lv_at hl 2 rfl) ?_
  refine ef_callV (As := [.int (iv (1)), .int (iv (0))]) (rest := []) ⟨hx, hb, hml, hown, hts⟩ (c_partOf10 l dC dI ht q) (cwV 2 hts gX2_digit_X2_partOf rfl rfl rfl (by decide +kernel) ⟨Nat.le_of_ble_eq_true rfl, Nat.le_of_ble_eq_true rfl⟩) hK hNX hP hD hS 0 rfl rfl rfl rfl hl.1 rfl (Nat.le_of_ble_eq_true rfl) dX2_digit_3 ⟨Nat.zero_le _, Nat.zero_le _⟩ (fun o w1 H locs hq hP hD hS => ?_)
  obtain ⟨rfl, e9⟩ := hq
  rw [e9] at hP hD
  refine W.eq (g2 := F0 m 6 ls [.ref (q 7)]) rfl ?_
  refine lv_astore (lv' := [(5, .ref (q 7)), (0, .ref (q 0)), (1, .int (iv (1))), (2, .int (iv (0))), (3, .int (iv ((mu : Int)))), (4, .int (iv ((mo : Int))))]) hx hb dX2_digit_6 hl (by decide) rfl (fun ls hl => ?_)
  refine lv_aload hx hb dX2_digit_8 (lv_at hl 0 rfl) ?_
  refine lv_ifnull hx hb dX2_digit_10 ?_
  refine lv_iload_n hx hb dX2_digit_13 rfl (lv_at hl 4 rfl) ?_
  refine lv_iconst (v := iv (1)) hx hb dX2_digit_14 (by decide) ?_
  refine iw_icmp_lt (tgt := 36) hx hb dX2_digit_15 (by decide) ⟨by omega, by omega⟩ ⟨by omega, by omega⟩ (fun c0 => ?_) (fun c0 => ?_)
  ·
    exact absurd c0 (by omega)
  ·
    refine lv_iload_n hx hb dX2_digit_18 rfl (lv_at hl 4 rfl) ?_
    refine lv_ldc (v := iv (1000000)) hx hb hown (hts (.constant RX2 40 (iv (1000000))) (by decide +kernel)) dX2_digit_19 ?_
    refine iw_icmp_gt (tgt := 36) hx hb dX2_digit_21 (by decide) ⟨by omega, by omega⟩ ⟨by omega, by omega⟩ (fun c1 => ?_) (fun c1 => ?_)
    ·
      exact absurd c1 (by omega)
    ·
      refine lv_iload hx hb dX2_digit_24 (lv_at hl 5 rfl) ?_
      refine iw_if_lt (tgt := 36) hx hb dX2_digit_26 (by decide) ⟨by omega, by omega⟩ (fun c2 => ?_) (fun c2 => ?_)
      ·
        exact absurd c2 (by omega)
      ·
        refine lv_iload hx hb dX2_digit_29 (lv_at hl 5 rfl) ?_
        refine lv_ldc (v := iv (1000000)) hx hb hown (hts (.constant RX2 40 (iv (1000000))) (by decide +kernel)) dX2_digit_31 ?_
        refine iw_icmp_le (tgt := 38) hx hb dX2_digit_33 (by decide) ⟨by omega, by omega⟩ ⟨by omega, by omega⟩ (fun c3 => ?_) (fun c3 => ?_)
        ·
          refine lv_aload_n hx hb dX2_digit_38 rfl (lv_at hl 1 rfl) ?_
          refine va_get (D := (dC, dI)) (ci := 2) (v := .ref (q 11)) (C := RX2) (T := TX2) (N := 4) hx hb hts (by decide +kernel) hown hK hP 0 rfl rfl 2 (by decide) (hts (.fieldLink RX2 22 "ExactFractions" "left" "LExactFractions$Whole;") (by decide +kernel)) (fun _ h9 => h9) rfl dX2_digit_39 ?_
          refine lv_aload hx hb dX2_digit_42 (lv_at hl 0 rfl) ?_
          refine lv_iload_n hx hb dX2_digit_44 rfl (lv_at hl 4 rfl) ?_
          refine lv_iload hx hb dX2_digit_45 (lv_at hl 5 rfl) ?_
          refine ef_callV (As := [.ref (q 7), .int (iv ((mu : Int))), .int (iv ((mo : Int)))]) (rest := []) ⟨hx, hb, hml, hown, hts⟩ (c_multiple l dC dI ht (isW_c (X := L) (ws := cC cI q (A1) (U1) (b1) (e1) (A2) (U2) (b2) (e2) (L) (R)) (k0 := 11) (k1 := 12) (by decide) rfl rfl) hL (wd_lt _) wd_z (isW_c (X := A2) (ws := cC cI q (A1) (U1) (b1) (e1) (A2) (U2) (b2) (e2) (L) (R)) (k0 := 7) (k1 := 8) (by decide) rfl rfl) (by omega) (apt_c (k0 := 11) (k1 := 12) (j0 := 7) (j1 := 8) rfl) mu mo hmu hmo) (cwV 3 hts gX2_digit_X1_becomeMultiple rfl rfl rfl (by decide +kernel) ⟨Nat.le_of_ble_eq_true rfl, Nat.le_of_ble_eq_true rfl⟩) hK hNX hP hD hS 11 rfl rfl rfl rfl hl.1 rfl (Nat.le_of_ble_eq_true rfl) dX2_digit_47 ⟨Nat.zero_le _, Nat.zero_le _⟩ (fun o w1 H locs hq hP hD hS => ?_)
          obtain ⟨rfl, rfl⟩ := hq
          have hP : va_P (dC, dI) vwCl (cC cI q (A1) (U1) (b1) (e1) (A2) (U2) (b2) (e2) (A2 * mu + mo) (R)) H := hP
          have hD : va_D (ef_A (cC cI q (A1) (U1) (b1) (e1) (A2) (U2) (b2) (e2) (L) (R))) (cC cI q (A1) (U1) (b1) (e1) (A2) (U2) (b2) (e2) (A2 * mu + mo) (R)) := hD
          refine W.eq (g2 := F0 m 50 ls []) rfl ?_
          refine lv_aload_n hx hb dX2_digit_50 rfl (lv_at hl 1 rfl) ?_
          refine lv_aload hx hb dX2_digit_51 (lv_at hl 0 rfl) ?_
          refine ef_callV (As := [.ref (q 7)]) (rest := []) ⟨hx, hb, hml, hown, hts⟩ (c_keep10K l dC dI ht q hA1 hU1 hA2 hU2 (by omega) hR hb4) (cwV 1 hts gX2_digit_X2_keepLeftIn rfl rfl rfl (by decide +kernel) ⟨Nat.le_of_ble_eq_true rfl, Nat.le_of_ble_eq_true rfl⟩) hK hNX hP hD hS 0 rfl rfl rfl rfl hl.1 rfl (Nat.le_of_ble_eq_true rfl) dX2_digit_53 ⟨Nat.zero_le _, Nat.zero_le _⟩ (fun o w1 H locs hq hP hD hS => ?_)
          obtain ⟨rfl, rfl⟩ := hq
          have hP : va_P (dC, dI) vwCl (cC cI q (A1) (U1) (b1) (e1) (A2 * mu + mo) (U2) (b2) (e2) (A2 * mu + mo) (R)) H := hP
          have hD : va_D (ef_A (cC cI q (A1) (U1) (b1) (e1) (A2) (U2) (b2) (e2) (L) (R))) (cC cI q (A1) (U1) (b1) (e1) (A2 * mu + mo) (U2) (b2) (e2) (A2 * mu + mo) (R)) := hD
          refine W.eq (g2 := F0 m 56 ls [.int (iv ((bl (A2 * mu + mo) : Int)))]) rfl ?_
          exact ef_iret hx hb hr hlocks hP hD hS dX2_digit_56 (⟨_, _, rfl, rfl, by omega, hR⟩)
        ·
          exact absurd c3 (by omega)

set_option maxRecDepth 100000 in
set_option maxHeartbeats 4000000 in
/-- digit -/
theorem c_digit11F (l : Launch) (dC : Nat → ClassId) (dI : Nat → Nat → Nat) {cI : ClassId} {tys : List (ClassId × FieldType)} (ht : tys[0]? = some (cI, .int)) (q : Nat → Nat) {A1 U1 A2 U2 L R : Nat} {b1 e1 b2 e2 : Int} (hA1 : wl A1 ≤ 150) (hU1 : wl U1 ≤ 150) (hA2 : wl A2 ≤ 150) (hU2 : wl U2 ≤ 150) (hL : wl L ≤ 301) (hR : wl R ≤ 301) (mu mo : Nat) (hm1 : 1 ≤ mu) (hmu : mu ≤ 1000000) (hmo : mo ≤ 1000000) (hb4 : 4800 < bl (U2 * mu + mo)) : ef_C l yX2_digit wsX2_digit ({ frames := 4, cells := 0, slots := 0, locals := 88 } : Room) [.ref (q 0), .int (iv (1)), .int (iv (1)), .int (iv ((mu : Int))), .int (iv ((mo : Int)))] (dC, dI) vwCl tys (cC cI q (A1) (U1) (b1) (e1) (A2) (U2) (b2) (e2) (L) (R)) (fun o w1 => ∃ L2 R2 : Nat, o = some (.int (iv (-2))) ∧ w1 = cC cI q (A1) (U1) (b1) (e1) (A2) (U2) (b2) (e2) (L2) (R2) ∧ wl L2 ≤ 301 ∧ wl R2 ≤ 301) := by
  refine ef_C.of (cc := cX2_digit) (maxL := 6) (ret := (some .int)) (by decide) rfl (Nat.le_of_ble_eq_true rfl) ?_
  intro p e s m below meth c ls hx hb hml hr hts hown hlocks hK hNX hP hD hS hl
  have hl : lv_has ls 6 [(0, .ref (q 0)), (1, .int (iv (1))), (2, .int (iv (1))), (3, .int (iv ((mu : Int)))), (4, .int (iv ((mo : Int))))] := hl
  have hown : s.vm.findClass RX2 = some m.cls := hown
  generalize hH : s.heap = H at hP ⊢
  have hS : va_S (ef_A (cC cI q (A1) (U1) (b1) (e1) (A2) (U2) (b2) (e2) (L) (R))) s.heap H [] := by rw [← hH]; exact hS
  generalize ([] : List Loc) = locs at hS ⊢
  have hL2 := wl_mul hU2 hmu hmo
  refine lv_aload_n hx hb dX2_digit_0 rfl (lv_at hl 0 rfl) ?_
  refine lv_iload_n hx hb dX2_digit_1 rfl (lv_at hl 1 rfl) ?_
  refine lv_iload_n hx hb dX2_digit_2 rfl (lv_at hl 2 rfl) ?_
  refine ef_callV (As := [.int (iv (1)), .int (iv (1))]) (rest := []) ⟨hx, hb, hml, hown, hts⟩ (c_partOf11 l dC dI ht q) (cwV 2 hts gX2_digit_X2_partOf rfl rfl rfl (by decide +kernel) ⟨Nat.le_of_ble_eq_true rfl, Nat.le_of_ble_eq_true rfl⟩) hK hNX hP hD hS 0 rfl rfl rfl rfl hl.1 rfl (Nat.le_of_ble_eq_true rfl) dX2_digit_3 ⟨Nat.zero_le _, Nat.zero_le _⟩ (fun o w1 H locs hq hP hD hS => ?_)
  obtain ⟨rfl, e9⟩ := hq
  rw [e9] at hP hD
  refine W.eq (g2 := F0 m 6 ls [.ref (q 9)]) rfl ?_
  refine lv_astore (lv' := [(5, .ref (q 9)), (0, .ref (q 0)), (1, .int (iv (1))), (2, .int (iv (1))), (3, .int (iv ((mu : Int)))), (4, .int (iv ((mo : Int))))]) hx hb dX2_digit_6 hl (by decide) rfl (fun ls hl => ?_)
  refine lv_aload hx hb dX2_digit_8 (lv_at hl 0 rfl) ?_
  refine lv_ifnull hx hb dX2_digit_10 ?_
  refine lv_iload_n hx hb dX2_digit_13 rfl (lv_at hl 4 rfl) ?_
  refine lv_iconst (v := iv (1)) hx hb dX2_digit_14 (by decide) ?_
  refine iw_icmp_lt (tgt := 36) hx hb dX2_digit_15 (by decide) ⟨by omega, by omega⟩ ⟨by omega, by omega⟩ (fun c0 => ?_) (fun c0 => ?_)
  ·
    exact absurd c0 (by omega)
  ·
    refine lv_iload_n hx hb dX2_digit_18 rfl (lv_at hl 4 rfl) ?_
    refine lv_ldc (v := iv (1000000)) hx hb hown (hts (.constant RX2 40 (iv (1000000))) (by decide +kernel)) dX2_digit_19 ?_
    refine iw_icmp_gt (tgt := 36) hx hb dX2_digit_21 (by decide) ⟨by omega, by omega⟩ ⟨by omega, by omega⟩ (fun c1 => ?_) (fun c1 => ?_)
    ·
      exact absurd c1 (by omega)
    ·
      refine lv_iload hx hb dX2_digit_24 (lv_at hl 5 rfl) ?_
      refine iw_if_lt (tgt := 36) hx hb dX2_digit_26 (by decide) ⟨by omega, by omega⟩ (fun c2 => ?_) (fun c2 => ?_)
      ·
        exact absurd c2 (by omega)
      ·
        refine lv_iload hx hb dX2_digit_29 (lv_at hl 5 rfl) ?_
        refine lv_ldc (v := iv (1000000)) hx hb hown (hts (.constant RX2 40 (iv (1000000))) (by decide +kernel)) dX2_digit_31 ?_
        refine iw_icmp_le (tgt := 38) hx hb dX2_digit_33 (by decide) ⟨by omega, by omega⟩ ⟨by omega, by omega⟩ (fun c3 => ?_) (fun c3 => ?_)
        ·
          refine lv_aload_n hx hb dX2_digit_38 rfl (lv_at hl 1 rfl) ?_
          refine va_get (D := (dC, dI)) (ci := 2) (v := .ref (q 11)) (C := RX2) (T := TX2) (N := 4) hx hb hts (by decide +kernel) hown hK hP 0 rfl rfl 2 (by decide) (hts (.fieldLink RX2 22 "ExactFractions" "left" "LExactFractions$Whole;") (by decide +kernel)) (fun _ h9 => h9) rfl dX2_digit_39 ?_
          refine lv_aload hx hb dX2_digit_42 (lv_at hl 0 rfl) ?_
          refine lv_iload_n hx hb dX2_digit_44 rfl (lv_at hl 4 rfl) ?_
          refine lv_iload hx hb dX2_digit_45 (lv_at hl 5 rfl) ?_
          refine ef_callV (As := [.ref (q 9), .int (iv ((mu : Int))), .int (iv ((mo : Int)))]) (rest := []) ⟨hx, hb, hml, hown, hts⟩ (c_multiple l dC dI ht (isW_c (X := L) (ws := cC cI q (A1) (U1) (b1) (e1) (A2) (U2) (b2) (e2) (L) (R)) (k0 := 11) (k1 := 12) (by decide) rfl rfl) hL (wd_lt _) wd_z (isW_c (X := U2) (ws := cC cI q (A1) (U1) (b1) (e1) (A2) (U2) (b2) (e2) (L) (R)) (k0 := 9) (k1 := 10) (by decide) rfl rfl) (by omega) (apt_c (k0 := 11) (k1 := 12) (j0 := 9) (j1 := 10) rfl) mu mo hmu hmo) (cwV 3 hts gX2_digit_X1_becomeMultiple rfl rfl rfl (by decide +kernel) ⟨Nat.le_of_ble_eq_true rfl, Nat.le_of_ble_eq_true rfl⟩) hK hNX hP hD hS 11 rfl rfl rfl rfl hl.1 rfl (Nat.le_of_ble_eq_true rfl) dX2_digit_47 ⟨Nat.zero_le _, Nat.zero_le _⟩ (fun o w1 H locs hq hP hD hS => ?_)
          obtain ⟨rfl, rfl⟩ := hq
          have hP : va_P (dC, dI) vwCl (cC cI q (A1) (U1) (b1) (e1) (A2) (U2) (b2) (e2) (U2 * mu + mo) (R)) H := hP
          have hD : va_D (ef_A (cC cI q (A1) (U1) (b1) (e1) (A2) (U2) (b2) (e2) (L) (R))) (cC cI q (A1) (U1) (b1) (e1) (A2) (U2) (b2) (e2) (U2 * mu + mo) (R)) := hD
          refine W.eq (g2 := F0 m 50 ls []) rfl ?_
          refine lv_aload_n hx hb dX2_digit_50 rfl (lv_at hl 1 rfl) ?_
          refine lv_aload hx hb dX2_digit_51 (lv_at hl 0 rfl) ?_
          refine ef_callV (As := [.ref (q 9)]) (rest := []) ⟨hx, hb, hml, hown, hts⟩ (c_keep11F l dC dI ht q hA1 hU1 hA2 hU2 (by omega) hR hb4) (cwV 1 hts gX2_digit_X2_keepLeftIn rfl rfl rfl (by decide +kernel) ⟨Nat.le_of_ble_eq_true rfl, Nat.le_of_ble_eq_true rfl⟩) hK hNX hP hD hS 0 rfl rfl rfl rfl hl.1 rfl (Nat.le_of_ble_eq_true rfl) dX2_digit_53 ⟨Nat.zero_le _, Nat.zero_le _⟩ (fun o w1 H locs hq hP hD hS => ?_)
          obtain ⟨rfl, rfl⟩ := hq
          have hP : va_P (dC, dI) vwCl (cC cI q (A1) (U1) (b1) (e1) (A2) (U2) (b2) (e2) (U2 * mu + mo) (R)) H := hP
          have hD : va_D (ef_A (cC cI q (A1) (U1) (b1) (e1) (A2) (U2) (b2) (e2) (L) (R))) (cC cI q (A1) (U1) (b1) (e1) (A2) (U2) (b2) (e2) (U2 * mu + mo) (R)) := hD
          refine W.eq (g2 := F0 m 56 ls [.int (iv (-2))]) rfl ?_
          exact ef_iret hx hb hr hlocks hP hD hS dX2_digit_56 (⟨_, _, rfl, rfl, by omega, hR⟩)
        ·
          exact absurd c3 (by omega)

set_option maxRecDepth 100000 in
set_option maxHeartbeats 4000000 in
/-- digit -/
theorem c_digit11K (l : Launch) (dC : Nat → ClassId) (dI : Nat → Nat → Nat) {cI : ClassId} {tys : List (ClassId × FieldType)} (ht : tys[0]? = some (cI, .int)) (q : Nat → Nat) {A1 U1 A2 U2 L R : Nat} {b1 e1 b2 e2 : Int} (hA1 : wl A1 ≤ 150) (hU1 : wl U1 ≤ 150) (hA2 : wl A2 ≤ 150) (hU2 : wl U2 ≤ 150) (hL : wl L ≤ 301) (hR : wl R ≤ 301) (mu mo : Nat) (hm1 : 1 ≤ mu) (hmu : mu ≤ 1000000) (hmo : mo ≤ 1000000) (hb4 : bl (U2 * mu + mo) ≤ 4800) : ef_C l yX2_digit wsX2_digit ({ frames := 4, cells := 0, slots := 0, locals := 88 } : Room) [.ref (q 0), .int (iv (1)), .int (iv (1)), .int (iv ((mu : Int))), .int (iv ((mo : Int)))] (dC, dI) vwCl tys (cC cI q (A1) (U1) (b1) (e1) (A2) (U2) (b2) (e2) (L) (R)) (fun o w1 => ∃ L2 R2 : Nat, o = some (.int (iv (bl (U2 * mu + mo) : Int))) ∧ w1 = cC cI q (A1) (U1) (b1) (e1) (A2) (U2 * mu + mo) (b2) (e2) (L2) (R2) ∧ wl L2 ≤ 301 ∧ wl R2 ≤ 301) := by
  refine ef_C.of (cc := cX2_digit) (maxL := 6) (ret := (some .int)) (by decide) rfl (Nat.le_of_ble_eq_true rfl) ?_
  intro p e s m below meth c ls hx hb hml hr hts hown hlocks hK hNX hP hD hS hl
  have hl : lv_has ls 6 [(0, .ref (q 0)), (1, .int (iv (1))), (2, .int (iv (1))), (3, .int (iv ((mu : Int)))), (4, .int (iv ((mo : Int))))] := hl
  have hown : s.vm.findClass RX2 = some m.cls := hown
  generalize hH : s.heap = H at hP ⊢
  have hS : va_S (ef_A (cC cI q (A1) (U1) (b1) (e1) (A2) (U2) (b2) (e2) (L) (R))) s.heap H [] := by rw [← hH]; exact hS
  generalize ([] : List Loc) = locs at hS ⊢
  have hL2 := wl_mul hU2 hmu hmo
  refine lv_aload_n hx hb dX2_digit_0 rfl (lv_at hl 0 rfl) ?_
  refine lv_iload_n hx hb dX2_digit_1 rfl (lv_at hl 1 rfl) ?_
  refine lv_iload_n hx hb dX2_digit_2 rfl (lv_at hl 2 rfl) ?_
  refine ef_callV (As := [.int (iv (1)), .int (iv (1))]) (rest := []) ⟨hx, hb, hml, hown, hts⟩ (c_partOf11 l dC dI ht q) (cwV 2 hts gX2_digit_X2_partOf rfl rfl rfl (by decide +kernel) ⟨Nat.le_of_ble_eq_true rfl, Nat.le_of_ble_eq_true rfl⟩) hK hNX hP hD hS 0 rfl rfl rfl rfl hl.1 rfl (Nat.le_of_ble_eq_true rfl) dX2_digit_3 ⟨Nat.zero_le _, Nat.zero_le _⟩ (fun o w1 H locs hq hP hD hS => ?_)
  obtain ⟨rfl, e9⟩ := hq
  rw [e9] at hP hD
  refine W.eq (g2 := F0 m 6 ls [.ref (q 9)]) rfl ?_
  refine lv_astore (lv' := [(5, .ref (q 9)), (0, .ref (q 0)), (1, .int (iv (1))), (2, .int (iv (1))), (3, .int (iv ((mu : Int)))), (4, .int (iv ((mo : Int))))]) hx hb dX2_digit_6 hl (by decide) rfl (fun ls hl => ?_)
  refine lv_aload hx hb dX2_digit_8 (lv_at hl 0 rfl) ?_
  refine lv_ifnull hx hb dX2_digit_10 ?_
  refine lv_iload_n hx hb dX2_digit_13 rfl (lv_at hl 4 rfl) ?_
  refine lv_iconst (v := iv (1)) hx hb dX2_digit_14 (by decide) ?_
  refine iw_icmp_lt (tgt := 36) hx hb dX2_digit_15 (by decide) ⟨by omega, by omega⟩ ⟨by omega, by omega⟩ (fun c0 => ?_) (fun c0 => ?_)
  ·
    exact absurd c0 (by omega)
  ·
    refine lv_iload_n hx hb dX2_digit_18 rfl (lv_at hl 4 rfl) ?_
    refine lv_ldc (v := iv (1000000)) hx hb hown (hts (.constant RX2 40 (iv (1000000))) (by decide +kernel)) dX2_digit_19 ?_
    refine iw_icmp_gt (tgt := 36) hx hb dX2_digit_21 (by decide) ⟨by omega, by omega⟩ ⟨by omega, by omega⟩ (fun c1 => ?_) (fun c1 => ?_)
    ·
      exact absurd c1 (by omega)
    ·
      refine lv_iload hx hb dX2_digit_24 (lv_at hl 5 rfl) ?_
      refine iw_if_lt (tgt := 36) hx hb dX2_digit_26 (by decide) ⟨by omega, by omega⟩ (fun c2 => ?_) (fun c2 => ?_)
      ·
        exact absurd c2 (by omega)
      ·
        refine lv_iload hx hb dX2_digit_29 (lv_at hl 5 rfl) ?_
        refine lv_ldc (v := iv (1000000)) hx hb hown (hts (.constant RX2 40 (iv (1000000))) (by decide +kernel)) dX2_digit_31 ?_
        refine iw_icmp_le (tgt := 38) hx hb dX2_digit_33 (by decide) ⟨by omega, by omega⟩ ⟨by omega, by omega⟩ (fun c3 => ?_) (fun c3 => ?_)
        ·
          refine lv_aload_n hx hb dX2_digit_38 rfl (lv_at hl 1 rfl) ?_
          refine va_get (D := (dC, dI)) (ci := 2) (v := .ref (q 11)) (C := RX2) (T := TX2) (N := 4) hx hb hts (by decide +kernel) hown hK hP 0 rfl rfl 2 (by decide) (hts (.fieldLink RX2 22 "ExactFractions" "left" "LExactFractions$Whole;") (by decide +kernel)) (fun _ h9 => h9) rfl dX2_digit_39 ?_
          refine lv_aload hx hb dX2_digit_42 (lv_at hl 0 rfl) ?_
          refine lv_iload_n hx hb dX2_digit_44 rfl (lv_at hl 4 rfl) ?_
          refine lv_iload hx hb dX2_digit_45 (lv_at hl 5 rfl) ?_
          refine ef_callV (As := [.ref (q 9), .int (iv ((mu : Int))), .int (iv ((mo : Int)))]) (rest := []) ⟨hx, hb, hml, hown, hts⟩ (c_multiple l dC dI ht (isW_c (X := L) (ws := cC cI q (A1) (U1) (b1) (e1) (A2) (U2) (b2) (e2) (L) (R)) (k0 := 11) (k1 := 12) (by decide) rfl rfl) hL (wd_lt _) wd_z (isW_c (X := U2) (ws := cC cI q (A1) (U1) (b1) (e1) (A2) (U2) (b2) (e2) (L) (R)) (k0 := 9) (k1 := 10) (by decide) rfl rfl) (by omega) (apt_c (k0 := 11) (k1 := 12) (j0 := 9) (j1 := 10) rfl) mu mo hmu hmo) (cwV 3 hts gX2_digit_X1_becomeMultiple rfl rfl rfl (by decide +kernel) ⟨Nat.le_of_ble_eq_true rfl, Nat.le_of_ble_eq_true rfl⟩) hK hNX hP hD hS 11 rfl rfl rfl rfl hl.1 rfl (Nat.le_of_ble_eq_true rfl) dX2_digit_47 ⟨Nat.zero_le _, Nat.zero_le _⟩ (fun o w1 H locs hq hP hD hS => ?_)
          obtain ⟨rfl, rfl⟩ := hq
          have hP : va_P (dC, dI) vwCl (cC cI q (A1) (U1) (b1) (e1) (A2) (U2) (b2) (e2) (U2 * mu + mo) (R)) H := hP
          have hD : va_D (ef_A (cC cI q (A1) (U1) (b1) (e1) (A2) (U2) (b2) (e2) (L) (R))) (cC cI q (A1) (U1) (b1) (e1) (A2) (U2) (b2) (e2) (U2 * mu + mo) (R)) := hD
          refine W.eq (g2 := F0 m 50 ls []) rfl ?_
          refine lv_aload_n hx hb dX2_digit_50 rfl (lv_at hl 1 rfl) ?_
          refine lv_aload hx hb dX2_digit_51 (lv_at hl 0 rfl) ?_
          refine ef_callV (As := [.ref (q 9)]) (rest := []) ⟨hx, hb, hml, hown, hts⟩ (c_keep11K l dC dI ht q hA1 hU1 hA2 hU2 (by omega) hR hb4) (cwV 1 hts gX2_digit_X2_keepLeftIn rfl rfl rfl (by decide +kernel) ⟨Nat.le_of_ble_eq_true rfl, Nat.le_of_ble_eq_true rfl⟩) hK hNX hP hD hS 0 rfl rfl rfl rfl hl.1 rfl (Nat.le_of_ble_eq_true rfl) dX2_digit_53 ⟨Nat.zero_le _, Nat.zero_le _⟩ (fun o w1 H locs hq hP hD hS => ?_)
          obtain ⟨rfl, rfl⟩ := hq
          have hP : va_P (dC, dI) vwCl (cC cI q (A1) (U1) (b1) (e1) (A2) (U2 * mu + mo) (b2) (e2) (U2 * mu + mo) (R)) H := hP
          have hD : va_D (ef_A (cC cI q (A1) (U1) (b1) (e1) (A2) (U2) (b2) (e2) (L) (R))) (cC cI q (A1) (U1) (b1) (e1) (A2) (U2 * mu + mo) (b2) (e2) (U2 * mu + mo) (R)) := hD
          refine W.eq (g2 := F0 m 56 ls [.int (iv ((bl (U2 * mu + mo) : Int)))]) rfl ?_
          exact ef_iret hx hb hr hlocks hP hD hS dX2_digit_56 (⟨_, _, rfl, rfl, by omega, hR⟩)
        ·
          exact absurd c3 (by omega)

set_option maxRecDepth 100000 in
set_option maxHeartbeats 4000000 in
/-- digit refused -/
theorem c_digit00B (l : Launch) (dC : Nat → ClassId) (dI : Nat → Nat → Nat) {cI : ClassId} {tys : List (ClassId × FieldType)} (ht : tys[0]? = some (cI, .int)) (q : Nat → Nat) {A1 U1 A2 U2 L R : Nat} {b1 e1 b2 e2 : Int} (hA1 : wl A1 ≤ 150) (hU1 : wl U1 ≤ 150) (hA2 : wl A2 ≤ 150) (hU2 : wl U2 ≤ 150) (hL : wl L ≤ 301) (hR : wl R ≤ 301) (mu mo : Int) (hm : ir mu) (ho : ir mo) (hbad : mu < 1 ∨ 1000000 < mu ∨ mo < 0 ∨ 1000000 < mo) : ef_C l yX2_digit wsX2_digit ({ frames := 4, cells := 0, slots := 0, locals := 88 } : Room) [.ref (q 0), .int (iv (0)), .int (iv (0)), .int (iv (mu)), .int (iv (mo))] (dC, dI) vwCl tys (cC cI q (A1) (U1) (b1) (e1) (A2) (U2) (b2) (e2) (L) (R)) (fun o w1 => ∃ L2 R2 : Nat, o = some (.int (iv (-1))) ∧ w1 = cC cI q (A1) (U1) (b1) (e1) (A2) (U2) (b2) (e2) (L2) (R2) ∧ wl L2 ≤ 301 ∧ wl R2 ≤ 301) := by
  refine ef_C.of (cc := cX2_digit) (maxL := 6) (ret := (some .int)) (by decide) rfl (Nat.le_of_ble_eq_true rfl) ?_
  intro p e s m below meth c ls hx hb hml hr hts hown hlocks hK hNX hP hD hS hl
  have hl : lv_has ls 6 [(0, .ref (q 0)), (1, .int (iv (0))), (2, .int (iv (0))), (3, .int (iv (mu))), (4, .int (iv (mo)))] := hl
  have hown : s.vm.findClass RX2 = some m.cls := hown
  generalize hH : s.heap = H at hP ⊢
  have hS : va_S (ef_A (cC cI q (A1) (U1) (b1) (e1) (A2) (U2) (b2) (e2) (L) (R))) s.heap H [] := by rw [← hH]; exact hS
  generalize ([] : List Loc) = locs at hS ⊢
  refine lv_aload_n hx hb dX2_digit_0 rfl (lv_at hl 0 rfl) ?_
  refine lv_iload_n hx hb dX2_digit_1 rfl (lv_at hl 1 rfl) ?_
  refine lv_iload_n hx hb dX2_digit_2 rfl (lv_at hl 2 rfl) ?_
  refine ef_callV (As := [.int (iv (0)), .int (iv (0))]) (rest := []) ⟨hx, hb, hml, hown, hts⟩ (c_partOf00 l dC dI ht q) (cwV 2 hts gX2_digit_X2_partOf rfl rfl rfl (by decide +kernel) ⟨Nat.le_of_ble_eq_true rfl, Nat.le_of_ble_eq_true rfl⟩) hK hNX hP hD hS 0 rfl rfl rfl rfl hl.1 rfl (Nat.le_of_ble_eq_true rfl) dX2_digit_3 ⟨Nat.zero_le _, Nat.zero_le _⟩ (fun o w1 H locs hq hP hD hS => ?_)
  obtain ⟨rfl, e9⟩ := hq
  rw [e9] at hP hD
  refine W.eq (g2 := F0 m 6 ls [.ref (q 3)]) rfl ?_
  refine lv_astore (lv' := [(5, .ref (q 3)), (0, .ref (q 0)), (1, .int (iv (0))), (2, .int (iv (0))), (3, .int (iv (mu))), (4, .int (iv (mo)))]) hx hb dX2_digit_6 hl (by decide) rfl (fun ls hl => ?_)
  refine lv_aload hx hb dX2_digit_8 (lv_at hl 0 rfl) ?_
  refine lv_ifnull hx hb dX2_digit_10 ?_
  refine lv_iload_n hx hb dX2_digit_13 rfl (lv_at hl 4 rfl) ?_
  refine lv_iconst (v := iv (1)) hx hb dX2_digit_14 (by decide) ?_
  refine iw_icmp_lt (tgt := 36) hx hb dX2_digit_15 (by decide) (hm) ⟨by omega, by omega⟩ (fun c0 => ?_) (fun c0 => ?_)
  ·
    refine lv_iconst (v := iv (-1)) hx hb dX2_digit_36 (by decide) ?_
    exact ef_iret hx hb hr hlocks hP hD hS dX2_digit_37 (⟨_, _, rfl, rfl, hL, hR⟩)
  ·
    refine lv_iload_n hx hb dX2_digit_18 rfl (lv_at hl 4 rfl) ?_
    refine lv_ldc (v := iv (1000000)) hx hb hown (hts (.constant RX2 40 (iv (1000000))) (by decide +kernel)) dX2_digit_19 ?_
    refine iw_icmp_gt (tgt := 36) hx hb dX2_digit_21 (by decide) (hm) ⟨by omega, by omega⟩ (fun c1 => ?_) (fun c1 => ?_)
    ·
      refine lv_iconst (v := iv (-1)) hx hb dX2_digit_36 (by decide) ?_
      exact ef_iret hx hb hr hlocks hP hD hS dX2_digit_37 (⟨_, _, rfl, rfl, hL, hR⟩)
    ·
      refine lv_iload hx hb dX2_digit_24 (lv_at hl 5 rfl) ?_
      refine iw_if_lt (tgt := 36) hx hb dX2_digit_26 (by decide) (ho) (fun c2 => ?_) (fun c2 => ?_)
      ·
        refine lv_iconst (v := iv (-1)) hx hb dX2_digit_36 (by decide) ?_
        exact ef_iret hx hb hr hlocks hP hD hS dX2_digit_37 (⟨_, _, rfl, rfl, hL, hR⟩)
      ·
        refine lv_iload hx hb dX2_digit_29 (lv_at hl 5 rfl) ?_
        refine lv_ldc (v := iv (1000000)) hx hb hown (hts (.constant RX2 40 (iv (1000000))) (by decide +kernel)) dX2_digit_31 ?_
        refine iw_icmp_le (tgt := 38) hx hb dX2_digit_33 (by decide) (ho) ⟨by omega, by omega⟩ (fun c3 => ?_) (fun c3 => ?_)
        ·
          exact absurd hbad (by omega)
        ·
          refine lv_iconst (v := iv (-1)) hx hb dX2_digit_36 (by decide) ?_
          exact ef_iret hx hb hr hlocks hP hD hS dX2_digit_37 (⟨_, _, rfl, rfl, hL, hR⟩)

set_option maxRecDepth 100000 in
set_option maxHeartbeats 4000000 in
/-- digit refused -/
theorem c_digit01B (l : Launch) (dC : Nat → ClassId) (dI : Nat → Nat → Nat) {cI : ClassId} {tys : List (ClassId × FieldType)} (ht : tys[0]? = some (cI, .int)) (q : Nat → Nat) {A1 U1 A2 U2 L R : Nat} {b1 e1 b2 e2 : Int} (hA1 : wl A1 ≤ 150) (hU1 : wl U1 ≤ 150) (hA2 : wl A2 ≤ 150) (hU2 : wl U2 ≤ 150) (hL : wl L ≤ 301) (hR : wl R ≤ 301) (mu mo : Int) (hm : ir mu) (ho : ir mo) (hbad : mu < 1 ∨ 1000000 < mu ∨ mo < 0 ∨ 1000000 < mo) : ef_C l yX2_digit wsX2_digit ({ frames := 4, cells := 0, slots := 0, locals := 88 } : Room) [.ref (q 0), .int (iv (0)), .int (iv (1)), .int (iv (mu)), .int (iv (mo))] (dC, dI) vwCl tys (cC cI q (A1) (U1) (b1) (e1) (A2) (U2) (b2) (e2) (L) (R)) (fun o w1 => ∃ L2 R2 : Nat, o = some (.int (iv (-1))) ∧ w1 = cC cI q (A1) (U1) (b1) (e1) (A2) (U2) (b2) (e2) (L2) (R2) ∧ wl L2 ≤ 301 ∧ wl R2 ≤ 301) := by
  refine ef_C.of (cc := cX2_digit) (maxL := 6) (ret := (some .int)) (by decide) rfl (Nat.le_of_ble_eq_true rfl) ?_
  intro p e s m below meth c ls hx hb hml hr hts hown hlocks hK hNX hP hD hS hl
  have hl : lv_has ls 6 [(0, .ref (q 0)), (1, .int (iv (0))), (2, .int (iv (1))), (3, .int (iv (mu))), (4, .int (iv (mo)))] := hl
  have hown : s.vm.findClass RX2 = some m.cls := hown
  generalize hH : s.heap = H at hP ⊢
  have hS : va_S (ef_A (cC cI q (A1) (U1) (b1) (e1) (A2) (U2) (b2) (e2) (L) (R))) s.heap H [] := by rw [← hH]; exact hS
  generalize ([] : List Loc) = locs at hS ⊢
  refine lv_aload_n hx hb dX2_digit_0 rfl (lv_at hl 0 rfl) ?_
  refine lv_iload_n hx hb dX2_digit_1 rfl (lv_at hl 1 rfl) ?_
  refine lv_iload_n hx hb dX2_digit_2 rfl (lv_at hl 2 rfl) ?_
  refine ef_callV (As := [.int (iv (0)), .int (iv (1))]) (rest := []) ⟨hx, hb, hml, hown, hts⟩ (c_partOf01 l dC dI ht q) (cwV 2 hts gX2_digit_X2_partOf rfl rfl rfl (by decide +kernel) ⟨Nat.le_of_ble_eq_true rfl, Nat.le_of_ble_eq_true rfl⟩) hK hNX hP hD hS 0 rfl rfl rfl rfl hl.1 rfl (Nat.le_of_ble_eq_true rfl) dX2_digit_3 ⟨Nat.zero_le _, Nat.zero_le _⟩ (fun o w1 H locs hq hP hD hS => ?_)
  obtain ⟨rfl, e9⟩ := hq
  rw [e9] at hP hD
  refine W.eq (g2 := F0 m 6 ls [.ref (q 5)]) rfl ?_
  refine lv_astore (lv' := [(5, .ref (q 5)), (0, .ref (q 0)), (1, .int (iv (0))), (2, .int (iv (1))), (3, .int (iv (mu))), (4, .int (iv (mo)))]) hx hb dX2_digit_6 hl (by decide) rfl (fun ls hl => ?_)
  refine lv_aload hx hb dX2_digit_8 (lv_at hl 0 rfl) ?_
  refine lv_ifnull hx hb dX2_digit_10 ?_
  refine lv_iload_n hx hb dX2_digit_13 rfl (lv_at hl 4 rfl) ?_
  refine lv_iconst (v := iv (1)) hx hb dX2_digit_14 (by decide) ?_
  refine iw_icmp_lt (tgt := 36) hx hb dX2_digit_15 (by decide) (hm) ⟨by omega, by omega⟩ (fun c0 => ?_) (fun c0 => ?_)
  ·
    refine lv_iconst (v := iv (-1)) hx hb dX2_digit_36 (by decide) ?_
    exact ef_iret hx hb hr hlocks hP hD hS dX2_digit_37 (⟨_, _, rfl, rfl, hL, hR⟩)
  ·
    refine lv_iload_n hx hb dX2_digit_18 rfl (lv_at hl 4 rfl) ?_
    refine lv_ldc (v := iv (1000000)) hx hb hown (hts (.constant RX2 40 (iv (1000000))) (by decide +kernel)) dX2_digit_19 ?_
    refine iw_icmp_gt (tgt := 36) hx hb dX2_digit_21 (by decide) (hm) ⟨by omega, by omega⟩ (fun c1 => ?_) (fun c1 => ?_)
    ·
      refine lv_iconst (v := iv (-1)) hx hb dX2_digit_36 (by decide) ?_
      exact ef_iret hx hb hr hlocks hP hD hS dX2_digit_37 (⟨_, _, rfl, rfl, hL, hR⟩)
    ·
      refine lv_iload hx hb dX2_digit_24 (lv_at hl 5 rfl) ?_
      refine iw_if_lt (tgt := 36) hx hb dX2_digit_26 (by decide) (ho) (fun c2 => ?_) (fun c2 => ?_)
      ·
        refine lv_iconst (v := iv (-1)) hx hb dX2_digit_36 (by decide) ?_
        exact ef_iret hx hb hr hlocks hP hD hS dX2_digit_37 (⟨_, _, rfl, rfl, hL, hR⟩)
      ·
        refine lv_iload hx hb dX2_digit_29 (lv_at hl 5 rfl) ?_
        refine lv_ldc (v := iv (1000000)) hx hb hown (hts (.constant RX2 40 (iv (1000000))) (by decide +kernel)) dX2_digit_31 ?_
        refine iw_icmp_le (tgt := 38) hx hb dX2_digit_33 (by decide) (ho) ⟨by omega, by omega⟩ (fun c3 => ?_) (fun c3 => ?_)
        ·
          exact absurd hbad (by omega)
        ·
          refine lv_iconst (v := iv (-1)) hx hb dX2_digit_36 (by decide) ?_
          exact ef_iret hx hb hr hlocks hP hD hS dX2_digit_37 (⟨_, _, rfl, rfl, hL, hR⟩)

set_option maxRecDepth 100000 in
set_option maxHeartbeats 4000000 in
/-- digit refused -/
theorem c_digit10B (l : Launch) (dC : Nat → ClassId) (dI : Nat → Nat → Nat) {cI : ClassId} {tys : List (ClassId × FieldType)} (ht : tys[0]? = some (cI, .int)) (q : Nat → Nat) {A1 U1 A2 U2 L R : Nat} {b1 e1 b2 e2 : Int} (hA1 : wl A1 ≤ 150) (hU1 : wl U1 ≤ 150) (hA2 : wl A2 ≤ 150) (hU2 : wl U2 ≤ 150) (hL : wl L ≤ 301) (hR : wl R ≤ 301) (mu mo : Int) (hm : ir mu) (ho : ir mo) (hbad : mu < 1 ∨ 1000000 < mu ∨ mo < 0 ∨ 1000000 < mo) : ef_C l yX2_digit wsX2_digit ({ frames := 4, cells := 0, slots := 0, locals := 88 } : Room) [.ref (q 0), .int (iv (1)), .int (iv (0)), .int (iv (mu)), .int (iv (mo))] (dC, dI) vwCl tys (cC cI q (A1) (U1) (b1) (e1) (A2) (U2) (b2) (e2) (L) (R)) (fun o w1 => ∃ L2 R2 : Nat, o = some (.int (iv (-1))) ∧ w1 = cC cI q (A1) (U1) (b1) (e1) (A2) (U2) (b2) (e2) (L2) (R2) ∧ wl L2 ≤ 301 ∧ wl R2 ≤ 301) := by
  refine ef_C.of (cc := cX2_digit) (maxL := 6) (ret := (some .int)) (by decide) rfl (Nat.le_of_ble_eq_true rfl) ?_
  intro p e s m below meth c ls hx hb hml hr hts hown hlocks hK hNX hP hD hS hl
  have hl : lv_has ls 6 [(0, .ref (q 0)), (1, .int (iv (1))), (2, .int (iv (0))), (3, .int (iv (mu))), (4, .int (iv (mo)))] := hl
  have hown : s.vm.findClass RX2 = some m.cls := hown
  generalize hH : s.heap = H at hP ⊢
  have hS : va_S (ef_A (cC cI q (A1) (U1) (b1) (e1) (A2) (U2) (b2) (e2) (L) (R))) s.heap H [] := by rw [← hH]; exact hS
  generalize ([] : List Loc) = locs at hS ⊢
  refine lv_aload_n hx hb dX2_digit_0 rfl (lv_at hl 0 rfl) ?_
  refine lv_iload_n hx hb dX2_digit_1 rfl (lv_at hl 1 rfl) ?_
  refine lv_iload_n hx hb dX2_digit_2 rfl (lv_at hl 2 rfl) ?_
  refine ef_callV (As := [.int (iv (1)), .int (iv (0))]) (rest := []) ⟨hx, hb, hml, hown, hts⟩ (c_partOf10 l dC dI ht q) (cwV 2 hts gX2_digit_X2_partOf rfl rfl rfl (by decide +kernel) ⟨Nat.le_of_ble_eq_true rfl, Nat.le_of_ble_eq_true rfl⟩) hK hNX hP hD hS 0 rfl rfl rfl rfl hl.1 rfl (Nat.le_of_ble_eq_true rfl) dX2_digit_3 ⟨Nat.zero_le _, Nat.zero_le _⟩ (fun o w1 H locs hq hP hD hS => ?_)
  obtain ⟨rfl, e9⟩ := hq
  rw [e9] at hP hD
  refine W.eq (g2 := F0 m 6 ls [.ref (q 7)]) rfl ?_
  refine lv_astore (lv' := [(5, .ref (q 7)), (0, .ref (q 0)), (1, .int (iv (1))), (2, .int (iv (0))), (3, .int (iv (mu))), (4, .int (iv (mo)))]) hx hb dX2_digit_6 hl (by decide) rfl (fun ls hl => ?_)
  refine lv_aload hx hb dX2_digit_8 (lv_at hl 0 rfl) ?_
  refine lv_ifnull hx hb dX2_digit_10 ?_
  refine lv_iload_n hx hb dX2_digit_13 rfl (lv_at hl 4 rfl) ?_
  refine lv_iconst (v := iv (1)) hx hb dX2_digit_14 (by decide) ?_
  refine iw_icmp_lt (tgt := 36) hx hb dX2_digit_15 (by decide) (hm) ⟨by omega, by omega⟩ (fun c0 => ?_) (fun c0 => ?_)
  ·
    refine lv_iconst (v := iv (-1)) hx hb dX2_digit_36 (by decide) ?_
    exact ef_iret hx hb hr hlocks hP hD hS dX2_digit_37 (⟨_, _, rfl, rfl, hL, hR⟩)
  ·
    refine lv_iload_n hx hb dX2_digit_18 rfl (lv_at hl 4 rfl) ?_
    refine lv_ldc (v := iv (1000000)) hx hb hown (hts (.constant RX2 40 (iv (1000000))) (by decide +kernel)) dX2_digit_19 ?_
    refine iw_icmp_gt (tgt := 36) hx hb dX2_digit_21 (by decide) (hm) ⟨by omega, by omega⟩ (fun c1 => ?_) (fun c1 => ?_)
    ·
      refine lv_iconst (v := iv (-1)) hx hb dX2_digit_36 (by decide) ?_
      exact ef_iret hx hb hr hlocks hP hD hS dX2_digit_37 (⟨_, _, rfl, rfl, hL, hR⟩)
    ·
      refine lv_iload hx hb dX2_digit_24 (lv_at hl 5 rfl) ?_
      refine iw_if_lt (tgt := 36) hx hb dX2_digit_26 (by decide) (ho) (fun c2 => ?_) (fun c2 => ?_)
      ·
        refine lv_iconst (v := iv (-1)) hx hb dX2_digit_36 (by decide) ?_
        exact ef_iret hx hb hr hlocks hP hD hS dX2_digit_37 (⟨_, _, rfl, rfl, hL, hR⟩)
      ·
        refine lv_iload hx hb dX2_digit_29 (lv_at hl 5 rfl) ?_
        refine lv_ldc (v := iv (1000000)) hx hb hown (hts (.constant RX2 40 (iv (1000000))) (by decide +kernel)) dX2_digit_31 ?_
        refine iw_icmp_le (tgt := 38) hx hb dX2_digit_33 (by decide) (ho) ⟨by omega, by omega⟩ (fun c3 => ?_) (fun c3 => ?_)
        ·
          exact absurd hbad (by omega)
        ·
          refine lv_iconst (v := iv (-1)) hx hb dX2_digit_36 (by decide) ?_
          exact ef_iret hx hb hr hlocks hP hD hS dX2_digit_37 (⟨_, _, rfl, rfl, hL, hR⟩)

set_option maxRecDepth 100000 in
set_option maxHeartbeats 4000000 in
/-- digit refused -/
theorem c_digit11B (l : Launch) (dC : Nat → ClassId) (dI : Nat → Nat → Nat) {cI : ClassId} {tys : List (ClassId × FieldType)} (ht : tys[0]? = some (cI, .int)) (q : Nat → Nat) {A1 U1 A2 U2 L R : Nat} {b1 e1 b2 e2 : Int} (hA1 : wl A1 ≤ 150) (hU1 : wl U1 ≤ 150) (hA2 : wl A2 ≤ 150) (hU2 : wl U2 ≤ 150) (hL : wl L ≤ 301) (hR : wl R ≤ 301) (mu mo : Int) (hm : ir mu) (ho : ir mo) (hbad : mu < 1 ∨ 1000000 < mu ∨ mo < 0 ∨ 1000000 < mo) : ef_C l yX2_digit wsX2_digit ({ frames := 4, cells := 0, slots := 0, locals := 88 } : Room) [.ref (q 0), .int (iv (1)), .int (iv (1)), .int (iv (mu)), .int (iv (mo))] (dC, dI) vwCl tys (cC cI q (A1) (U1) (b1) (e1) (A2) (U2) (b2) (e2) (L) (R)) (fun o w1 => ∃ L2 R2 : Nat, o = some (.int (iv (-1))) ∧ w1 = cC cI q (A1) (U1) (b1) (e1) (A2) (U2) (b2) (e2) (L2) (R2) ∧ wl L2 ≤ 301 ∧ wl R2 ≤ 301) := by
  refine ef_C.of (cc := cX2_digit) (maxL := 6) (ret := (some .int)) (by decide) rfl (Nat.le_of_ble_eq_true rfl) ?_
  intro p e s m below meth c ls hx hb hml hr hts hown hlocks hK hNX hP hD hS hl
  have hl : lv_has ls 6 [(0, .ref (q 0)), (1, .int (iv (1))), (2, .int (iv (1))), (3, .int (iv (mu))), (4, .int (iv (mo)))] := hl
  have hown : s.vm.findClass RX2 = some m.cls := hown
  generalize hH : s.heap = H at hP ⊢
  have hS : va_S (ef_A (cC cI q (A1) (U1) (b1) (e1) (A2) (U2) (b2) (e2) (L) (R))) s.heap H [] := by rw [← hH]; exact hS
  generalize ([] : List Loc) = locs at hS ⊢
  refine lv_aload_n hx hb dX2_digit_0 rfl (lv_at hl 0 rfl) ?_
  refine lv_iload_n hx hb dX2_digit_1 rfl (lv_at hl 1 rfl) ?_
  refine lv_iload_n hx hb dX2_digit_2 rfl (lv_at hl 2 rfl) ?_
  refine ef_callV (As := [.int (iv (1)), .int (iv (1))]) (rest := []) ⟨hx, hb, hml, hown, hts⟩ (c_partOf11 l dC dI ht q) (cwV 2 hts gX2_digit_X2_partOf rfl rfl rfl (by decide +kernel) ⟨Nat.le_of_ble_eq_true rfl, Nat.le_of_ble_eq_true rfl⟩) hK hNX hP hD hS 0 rfl rfl rfl rfl hl.1 rfl (Nat.le_of_ble_eq_true rfl) dX2_digit_3 ⟨Nat.zero_le _, Nat.zero_le _⟩ (fun o w1 H locs hq hP hD hS => ?_)
  obtain ⟨rfl, e9⟩ := hq
  rw [e9] at hP hD
  refine W.eq (g2 := F0 m 6 ls [.ref (q 9)]) rfl ?_
  refine lv_astore (lv' := [(5, .ref (q 9)), (0, .ref (q 0)), (1, .int (iv (1))), (2, .int (iv (1))), (3, .int (iv (mu))), (4, .int (iv (mo)))]) hx hb dX2_digit_6 hl (by decide) rfl (fun ls hl => ?_)
  refine lv_aload hx hb dX2_digit_8 (lv_at hl 0 rfl) ?_
  refine lv_ifnull hx hb dX2_digit_10 ?_
  refine lv_iload_n hx hb dX2_digit_13 rfl (lv_at hl 4 rfl) ?_
  refine lv_iconst (v := iv (1)) hx hb dX2_digit_14 (by decide) ?_
  refine iw_icmp_lt (tgt := 36) hx hb dX2_digit_15 (by decide) (hm) ⟨by omega, by omega⟩ (fun c0 => ?_) (fun c0 => ?_)
  ·
    refine lv_iconst (v := iv (-1)) hx hb dX2_digit_36 (by decide) ?_
    exact ef_iret hx hb hr hlocks hP hD hS dX2_digit_37 (⟨_, _, rfl, rfl, hL, hR⟩)
  ·
    refine lv_iload_n hx hb dX2_digit_18 rfl (lv_at hl 4 rfl) ?_
    refine lv_ldc (v := iv (1000000)) hx hb hown (hts (.constant RX2 40 (iv (1000000))) (by decide +kernel)) dX2_digit_19 ?_
    refine iw_icmp_gt (tgt := 36) hx hb dX2_digit_21 (by decide) (hm) ⟨by omega, by omega⟩ (fun c1 => ?_) (fun c1 => ?_)
    ·
      refine lv_iconst (v := iv (-1)) hx hb dX2_digit_36 (by decide) ?_
      exact ef_iret hx hb hr hlocks hP hD hS dX2_digit_37 (⟨_, _, rfl, rfl, hL, hR⟩)
    ·
      refine lv_iload hx hb dX2_digit_24 (lv_at hl 5 rfl) ?_
      refine iw_if_lt (tgt := 36) hx hb dX2_digit_26 (by decide) (ho) (fun c2 => ?_) (fun c2 => ?_)
      ·
        refine lv_iconst (v := iv (-1)) hx hb dX2_digit_36 (by decide) ?_
        exact ef_iret hx hb hr hlocks hP hD hS dX2_digit_37 (⟨_, _, rfl, rfl, hL, hR⟩)
      ·
        refine lv_iload hx hb dX2_digit_29 (lv_at hl 5 rfl) ?_
        refine lv_ldc (v := iv (1000000)) hx hb hown (hts (.constant RX2 40 (iv (1000000))) (by decide +kernel)) dX2_digit_31 ?_
        refine iw_icmp_le (tgt := 38) hx hb dX2_digit_33 (by decide) (ho) ⟨by omega, by omega⟩ (fun c3 => ?_) (fun c3 => ?_)
        ·
          exact absurd hbad (by omega)
        ·
          refine lv_iconst (v := iv (-1)) hx hb dX2_digit_36 (by decide) ?_
          exact ef_iret hx hb hr hlocks hP hD hS dX2_digit_37 (⟨_, _, rfl, rfl, hL, hR⟩)

set_option maxRecDepth 100000 in
set_option maxHeartbeats 4000000 in
/-- digit of no part -/
theorem c_digit0x (l : Launch) (dC : Nat → ClassId) (dI : Nat → Nat → Nat) {cI : ClassId} {tys : List (ClassId × FieldType)} (ht : tys[0]? = some (cI, .int)) (q : Nat → Nat) {A1 U1 A2 U2 L R : Nat} {b1 e1 b2 e2 : Int} (hA1 : wl A1 ≤ 150) (hU1 : wl U1 ≤ 150) (hA2 : wl A2 ≤ 150) (hU2 : wl U2 ≤ 150) (hL : wl L ≤ 301) (hR : wl R ≤ 301) (mu mo : Int) (z : Int) (hz : ir z) (hz0 : z ≠ 0) (hz1 : z ≠ 1) : ef_C l yX2_digit wsX2_digit ({ frames := 4, cells := 0, slots := 0, locals := 88 } : Room) [.ref (q 0), .int (iv (0)), .int (iv (z)), .int (iv (mu)), .int (iv (mo))] (dC, dI) vwCl tys (cC cI q (A1) (U1) (b1) (e1) (A2) (U2) (b2) (e2) (L) (R)) (fun o w1 => ∃ L2 R2 : Nat, o = some (.int (iv (-1))) ∧ w1 = cC cI q (A1) (U1) (b1) (e1) (A2) (U2) (b2) (e2) (L2) (R2) ∧ wl L2 ≤ 301 ∧ wl R2 ≤ 301) := by
  refine ef_C.of (cc := cX2_digit) (maxL := 6) (ret := (some .int)) (by decide) rfl (Nat.le_of_ble_eq_true rfl) ?_
  intro p e s m below meth c ls hx hb hml hr hts hown hlocks hK hNX hP hD hS hl
  have hl : lv_has ls 6 [(0, .ref (q 0)), (1, .int (iv (0))), (2, .int (iv (z))), (3, .int (iv (mu))), (4, .int (iv (mo)))] := hl
  have hown : s.vm.findClass RX2 = some m.cls := hown
  generalize hH : s.heap = H at hP ⊢
  have hS : va_S (ef_A (cC cI q (A1) (U1) (b1) (e1) (A2) (U2) (b2) (e2) (L) (R))) s.heap H [] := by rw [← hH]; exact hS
  generalize ([] : List Loc) = locs at hS ⊢
  refine lv_aload_n hx hb dX2_digit_0 rfl (lv_at hl 0 rfl) ?_
  refine lv_iload_n hx hb dX2_digit_1 rfl (lv_at hl 1 rfl) ?_
  refine lv_iload_n hx hb dX2_digit_2 rfl (lv_at hl 2 rfl) ?_
  refine ef_callV (As := [.int (iv (0)), .int (iv (z))]) (rest := []) ⟨hx, hb, hml, hown, hts⟩ (c_partOf0x l dC dI ht q z hz hz0 hz1) (cwV 2 hts gX2_digit_X2_partOf rfl rfl rfl (by decide +kernel) ⟨Nat.le_of_ble_eq_true rfl, Nat.le_of_ble_eq_true rfl⟩) hK hNX hP hD hS 0 rfl rfl rfl rfl hl.1 rfl (Nat.le_of_ble_eq_true rfl) dX2_digit_3 ⟨Nat.zero_le _, Nat.zero_le _⟩ (fun o w1 H locs hq hP hD hS => ?_)
  obtain ⟨rfl, e9⟩ := hq
  rw [e9] at hP hD
  refine W.eq (g2 := F0 m 6 ls [.null]) rfl ?_
  refine lv_astoreN (lv' := [(5, .null), (0, .ref (q 0)), (1, .int (iv (0))), (2, .int (iv (z))), (3, .int (iv (mu))), (4, .int (iv (mo)))]) hx hb dX2_digit_6 hl (by decide) rfl (fun ls hl => ?_)
  refine lv_aloadN hx hb dX2_digit_8 (lv_at hl 0 rfl) ?_
  refine lv_ifnullN (tgt := 36) hx hb dX2_digit_10 (by decide) ?_
  refine lv_iconst (v := iv (-1)) hx hb dX2_digit_36 (by decide) ?_
  exact ef_iret hx hb hr hlocks hP hD hS dX2_digit_37 (⟨_, _, rfl, rfl, hL, hR⟩)

set_option maxRecDepth 100000 in
set_option maxHeartbeats 4000000 in
/-- digit of no part -/
theorem c_digit1x (l : Launch) (dC : Nat → ClassId) (dI : Nat → Nat → Nat) {cI : ClassId} {tys : List (ClassId × FieldType)} (ht : tys[0]? = some (cI, .int)) (q : Nat → Nat) {A1 U1 A2 U2 L R : Nat} {b1 e1 b2 e2 : Int} (hA1 : wl A1 ≤ 150) (hU1 : wl U1 ≤ 150) (hA2 : wl A2 ≤ 150) (hU2 : wl U2 ≤ 150) (hL : wl L ≤ 301) (hR : wl R ≤ 301) (mu mo : Int) (z : Int) (hz : ir z) (hz0 : z ≠ 0) (hz1 : z ≠ 1) : ef_C l yX2_digit wsX2_digit ({ frames := 4, cells := 0, slots := 0, locals := 88 } : Room) [.ref (q 0), .int (iv (1)), .int (iv (z)), .int (iv (mu)), .int (iv (mo))] (dC, dI) vwCl tys (cC cI q (A1) (U1) (b1) (e1) (A2) (U2) (b2) (e2) (L) (R)) (fun o w1 => ∃ L2 R2 : Nat, o = some (.int (iv (-1))) ∧ w1 = cC cI q (A1) (U1) (b1) (e1) (A2) (U2) (b2) (e2) (L2) (R2) ∧ wl L2 ≤ 301 ∧ wl R2 ≤ 301) := by
  refine ef_C.of (cc := cX2_digit) (maxL := 6) (ret := (some .int)) (by decide) rfl (Nat.le_of_ble_eq_true rfl) ?_
  intro p e s m below meth c ls hx hb hml hr hts hown hlocks hK hNX hP hD hS hl
  have hl : lv_has ls 6 [(0, .ref (q 0)), (1, .int (iv (1))), (2, .int (iv (z))), (3, .int (iv (mu))), (4, .int (iv (mo)))] := hl
  have hown : s.vm.findClass RX2 = some m.cls := hown
  generalize hH : s.heap = H at hP ⊢
  have hS : va_S (ef_A (cC cI q (A1) (U1) (b1) (e1) (A2) (U2) (b2) (e2) (L) (R))) s.heap H [] := by rw [← hH]; exact hS
  generalize ([] : List Loc) = locs at hS ⊢
  refine lv_aload_n hx hb dX2_digit_0 rfl (lv_at hl 0 rfl) ?_
  refine lv_iload_n hx hb dX2_digit_1 rfl (lv_at hl 1 rfl) ?_
  refine lv_iload_n hx hb dX2_digit_2 rfl (lv_at hl 2 rfl) ?_
  refine ef_callV (As := [.int (iv (1)), .int (iv (z))]) (rest := []) ⟨hx, hb, hml, hown, hts⟩ (c_partOf1x l dC dI ht q z hz hz0 hz1) (cwV 2 hts gX2_digit_X2_partOf rfl rfl rfl (by decide +kernel) ⟨Nat.le_of_ble_eq_true rfl, Nat.le_of_ble_eq_true rfl⟩) hK hNX hP hD hS 0 rfl rfl rfl rfl hl.1 rfl (Nat.le_of_ble_eq_true rfl) dX2_digit_3 ⟨Nat.zero_le _, Nat.zero_le _⟩ (fun o w1 H locs hq hP hD hS => ?_)
  obtain ⟨rfl, e9⟩ := hq
  rw [e9] at hP hD
  refine W.eq (g2 := F0 m 6 ls [.null]) rfl ?_
  refine lv_astoreN (lv' := [(5, .null), (0, .ref (q 0)), (1, .int (iv (1))), (2, .int (iv (z))), (3, .int (iv (mu))), (4, .int (iv (mo)))]) hx hb dX2_digit_6 hl (by decide) rfl (fun ls hl => ?_)
  refine lv_aloadN hx hb dX2_digit_8 (lv_at hl 0 rfl) ?_
  refine lv_ifnullN (tgt := 36) hx hb dX2_digit_10 (by decide) ?_
  refine lv_iconst (v := iv (-1)) hx hb dX2_digit_36 (by decide) ?_
  exact ef_iret hx hb hr hlocks hP hD hS dX2_digit_37 (⟨_, _, rfl, rfl, hL, hR⟩)

set_option maxRecDepth 100000 in
set_option maxHeartbeats 4000000 in
/-- digit of no part -/
theorem c_digitxx (l : Launch) (dC : Nat → ClassId) (dI : Nat → Nat → Nat) {cI : ClassId} {tys : List (ClassId × FieldType)} (ht : tys[0]? = some (cI, .int)) (q : Nat → Nat) {A1 U1 A2 U2 L R : Nat} {b1 e1 b2 e2 : Int} (hA1 : wl A1 ≤ 150) (hU1 : wl U1 ≤ 150) (hA2 : wl A2 ≤ 150) (hU2 : wl U2 ≤ 150) (hL : wl L ≤ 301) (hR : wl R ≤ 301) (mu mo : Int) (z y : Int) (hz : ir z) (hz0 : z ≠ 0) (hz1 : z ≠ 1) : ef_C l yX2_digit wsX2_digit ({ frames := 4, cells := 0, slots := 0, locals := 88 } : Room) [.ref (q 0), .int (iv (z)), .int (iv (y)), .int (iv (mu)), .int (iv (mo))] (dC, dI) vwCl tys (cC cI q (A1) (U1) (b1) (e1) (A2) (U2) (b2) (e2) (L) (R)) (fun o w1 => ∃ L2 R2 : Nat, o = some (.int (iv (-1))) ∧ w1 = cC cI q (A1) (U1) (b1) (e1) (A2) (U2) (b2) (e2) (L2) (R2) ∧ wl L2 ≤ 301 ∧ wl R2 ≤ 301) := by
  refine ef_C.of (cc := cX2_digit) (maxL := 6) (ret := (some .int)) (by decide) rfl (Nat.le_of_ble_eq_true rfl) ?_
  intro p e s m below meth c ls hx hb hml hr hts hown hlocks hK hNX hP hD hS hl
  have hl : lv_has ls 6 [(0, .ref (q 0)), (1, .int (iv (z))), (2, .int (iv (y))), (3, .int (iv (mu))), (4, .int (iv (mo)))] := hl
  have hown : s.vm.findClass RX2 = some m.cls := hown
  generalize hH : s.heap = H at hP ⊢
  have hS : va_S (ef_A (cC cI q (A1) (U1) (b1) (e1) (A2) (U2) (b2) (e2) (L) (R))) s.heap H [] := by rw [← hH]; exact hS
  generalize ([] : List Loc) = locs at hS ⊢
  refine lv_aload_n hx hb dX2_digit_0 rfl (lv_at hl 0 rfl) ?_
  refine lv_iload_n hx hb dX2_digit_1 rfl (lv_at hl 1 rfl) ?_
  refine lv_iload_n hx hb dX2_digit_2 rfl (lv_at hl 2 rfl) ?_
  refine ef_callV (As := [.int (iv (z)), .int (iv (y))]) (rest := []) ⟨hx, hb, hml, hown, hts⟩ (c_partOfxx l dC dI ht q z y hz hz0 hz1) (cwV 2 hts gX2_digit_X2_partOf rfl rfl rfl (by decide +kernel) ⟨Nat.le_of_ble_eq_true rfl, Nat.le_of_ble_eq_true rfl⟩) hK hNX hP hD hS 0 rfl rfl rfl rfl hl.1 rfl (Nat.le_of_ble_eq_true rfl) dX2_digit_3 ⟨Nat.zero_le _, Nat.zero_le _⟩ (fun o w1 H locs hq hP hD hS => ?_)
  obtain ⟨rfl, e9⟩ := hq
  rw [e9] at hP hD
  refine W.eq (g2 := F0 m 6 ls [.null]) rfl ?_
  refine lv_astoreN (lv' := [(5, .null), (0, .ref (q 0)), (1, .int (iv (z))), (2, .int (iv (y))), (3, .int (iv (mu))), (4, .int (iv (mo)))]) hx hb dX2_digit_6 hl (by decide) rfl (fun ls hl => ?_)
  refine lv_aloadN hx hb dX2_digit_8 (lv_at hl 0 rfl) ?_
  refine lv_ifnullN (tgt := 36) hx hb dX2_digit_10 (by decide) ?_
  refine lv_iconst (v := iv (-1)) hx hb dX2_digit_36 (by decide) ?_
  exact ef_iret hx hb hr hlocks hP hD hS dX2_digit_37 (⟨_, _, rfl, rfl, hL, hR⟩)

set_option maxRecDepth 100000 in
set_option maxHeartbeats 4000000 in
/-- bits -/
theorem c_bits00 (l : Launch) (dC : Nat → ClassId) (dI : Nat → Nat → Nat) {cI : ClassId} {tys : List (ClassId × FieldType)} (ht : tys[0]? = some (cI, .int)) (q : Nat → Nat) {A1 U1 A2 U2 L R : Nat} {b1 e1 b2 e2 : Int} (hA1 : wl A1 ≤ 150) (hU1 : wl U1 ≤ 150) (hA2 : wl A2 ≤ 150) (hU2 : wl U2 ≤ 150) (hL : wl L ≤ 301) (hR : wl R ≤ 301) : ef_C l yX2_bits wsX2_bits ({ frames := 2, cells := 0, slots := 0, locals := 44 } : Room) [.ref (q 0), .int (iv (0)), .int (iv (0))] (dC, dI) vwCl tys (cC cI q (A1) (U1) (b1) (e1) (A2) (U2) (b2) (e2) (L) (R)) (fun o w1 => ∃ L2 R2 : Nat, o = some (.int (iv (bl A1 : Int))) ∧ w1 = cC cI q (A1) (U1) (b1) (e1) (A2) (U2) (b2) (e2) (L2) (R2) ∧ wl L2 ≤ 301 ∧ wl R2 ≤ 301) := by
  refine ef_C.of (cc := cX2_bits) (maxL := 4) (ret := (some .int)) (by decide) rfl (Nat.le_of_ble_eq_true rfl) ?_
  intro p e s m below meth c ls hx hb hml hr hts hown hlocks hK hNX hP hD hS hl
  have hl : lv_has ls 4 [(0, .ref (q 0)), (1, .int (iv (0))), (2, .int (iv (0)))] := hl
  have hown : s.vm.findClass RX2 = some m.cls := hown
  generalize hH : s.heap = H at hP ⊢
  have hS : va_S (ef_A (cC cI q (A1) (U1) (b1) (e1) (A2) (U2) (b2) (e2) (L) (R))) s.heap H [] := by rw [← hH]; exact hS
  generalize ([] : List Loc) = locs at hS ⊢
  refine lv_aload_n hx hb dX2_bits_0 rfl (lv_at hl 0 rfl) ?_
  refine lv_iload_n hx hb dX2_bits_1 rfl (lv_at hl 1 rfl) ?_
  refine lv_iload_n hx hb dX2_bits_2 rfl (lv_at hl 2 rfl) ?_
  refine ef_callV (As := [.int (iv (0)), .int (iv (0))]) (rest := []) ⟨hx, hb, hml, hown, hts⟩ (c_partOf00 l dC dI ht q) (cwV 2 hts gX2_bits_X2_partOf rfl rfl rfl (by decide +kernel) ⟨Nat.le_of_ble_eq_true rfl, Nat.le_of_ble_eq_true rfl⟩) hK hNX hP hD hS 0 rfl rfl rfl rfl hl.1 rfl (Nat.le_of_ble_eq_true rfl) dX2_bits_3 ⟨Nat.zero_le _, Nat.zero_le _⟩ (fun o w1 H locs hq hP hD hS => ?_)
  obtain ⟨rfl, e9⟩ := hq
  rw [e9] at hP hD
  refine W.eq (g2 := F0 m 6 ls [.ref (q 3)]) rfl ?_
  refine lv_astore_n (lv' := [(3, .ref (q 3)), (0, .ref (q 0)), (1, .int (iv (0))), (2, .int (iv (0)))]) hx hb dX2_bits_6 rfl hl (by decide) rfl (fun ls hl => ?_)
  refine lv_aload_n hx hb dX2_bits_7 rfl (lv_at hl 0 rfl) ?_
  refine lv_ifnonnull (tgt := 15) hx hb dX2_bits_8 (by decide) ?_
  refine lv_aload_n hx hb dX2_bits_15 rfl (lv_at hl 0 rfl) ?_
  refine ef_callV (As := []) (rest := []) ⟨hx, hb, hml, hown, hts⟩ (c_length l dC dI ht (isW_c (X := A1) (ws := cC cI q (A1) (U1) (b1) (e1) (A2) (U2) (b2) (e2) (L) (R)) (k0 := 3) (k1 := 4) (by decide) rfl rfl) (by omega)) (cwV 0 hts gX2_bits_X1_length rfl rfl rfl (by decide +kernel) ⟨Nat.le_of_ble_eq_true rfl, Nat.le_of_ble_eq_true rfl⟩) hK hNX hP hD hS 3 rfl rfl rfl rfl hl.1 rfl (Nat.le_of_ble_eq_true rfl) dX2_bits_16 ⟨Nat.zero_le _, Nat.zero_le _⟩ (fun o w1 H locs hq hP hD hS => ?_)
  obtain ⟨rfl, e9⟩ := hq
  rw [e9] at hP hD
  refine W.eq (g2 := F0 m 19 ls [.int (iv ((bl A1 : Int)))]) rfl ?_
  exact ef_iret hx hb hr hlocks hP hD hS dX2_bits_19 (⟨_, _, rfl, rfl, hL, hR⟩)

set_option maxRecDepth 100000 in
set_option maxHeartbeats 4000000 in
/-- bits -/
theorem c_bits01 (l : Launch) (dC : Nat → ClassId) (dI : Nat → Nat → Nat) {cI : ClassId} {tys : List (ClassId × FieldType)} (ht : tys[0]? = some (cI, .int)) (q : Nat → Nat) {A1 U1 A2 U2 L R : Nat} {b1 e1 b2 e2 : Int} (hA1 : wl A1 ≤ 150) (hU1 : wl U1 ≤ 150) (hA2 : wl A2 ≤ 150) (hU2 : wl U2 ≤ 150) (hL : wl L ≤ 301) (hR : wl R ≤ 301) : ef_C l yX2_bits wsX2_bits ({ frames := 2, cells := 0, slots := 0, locals := 44 } : Room) [.ref (q 0), .int (iv (0)), .int (iv (1))] (dC, dI) vwCl tys (cC cI q (A1) (U1) (b1) (e1) (A2) (U2) (b2) (e2) (L) (R)) (fun o w1 => ∃ L2 R2 : Nat, o = some (.int (iv (bl U1 : Int))) ∧ w1 = cC cI q (A1) (U1) (b1) (e1) (A2) (U2) (b2) (e2) (L2) (R2) ∧ wl L2 ≤ 301 ∧ wl R2 ≤ 301) := by
  refine ef_C.of (cc := cX2_bits) (maxL := 4) (ret := (some .int)) (by decide) rfl (Nat.le_of_ble_eq_true rfl) ?_
  intro p e s m below meth c ls hx hb hml hr hts hown hlocks hK hNX hP hD hS hl
  have hl : lv_has ls 4 [(0, .ref (q 0)), (1, .int (iv (0))), (2, .int (iv (1)))] := hl
  have hown : s.vm.findClass RX2 = some m.cls := hown
  generalize hH : s.heap = H at hP ⊢
  have hS : va_S (ef_A (cC cI q (A1) (U1) (b1) (e1) (A2) (U2) (b2) (e2) (L) (R))) s.heap H [] := by rw [← hH]; exact hS
  generalize ([] : List Loc) = locs at hS ⊢
  refine lv_aload_n hx hb dX2_bits_0 rfl (lv_at hl 0 rfl) ?_
  refine lv_iload_n hx hb dX2_bits_1 rfl (lv_at hl 1 rfl) ?_
  refine lv_iload_n hx hb dX2_bits_2 rfl (lv_at hl 2 rfl) ?_
  refine ef_callV (As := [.int (iv (0)), .int (iv (1))]) (rest := []) ⟨hx, hb, hml, hown, hts⟩ (c_partOf01 l dC dI ht q) (cwV 2 hts gX2_bits_X2_partOf rfl rfl rfl (by decide +kernel) ⟨Nat.le_of_ble_eq_true rfl, Nat.le_of_ble_eq_true rfl⟩) hK hNX hP hD hS 0 rfl rfl rfl rfl hl.1 rfl (Nat.le_of_ble_eq_true rfl) dX2_bits_3 ⟨Nat.zero_le _, Nat.zero_le _⟩ (fun o w1 H locs hq hP hD hS => ?_)
  obtain ⟨rfl, e9⟩ := hq
  rw [e9] at hP hD
  refine W.eq (g2 := F0 m 6 ls [.ref (q 5)]) rfl ?_
  refine lv_astore_n (lv' := [(3, .ref (q 5)), (0, .ref (q 0)), (1, .int (iv (0))), (2, .int (iv (1)))]) hx hb dX2_bits_6 rfl hl (by decide) rfl (fun ls hl => ?_)
  refine lv_aload_n hx hb dX2_bits_7 rfl (lv_at hl 0 rfl) ?_
  refine lv_ifnonnull (tgt := 15) hx hb dX2_bits_8 (by decide) ?_
  refine lv_aload_n hx hb dX2_bits_15 rfl (lv_at hl 0 rfl) ?_
  refine ef_callV (As := []) (rest := []) ⟨hx, hb, hml, hown, hts⟩ (c_length l dC dI ht (isW_c (X := U1) (ws := cC cI q (A1) (U1) (b1) (e1) (A2) (U2) (b2) (e2) (L) (R)) (k0 := 5) (k1 := 6) (by decide) rfl rfl) (by omega)) (cwV 0 hts gX2_bits_X1_length rfl rfl rfl (by decide +kernel) ⟨Nat.le_of_ble_eq_true rfl, Nat.le_of_ble_eq_true rfl⟩) hK hNX hP hD hS 5 rfl rfl rfl rfl hl.1 rfl (Nat.le_of_ble_eq_true rfl) dX2_bits_16 ⟨Nat.zero_le _, Nat.zero_le _⟩ (fun o w1 H locs hq hP hD hS => ?_)
  obtain ⟨rfl, e9⟩ := hq
  rw [e9] at hP hD
  refine W.eq (g2 := F0 m 19 ls [.int (iv ((bl U1 : Int)))]) rfl ?_
  exact ef_iret hx hb hr hlocks hP hD hS dX2_bits_19 (⟨_, _, rfl, rfl, hL, hR⟩)

set_option maxRecDepth 100000 in
set_option maxHeartbeats 4000000 in
/-- bits -/
theorem c_bits10 (l : Launch) (dC : Nat → ClassId) (dI : Nat → Nat → Nat) {cI : ClassId} {tys : List (ClassId × FieldType)} (ht : tys[0]? = some (cI, .int)) (q : Nat → Nat) {A1 U1 A2 U2 L R : Nat} {b1 e1 b2 e2 : Int} (hA1 : wl A1 ≤ 150) (hU1 : wl U1 ≤ 150) (hA2 : wl A2 ≤ 150) (hU2 : wl U2 ≤ 150) (hL : wl L ≤ 301) (hR : wl R ≤ 301) : ef_C l yX2_bits wsX2_bits ({ frames := 2, cells := 0, slots := 0, locals := 44 } : Room) [.ref (q 0), .int (iv (1)), .int (iv (0))] (dC, dI) vwCl tys (cC cI q (A1) (U1) (b1) (e1) (A2) (U2) (b2) (e2) (L) (R)) (fun o w1 => ∃ L2 R2 : Nat, o = some (.int (iv (bl A2 : Int))) ∧ w1 = cC cI q (A1) (U1) (b1) (e1) (A2) (U2) (b2) (e2) (L2) (R2) ∧ wl L2 ≤ 301 ∧ wl R2 ≤ 301) := by
  refine ef_C.of (cc := cX2_bits) (maxL := 4) (ret := (some .int)) (by decide) rfl (Nat.le_of_ble_eq_true rfl) ?_
  intro p e s m below meth c ls hx hb hml hr hts hown hlocks hK hNX hP hD hS hl
  have hl : lv_has ls 4 [(0, .ref (q 0)), (1, .int (iv (1))), (2, .int (iv (0)))] := hl
  have hown : s.vm.findClass RX2 = some m.cls := hown
  generalize hH : s.heap = H at hP ⊢
  have hS : va_S (ef_A (cC cI q (A1) (U1) (b1) (e1) (A2) (U2) (b2) (e2) (L) (R))) s.heap H [] := by rw [← hH]; exact hS
  generalize ([] : List Loc) = locs at hS ⊢
  refine lv_aload_n hx hb dX2_bits_0 rfl (lv_at hl 0 rfl) ?_
  refine lv_iload_n hx hb dX2_bits_1 rfl (lv_at hl 1 rfl) ?_
  refine lv_iload_n hx hb dX2_bits_2 rfl (lv_at hl 2 rfl) ?_
  refine ef_callV (As := [.int (iv (1)), .int (iv (0))]) (rest := []) ⟨hx, hb, hml, hown, hts⟩ (c_partOf10 l dC dI ht q) (cwV 2 hts gX2_bits_X2_partOf rfl rfl rfl (by decide +kernel) ⟨Nat.le_of_ble_eq_true rfl, Nat.le_of_ble_eq_true rfl⟩) hK hNX hP hD hS 0 rfl rfl rfl rfl hl.1 rfl (Nat.le_of_ble_eq_true rfl) dX2_bits_3 ⟨Nat.zero_le _, Nat.zero_le _⟩ (fun o w1 H locs hq hP hD hS => ?_)
  obtain ⟨rfl, e9⟩ := hq
  rw [e9] at hP hD
  refine W.eq (g2 := F0 m 6 ls [.ref (q 7)]) rfl ?_
  refine lv_astore_n (lv' := [(3, .ref (q 7)), (0, .ref (q 0)), (1, .int (iv (1))), (2, .int (iv (0)))]) hx hb dX2_bits_6 rfl hl (by decide) rfl (fun ls hl => ?_)
  refine lv_aload_n hx hb dX2_bits_7 rfl (lv_at hl 0 rfl) ?_
  refine lv_ifnonnull (tgt := 15) hx hb dX2_bits_8 (by decide) ?_
  refine lv_aload_n hx hb dX2_bits_15 rfl (lv_at hl 0 rfl) ?_
  refine ef_callV (As := []) (rest := []) ⟨hx, hb, hml, hown, hts⟩ (c_length l dC dI ht (isW_c (X := A2) (ws := cC cI q (A1) (U1) (b1) (e1) (A2) (U2) (b2) (e2) (L) (R)) (k0 := 7) (k1 := 8) (by decide) rfl rfl) (by omega)) (cwV 0 hts gX2_bits_X1_length rfl rfl rfl (by decide +kernel) ⟨Nat.le_of_ble_eq_true rfl, Nat.le_of_ble_eq_true rfl⟩) hK hNX hP hD hS 7 rfl rfl rfl rfl hl.1 rfl (Nat.le_of_ble_eq_true rfl) dX2_bits_16 ⟨Nat.zero_le _, Nat.zero_le _⟩ (fun o w1 H locs hq hP hD hS => ?_)
  obtain ⟨rfl, e9⟩ := hq
  rw [e9] at hP hD
  refine W.eq (g2 := F0 m 19 ls [.int (iv ((bl A2 : Int)))]) rfl ?_
  exact ef_iret hx hb hr hlocks hP hD hS dX2_bits_19 (⟨_, _, rfl, rfl, hL, hR⟩)

set_option maxRecDepth 100000 in
set_option maxHeartbeats 4000000 in
/-- bits -/
theorem c_bits11 (l : Launch) (dC : Nat → ClassId) (dI : Nat → Nat → Nat) {cI : ClassId} {tys : List (ClassId × FieldType)} (ht : tys[0]? = some (cI, .int)) (q : Nat → Nat) {A1 U1 A2 U2 L R : Nat} {b1 e1 b2 e2 : Int} (hA1 : wl A1 ≤ 150) (hU1 : wl U1 ≤ 150) (hA2 : wl A2 ≤ 150) (hU2 : wl U2 ≤ 150) (hL : wl L ≤ 301) (hR : wl R ≤ 301) : ef_C l yX2_bits wsX2_bits ({ frames := 2, cells := 0, slots := 0, locals := 44 } : Room) [.ref (q 0), .int (iv (1)), .int (iv (1))] (dC, dI) vwCl tys (cC cI q (A1) (U1) (b1) (e1) (A2) (U2) (b2) (e2) (L) (R)) (fun o w1 => ∃ L2 R2 : Nat, o = some (.int (iv (bl U2 : Int))) ∧ w1 = cC cI q (A1) (U1) (b1) (e1) (A2) (U2) (b2) (e2) (L2) (R2) ∧ wl L2 ≤ 301 ∧ wl R2 ≤ 301) := by
  refine ef_C.of (cc := cX2_bits) (maxL := 4) (ret := (some .int)) (by decide) rfl (Nat.le_of_ble_eq_true rfl) ?_
  intro p e s m below meth c ls hx hb hml hr hts hown hlocks hK hNX hP hD hS hl
  have hl : lv_has ls 4 [(0, .ref (q 0)), (1, .int (iv (1))), (2, .int (iv (1)))] := hl
  have hown : s.vm.findClass RX2 = some m.cls := hown
  generalize hH : s.heap = H at hP ⊢
  have hS : va_S (ef_A (cC cI q (A1) (U1) (b1) (e1) (A2) (U2) (b2) (e2) (L) (R))) s.heap H [] := by rw [← hH]; exact hS
  generalize ([] : List Loc) = locs at hS ⊢
  refine lv_aload_n hx hb dX2_bits_0 rfl (lv_at hl 0 rfl) ?_
  refine lv_iload_n hx hb dX2_bits_1 rfl (lv_at hl 1 rfl) ?_
  refine lv_iload_n hx hb dX2_bits_2 rfl (lv_at hl 2 rfl) ?_
  refine ef_callV (As := [.int (iv (1)), .int (iv (1))]) (rest := []) ⟨hx, hb, hml, hown, hts⟩ (c_partOf11 l dC dI ht q) (cwV 2 hts gX2_bits_X2_partOf rfl rfl rfl (by decide +kernel) ⟨Nat.le_of_ble_eq_true rfl, Nat.le_of_ble_eq_true rfl⟩) hK hNX hP hD hS 0 rfl rfl rfl rfl hl.1 rfl (Nat.le_of_ble_eq_true rfl) dX2_bits_3 ⟨Nat.zero_le _, Nat.zero_le _⟩ (fun o w1 H locs hq hP hD hS => ?_)
  obtain ⟨rfl, e9⟩ := hq
  rw [e9] at hP hD
  refine W.eq (g2 := F0 m 6 ls [.ref (q 9)]) rfl ?_
  refine lv_astore_n (lv' := [(3, .ref (q 9)), (0, .ref (q 0)), (1, .int (iv (1))), (2, .int (iv (1)))]) hx hb dX2_bits_6 rfl hl (by decide) rfl (fun ls hl => ?_)
  refine lv_aload_n hx hb dX2_bits_7 rfl (lv_at hl 0 rfl) ?_
  refine lv_ifnonnull (tgt := 15) hx hb dX2_bits_8 (by decide) ?_
  refine lv_aload_n hx hb dX2_bits_15 rfl (lv_at hl 0 rfl) ?_
  refine ef_callV (As := []) (rest := []) ⟨hx, hb, hml, hown, hts⟩ (c_length l dC dI ht (isW_c (X := U2) (ws := cC cI q (A1) (U1) (b1) (e1) (A2) (U2) (b2) (e2) (L) (R)) (k0 := 9) (k1 := 10) (by decide) rfl rfl) (by omega)) (cwV 0 hts gX2_bits_X1_length rfl rfl rfl (by decide +kernel) ⟨Nat.le_of_ble_eq_true rfl, Nat.le_of_ble_eq_true rfl⟩) hK hNX hP hD hS 9 rfl rfl rfl rfl hl.1 rfl (Nat.le_of_ble_eq_true rfl) dX2_bits_16 ⟨Nat.zero_le _, Nat.zero_le _⟩ (fun o w1 H locs hq hP hD hS => ?_)
  obtain ⟨rfl, e9⟩ := hq
  rw [e9] at hP hD
  refine W.eq (g2 := F0 m 19 ls [.int (iv ((bl U2 : Int)))]) rfl ?_
  exact ef_iret hx hb hr hlocks hP hD hS dX2_bits_19 (⟨_, _, rfl, rfl, hL, hR⟩)

set_option maxRecDepth 100000 in
set_option maxHeartbeats 4000000 in
/-- bits of no part -/
theorem c_bits0x (l : Launch) (dC : Nat → ClassId) (dI : Nat → Nat → Nat) {cI : ClassId} {tys : List (ClassId × FieldType)} (ht : tys[0]? = some (cI, .int)) (q : Nat → Nat) {A1 U1 A2 U2 L R : Nat} {b1 e1 b2 e2 : Int} (hA1 : wl A1 ≤ 150) (hU1 : wl U1 ≤ 150) (hA2 : wl A2 ≤ 150) (hU2 : wl U2 ≤ 150) (hL : wl L ≤ 301) (hR : wl R ≤ 301) (z : Int) (hz : ir z) (hz0 : z ≠ 0) (hz1 : z ≠ 1) : ef_C l yX2_bits wsX2_bits ({ frames := 2, cells := 0, slots := 0, locals := 44 } : Room) [.ref (q 0), .int (iv (0)), .int (iv (z))] (dC, dI) vwCl tys (cC cI q (A1) (U1) (b1) (e1) (A2) (U2) (b2) (e2) (L) (R)) (fun o w1 => ∃ L2 R2 : Nat, o = some (.int (iv (-1))) ∧ w1 = cC cI q (A1) (U1) (b1) (e1) (A2) (U2) (b2) (e2) (L2) (R2) ∧ wl L2 ≤ 301 ∧ wl R2 ≤ 301) := by
  refine ef_C.of (cc := cX2_bits) (maxL := 4) (ret := (some .int)) (by decide) rfl (Nat.le_of_ble_eq_true rfl) ?_
  intro p e s m below meth c ls hx hb hml hr hts hown hlocks hK hNX hP hD hS hl
  have hl : lv_has ls 4 [(0, .ref (q 0)), (1, .int (iv (0))), (2, .int (iv (z)))] := hl
  have hown : s.vm.findClass RX2 = some m.cls := hown
  generalize hH : s.heap = H at hP ⊢
  have hS : va_S (ef_A (cC cI q (A1) (U1) (b1) (e1) (A2) (U2) (b2) (e2) (L) (R))) s.heap H [] := by rw [← hH]; exact hS
  generalize ([] : List Loc) = locs at hS ⊢
  refine lv_aload_n hx hb dX2_bits_0 rfl (lv_at hl 0 rfl) ?_
  refine lv_iload_n hx hb dX2_bits_1 rfl (lv_at hl 1 rfl) ?_
  refine lv_iload_n hx hb dX2_bits_2 rfl (lv_at hl 2 rfl) ?_
  refine ef_callV (As := [.int (iv (0)), .int (iv (z))]) (rest := []) ⟨hx, hb, hml, hown, hts⟩ (c_partOf0x l dC dI ht q z hz hz0 hz1) (cwV 2 hts gX2_bits_X2_partOf rfl rfl rfl (by decide +kernel) ⟨Nat.le_of_ble_eq_true rfl, Nat.le_of_ble_eq_true rfl⟩) hK hNX hP hD hS 0 rfl rfl rfl rfl hl.1 rfl (Nat.le_of_ble_eq_true rfl) dX2_bits_3 ⟨Nat.zero_le _, Nat.zero_le _⟩ (fun o w1 H locs hq hP hD hS => ?_)
  obtain ⟨rfl, e9⟩ := hq
  rw [e9] at hP hD
  refine W.eq (g2 := F0 m 6 ls [.null]) rfl ?_
  refine lv_astore_nN (lv' := [(3, .null), (0, .ref (q 0)), (1, .int (iv (0))), (2, .int (iv (z)))]) hx hb dX2_bits_6 rfl hl (by decide) rfl (fun ls hl => ?_)
  refine lv_aload_nN hx hb dX2_bits_7 rfl (lv_at hl 0 rfl) ?_
  refine lv_ifnonnullN hx hb dX2_bits_8 ?_
  refine lv_iconst (v := iv (-1)) hx hb dX2_bits_11 (by decide) ?_
  refine lv_goto (tgt := 19) hx hb dX2_bits_12 (by decide) ?_
  exact ef_iret hx hb hr hlocks hP hD hS dX2_bits_19 (⟨_, _, rfl, rfl, hL, hR⟩)

set_option maxRecDepth 100000 in
set_option maxHeartbeats 4000000 in
/-- bits of no part -/
theorem c_bits1x (l : Launch) (dC : Nat → ClassId) (dI : Nat → Nat → Nat) {cI : ClassId} {tys : List (ClassId × FieldType)} (ht : tys[0]? = some (cI, .int)) (q : Nat → Nat) {A1 U1 A2 U2 L R : Nat} {b1 e1 b2 e2 : Int} (hA1 : wl A1 ≤ 150) (hU1 : wl U1 ≤ 150) (hA2 : wl A2 ≤ 150) (hU2 : wl U2 ≤ 150) (hL : wl L ≤ 301) (hR : wl R ≤ 301) (z : Int) (hz : ir z) (hz0 : z ≠ 0) (hz1 : z ≠ 1) : ef_C l yX2_bits wsX2_bits ({ frames := 2, cells := 0, slots := 0, locals := 44 } : Room) [.ref (q 0), .int (iv (1)), .int (iv (z))] (dC, dI) vwCl tys (cC cI q (A1) (U1) (b1) (e1) (A2) (U2) (b2) (e2) (L) (R)) (fun o w1 => ∃ L2 R2 : Nat, o = some (.int (iv (-1))) ∧ w1 = cC cI q (A1) (U1) (b1) (e1) (A2) (U2) (b2) (e2) (L2) (R2) ∧ wl L2 ≤ 301 ∧ wl R2 ≤ 301) := by
  refine ef_C.of (cc := cX2_bits) (maxL := 4) (ret := (some .int)) (by decide) rfl (Nat.le_of_ble_eq_true rfl) ?_
  intro p e s m below meth c ls hx hb hml hr hts hown hlocks hK hNX hP hD hS hl
  have hl : lv_has ls 4 [(0, .ref (q 0)), (1, .int (iv (1))), (2, .int (iv (z)))] := hl
  have hown : s.vm.findClass RX2 = some m.cls := hown
  generalize hH : s.heap = H at hP ⊢
  have hS : va_S (ef_A (cC cI q (A1) (U1) (b1) (e1) (A2) (U2) (b2) (e2) (L) (R))) s.heap H [] := by rw [← hH]; exact hS
  generalize ([] : List Loc) = locs at hS ⊢
  refine lv_aload_n hx hb dX2_bits_0 rfl (lv_at hl 0 rfl) ?_
  refine lv_iload_n hx hb dX2_bits_1 rfl (lv_at hl 1 rfl) ?_
  refine lv_iload_n hx hb dX2_bits_2 rfl (lv_at hl 2 rfl) ?_
  refine ef_callV (As := [.int (iv (1)), .int (iv (z))]) (rest := []) ⟨hx, hb, hml, hown, hts⟩ (c_partOf1x l dC dI ht q z hz hz0 hz1) (cwV 2 hts gX2_bits_X2_partOf rfl rfl rfl (by decide +kernel) ⟨Nat.le_of_ble_eq_true rfl, Nat.le_of_ble_eq_true rfl⟩) hK hNX hP hD hS 0 rfl rfl rfl rfl hl.1 rfl (Nat.le_of_ble_eq_true rfl) dX2_bits_3 ⟨Nat.zero_le _, Nat.zero_le _⟩ (fun o w1 H locs hq hP hD hS => ?_)
  obtain ⟨rfl, e9⟩ := hq
  rw [e9] at hP hD
  refine W.eq (g2 := F0 m 6 ls [.null]) rfl ?_
  refine lv_astore_nN (lv' := [(3, .null), (0, .ref (q 0)), (1, .int (iv (1))), (2, .int (iv (z)))]) hx hb dX2_bits_6 rfl hl (by decide) rfl (fun ls hl => ?_)
  refine lv_aload_nN hx hb dX2_bits_7 rfl (lv_at hl 0 rfl) ?_
  refine lv_ifnonnullN hx hb dX2_bits_8 ?_
  refine lv_iconst (v := iv (-1)) hx hb dX2_bits_11 (by decide) ?_
  refine lv_goto (tgt := 19) hx hb dX2_bits_12 (by decide) ?_
  exact ef_iret hx hb hr hlocks hP hD hS dX2_bits_19 (⟨_, _, rfl, rfl, hL, hR⟩)

set_option maxRecDepth 100000 in
set_option maxHeartbeats 4000000 in
/-- bits of no part -/
theorem c_bitsxx (l : Launch) (dC : Nat → ClassId) (dI : Nat → Nat → Nat) {cI : ClassId} {tys : List (ClassId × FieldType)} (ht : tys[0]? = some (cI, .int)) (q : Nat → Nat) {A1 U1 A2 U2 L R : Nat} {b1 e1 b2 e2 : Int} (hA1 : wl A1 ≤ 150) (hU1 : wl U1 ≤ 150) (hA2 : wl A2 ≤ 150) (hU2 : wl U2 ≤ 150) (hL : wl L ≤ 301) (hR : wl R ≤ 301) (z y : Int) (hz : ir z) (hz0 : z ≠ 0) (hz1 : z ≠ 1) : ef_C l yX2_bits wsX2_bits ({ frames := 2, cells := 0, slots := 0, locals := 44 } : Room) [.ref (q 0), .int (iv (z)), .int (iv (y))] (dC, dI) vwCl tys (cC cI q (A1) (U1) (b1) (e1) (A2) (U2) (b2) (e2) (L) (R)) (fun o w1 => ∃ L2 R2 : Nat, o = some (.int (iv (-1))) ∧ w1 = cC cI q (A1) (U1) (b1) (e1) (A2) (U2) (b2) (e2) (L2) (R2) ∧ wl L2 ≤ 301 ∧ wl R2 ≤ 301) := by
  refine ef_C.of (cc := cX2_bits) (maxL := 4) (ret := (some .int)) (by decide) rfl (Nat.le_of_ble_eq_true rfl) ?_
  intro p e s m below meth c ls hx hb hml hr hts hown hlocks hK hNX hP hD hS hl
  have hl : lv_has ls 4 [(0, .ref (q 0)), (1, .int (iv (z))), (2, .int (iv (y)))] := hl
  have hown : s.vm.findClass RX2 = some m.cls := hown
  generalize hH : s.heap = H at hP ⊢
  have hS : va_S (ef_A (cC cI q (A1) (U1) (b1) (e1) (A2) (U2) (b2) (e2) (L) (R))) s.heap H [] := by rw [← hH]; exact hS
  generalize ([] : List Loc) = locs at hS ⊢
  refine lv_aload_n hx hb dX2_bits_0 rfl (lv_at hl 0 rfl) ?_
  refine lv_iload_n hx hb dX2_bits_1 rfl (lv_at hl 1 rfl) ?_
  refine lv_iload_n hx hb dX2_bits_2 rfl (lv_at hl 2 rfl) ?_
  refine ef_callV (As := [.int (iv (z)), .int (iv (y))]) (rest := []) ⟨hx, hb, hml, hown, hts⟩ (c_partOfxx l dC dI ht q z y hz hz0 hz1) (cwV 2 hts gX2_bits_X2_partOf rfl rfl rfl (by decide +kernel) ⟨Nat.le_of_ble_eq_true rfl, Nat.le_of_ble_eq_true rfl⟩) hK hNX hP hD hS 0 rfl rfl rfl rfl hl.1 rfl (Nat.le_of_ble_eq_true rfl) dX2_bits_3 ⟨Nat.zero_le _, Nat.zero_le _⟩ (fun o w1 H locs hq hP hD hS => ?_)
  obtain ⟨rfl, e9⟩ := hq
  rw [e9] at hP hD
  refine W.eq (g2 := F0 m 6 ls [.null]) rfl ?_
  refine lv_astore_nN (lv' := [(3, .null), (0, .ref (q 0)), (1, .int (iv (z))), (2, .int (iv (y)))]) hx hb dX2_bits_6 rfl hl (by decide) rfl (fun ls hl => ?_)
  refine lv_aload_nN hx hb dX2_bits_7 rfl (lv_at hl 0 rfl) ?_
  refine lv_ifnonnullN hx hb dX2_bits_8 ?_
  refine lv_iconst (v := iv (-1)) hx hb dX2_bits_11 (by decide) ?_
  refine lv_goto (tgt := 19) hx hb dX2_bits_12 (by decide) ?_
  exact ef_iret hx hb hr hlocks hP hD hS dX2_bits_19 (⟨_, _, rfl, rfl, hL, hR⟩)

set_option maxRecDepth 100000 in
set_option maxHeartbeats 4000000 in
/-- word -/
theorem c_word00 (l : Launch) (dC : Nat → ClassId) (dI : Nat → Nat → Nat) {cI : ClassId} {tys : List (ClassId × FieldType)} (ht : tys[0]? = some (cI, .int)) (q : Nat → Nat) {A1 U1 A2 U2 L R : Nat} {b1 e1 b2 e2 : Int} (hA1 : wl A1 ≤ 150) (hU1 : wl U1 ≤ 150) (hA2 : wl A2 ≤ 150) (hU2 : wl U2 ≤ 150) (hL : wl L ≤ 301) (hR : wl R ≤ 301) (i : Int) (hi : ir i) : ef_C l yX2_word wsX2_word ({ frames := 2, cells := 0, slots := 0, locals := 44 } : Room) [.ref (q 0), .int (iv (0)), .int (iv (0)), .int (iv (i))] (dC, dI) vwCl tys (cC cI q (A1) (U1) (b1) (e1) (A2) (U2) (b2) (e2) (L) (R)) (fun o w1 => ∃ L2 R2 : Nat, o = some (.int (iv (wz (wd A1) i : Int))) ∧ w1 = cC cI q (A1) (U1) (b1) (e1) (A2) (U2) (b2) (e2) (L2) (R2) ∧ wl L2 ≤ 301 ∧ wl R2 ≤ 301) := by
  refine ef_C.of (cc := cX2_word) (maxL := 5) (ret := (some .int)) (by decide) rfl (Nat.le_of_ble_eq_true rfl) ?_
  intro p e s m below meth c ls hx hb hml hr hts hown hlocks hK hNX hP hD hS hl
  have hl : lv_has ls 5 [(0, .ref (q 0)), (1, .int (iv (0))), (2, .int (iv (0))), (3, .int (iv (i)))] := hl
  have hown : s.vm.findClass RX2 = some m.cls := hown
  generalize hH : s.heap = H at hP ⊢
  have hS : va_S (ef_A (cC cI q (A1) (U1) (b1) (e1) (A2) (U2) (b2) (e2) (L) (R))) s.heap H [] := by rw [← hH]; exact hS
  generalize ([] : List Loc) = locs at hS ⊢
  refine lv_aload_n hx hb dX2_word_0 rfl (lv_at hl 0 rfl) ?_
  refine lv_iload_n hx hb dX2_word_1 rfl (lv_at hl 1 rfl) ?_
  refine lv_iload_n hx hb dX2_word_2 rfl (lv_at hl 2 rfl) ?_
  refine ef_callV (As := [.int (iv (0)), .int (iv (0))]) (rest := []) ⟨hx, hb, hml, hown, hts⟩ (c_partOf00 l dC dI ht q) (cwV 2 hts gX2_word_X2_partOf rfl rfl rfl (by decide +kernel) ⟨Nat.le_of_ble_eq_true rfl, Nat.le_of_ble_eq_true rfl⟩) hK hNX hP hD hS 0 rfl rfl rfl rfl hl.1 rfl (Nat.le_of_ble_eq_true rfl) dX2_word_3 ⟨Nat.zero_le _, Nat.zero_le _⟩ (fun o w1 H locs hq hP hD hS => ?_)
  obtain ⟨rfl, e9⟩ := hq
  rw [e9] at hP hD
  refine W.eq (g2 := F0 m 6 ls [.ref (q 3)]) rfl ?_
  refine lv_astore (lv' := [(4, .ref (q 3)), (0, .ref (q 0)), (1, .int (iv (0))), (2, .int (iv (0))), (3, .int (iv (i)))]) hx hb dX2_word_6 hl (by decide) rfl (fun ls hl => ?_)
  refine lv_aload hx hb dX2_word_8 (lv_at hl 0 rfl) ?_
  refine lv_ifnonnull (tgt := 17) hx hb dX2_word_10 (by decide) ?_
  refine lv_aload hx hb dX2_word_17 (lv_at hl 0 rfl) ?_
  refine lv_iload_n hx hb dX2_word_19 rfl (lv_at hl 4 rfl) ?_
  refine ef_callV (As := [.int (iv (i))]) (rest := []) ⟨hx, hb, hml, hown, hts⟩ (c_wordAt l dC dI ht (isW_c (X := A1) (ws := cC cI q (A1) (U1) (b1) (e1) (A2) (U2) (b2) (e2) (L) (R)) (k0 := 3) (k1 := 4) (by decide) rfl rfl) i hi) (cwV 1 hts gX2_word_X1_wordAt rfl rfl rfl (by decide +kernel) ⟨Nat.le_of_ble_eq_true rfl, Nat.le_of_ble_eq_true rfl⟩) hK hNX hP hD hS 3 rfl rfl rfl rfl hl.1 rfl (Nat.le_of_ble_eq_true rfl) dX2_word_20 ⟨Nat.zero_le _, Nat.zero_le _⟩ (fun o w1 H locs hq hP hD hS => ?_)
  obtain ⟨rfl, e9⟩ := hq
  rw [e9] at hP hD
  refine W.eq (g2 := F0 m 23 ls [.int (iv ((wz (wd A1) i : Int)))]) rfl ?_
  exact ef_iret hx hb hr hlocks hP hD hS dX2_word_23 (⟨_, _, rfl, rfl, hL, hR⟩)

set_option maxRecDepth 100000 in
set_option maxHeartbeats 4000000 in
/-- word -/
theorem c_word01 (l : Launch) (dC : Nat → ClassId) (dI : Nat → Nat → Nat) {cI : ClassId} {tys : List (ClassId × FieldType)} (ht : tys[0]? = some (cI, .int)) (q : Nat → Nat) {A1 U1 A2 U2 L R : Nat} {b1 e1 b2 e2 : Int} (hA1 : wl A1 ≤ 150) (hU1 : wl U1 ≤ 150) (hA2 : wl A2 ≤ 150) (hU2 : wl U2 ≤ 150) (hL : wl L ≤ 301) (hR : wl R ≤ 301) (i : Int) (hi : ir i) : ef_C l yX2_word wsX2_word ({ frames := 2, cells := 0, slots := 0, locals := 44 } : Room) [.ref (q 0), .int (iv (0)), .int (iv (1)), .int (iv (i))] (dC, dI) vwCl tys (cC cI q (A1) (U1) (b1) (e1) (A2) (U2) (b2) (e2) (L) (R)) (fun o w1 => ∃ L2 R2 : Nat, o = some (.int (iv (wz (wd U1) i : Int))) ∧ w1 = cC cI q (A1) (U1) (b1) (e1) (A2) (U2) (b2) (e2) (L2) (R2) ∧ wl L2 ≤ 301 ∧ wl R2 ≤ 301) := by
  refine ef_C.of (cc := cX2_word) (maxL := 5) (ret := (some .int)) (by decide) rfl (Nat.le_of_ble_eq_true rfl) ?_
  intro p e s m below meth c ls hx hb hml hr hts hown hlocks hK hNX hP hD hS hl
  have hl : lv_has ls 5 [(0, .ref (q 0)), (1, .int (iv (0))), (2, .int (iv (1))), (3, .int (iv (i)))] := hl
  have hown : s.vm.findClass RX2 = some m.cls := hown
  generalize hH : s.heap = H at hP ⊢
  have hS : va_S (ef_A (cC cI q (A1) (U1) (b1) (e1) (A2) (U2) (b2) (e2) (L) (R))) s.heap H [] := by rw [← hH]; exact hS
  generalize ([] : List Loc) = locs at hS ⊢
  refine lv_aload_n hx hb dX2_word_0 rfl (lv_at hl 0 rfl) ?_
  refine lv_iload_n hx hb dX2_word_1 rfl (lv_at hl 1 rfl) ?_
  refine lv_iload_n hx hb dX2_word_2 rfl (lv_at hl 2 rfl) ?_
  refine ef_callV (As := [.int (iv (0)), .int (iv (1))]) (rest := []) ⟨hx, hb, hml, hown, hts⟩ (c_partOf01 l dC dI ht q) (cwV 2 hts gX2_word_X2_partOf rfl rfl rfl (by decide +kernel) ⟨Nat.le_of_ble_eq_true rfl, Nat.le_of_ble_eq_true rfl⟩) hK hNX hP hD hS 0 rfl rfl rfl rfl hl.1 rfl (Nat.le_of_ble_eq_true rfl) dX2_word_3 ⟨Nat.zero_le _, Nat.zero_le _⟩ (fun o w1 H locs hq hP hD hS => ?_)
  obtain ⟨rfl, e9⟩ := hq
  rw [e9] at hP hD
  refine W.eq (g2 := F0 m 6 ls [.ref (q 5)]) rfl ?_
  refine lv_astore (lv' := [(4, .ref (q 5)), (0, .ref (q 0)), (1, .int (iv (0))), (2, .int (iv (1))), (3, .int (iv (i)))]) hx hb dX2_word_6 hl (by decide) rfl (fun ls hl => ?_)
  refine lv_aload hx hb dX2_word_8 (lv_at hl 0 rfl) ?_
  refine lv_ifnonnull (tgt := 17) hx hb dX2_word_10 (by decide) ?_
  refine lv_aload hx hb dX2_word_17 (lv_at hl 0 rfl) ?_
  refine lv_iload_n hx hb dX2_word_19 rfl (lv_at hl 4 rfl) ?_
  refine ef_callV (As := [.int (iv (i))]) (rest := []) ⟨hx, hb, hml, hown, hts⟩ (c_wordAt l dC dI ht (isW_c (X := U1) (ws := cC cI q (A1) (U1) (b1) (e1) (A2) (U2) (b2) (e2) (L) (R)) (k0 := 5) (k1 := 6) (by decide) rfl rfl) i hi) (cwV 1 hts gX2_word_X1_wordAt rfl rfl rfl (by decide +kernel) ⟨Nat.le_of_ble_eq_true rfl, Nat.le_of_ble_eq_true rfl⟩) hK hNX hP hD hS 5 rfl rfl rfl rfl hl.1 rfl (Nat.le_of_ble_eq_true rfl) dX2_word_20 ⟨Nat.zero_le _, Nat.zero_le _⟩ (fun o w1 H locs hq hP hD hS => ?_)
  obtain ⟨rfl, e9⟩ := hq
  rw [e9] at hP hD
  refine W.eq (g2 := F0 m 23 ls [.int (iv ((wz (wd U1) i : Int)))]) rfl ?_
  exact ef_iret hx hb hr hlocks hP hD hS dX2_word_23 (⟨_, _, rfl, rfl, hL, hR⟩)

set_option maxRecDepth 100000 in
set_option maxHeartbeats 4000000 in
/-- word -/
theorem c_word10 (l : Launch) (dC : Nat → ClassId) (dI : Nat → Nat → Nat) {cI : ClassId} {tys : List (ClassId × FieldType)} (ht : tys[0]? = some (cI, .int)) (q : Nat → Nat) {A1 U1 A2 U2 L R : Nat} {b1 e1 b2 e2 : Int} (hA1 : wl A1 ≤ 150) (hU1 : wl U1 ≤ 150) (hA2 : wl A2 ≤ 150) (hU2 : wl U2 ≤ 150) (hL : wl L ≤ 301) (hR : wl R ≤ 301) (i : Int) (hi : ir i) : ef_C l yX2_word wsX2_word ({ frames := 2, cells := 0, slots := 0, locals := 44 } : Room) [.ref (q 0), .int (iv (1)), .int (iv (0)), .int (iv (i))] (dC, dI) vwCl tys (cC cI q (A1) (U1) (b1) (e1) (A2) (U2) (b2) (e2) (L) (R)) (fun o w1 => ∃ L2 R2 : Nat, o = some (.int (iv (wz (wd A2) i : Int))) ∧ w1 = cC cI q (A1) (U1) (b1) (e1) (A2) (U2) (b2) (e2) (L2) (R2) ∧ wl L2 ≤ 301 ∧ wl R2 ≤ 301) := by
  refine ef_C.of (cc := cX2_word) (maxL := 5) (ret := (some .int)) (by decide) rfl (Nat.le_of_ble_eq_true rfl) ?_
  intro p e s m below meth c ls hx hb hml hr hts hown hlocks hK hNX hP hD hS hl
  have hl : lv_has ls 5 [(0, .ref (q 0)), (1, .int (iv (1))), (2, .int (iv (0))), (3, .int (iv (i)))] := hl
  have hown : s.vm.findClass RX2 = some m.cls := hown
  generalize hH : s.heap = H at hP ⊢
  have hS : va_S (ef_A (cC cI q (A1) (U1) (b1) (e1) (A2) (U2) (b2) (e2) (L) (R))) s.heap H [] := by rw [← hH]; exact hS
  generalize ([] : List Loc) = locs at hS ⊢
  refine lv_aload_n hx hb dX2_word_0 rfl (lv_at hl 0 rfl) ?_
  refine lv_iload_n hx hb dX2_word_1 rfl (lv_at hl 1 rfl) ?_
  refine lv_iload_n hx hb dX2_word_2 rfl (lv_at hl 2 rfl) ?_
  refine ef_callV (As := [.int (iv (1)), .int (iv (0))]) (rest := []) ⟨hx, hb, hml, hown, hts⟩ (c_partOf10 l dC dI ht q) (cwV 2 hts gX2_word_X2_partOf rfl rfl rfl (by decide +kernel) ⟨Nat.le_of_ble_eq_true rfl, Nat.le_of_ble_eq_true rfl⟩) hK hNX hP hD hS 0 rfl rfl rfl rfl hl.1 rfl (Nat.le_of_ble_eq_true rfl) dX2_word_3 ⟨Nat.zero_le _, Nat.zero_le _⟩ (fun o w1 H locs hq hP hD hS => ?_)
  obtain ⟨rfl, e9⟩ := hq
  rw [e9] at hP hD
  refine W.eq (g2 := F0 m 6 ls [.ref (q 7)]) rfl ?_
  refine lv_astore (lv' := [(4, .ref (q 7)), (0, .ref (q 0)), (1, .int (iv (1))), (2, .int (iv (0))), (3, .int (iv (i)))]) hx hb dX2_word_6 hl (by decide) rfl (fun ls hl => ?_)
  refine lv_aload hx hb dX2_word_8 (lv_at hl 0 rfl) ?_
  refine lv_ifnonnull (tgt := 17) hx hb dX2_word_10 (by decide) ?_
  refine lv_aload hx hb dX2_word_17 (lv_at hl 0 rfl) ?_
  refine lv_iload_n hx hb dX2_word_19 rfl (lv_at hl 4 rfl) ?_
  refine ef_callV (As := [.int (iv (i))]) (rest := []) ⟨hx, hb, hml, hown, hts⟩ (c_wordAt l dC dI ht (isW_c (X := A2) (ws := cC cI q (A1) (U1) (b1) (e1) (A2) (U2) (b2) (e2) (L) (R)) (k0 := 7) (k1 := 8) (by decide) rfl rfl) i hi) (cwV 1 hts gX2_word_X1_wordAt rfl rfl rfl (by decide +kernel) ⟨Nat.le_of_ble_eq_true rfl, Nat.le_of_ble_eq_true rfl⟩) hK hNX hP hD hS 7 rfl rfl rfl rfl hl.1 rfl (Nat.le_of_ble_eq_true rfl) dX2_word_20 ⟨Nat.zero_le _, Nat.zero_le _⟩ (fun o w1 H locs hq hP hD hS => ?_)
  obtain ⟨rfl, e9⟩ := hq
  rw [e9] at hP hD
  refine W.eq (g2 := F0 m 23 ls [.int (iv ((wz (wd A2) i : Int)))]) rfl ?_
  exact ef_iret hx hb hr hlocks hP hD hS dX2_word_23 (⟨_, _, rfl, rfl, hL, hR⟩)

set_option maxRecDepth 100000 in
set_option maxHeartbeats 4000000 in
/-- word -/
theorem c_word11 (l : Launch) (dC : Nat → ClassId) (dI : Nat → Nat → Nat) {cI : ClassId} {tys : List (ClassId × FieldType)} (ht : tys[0]? = some (cI, .int)) (q : Nat → Nat) {A1 U1 A2 U2 L R : Nat} {b1 e1 b2 e2 : Int} (hA1 : wl A1 ≤ 150) (hU1 : wl U1 ≤ 150) (hA2 : wl A2 ≤ 150) (hU2 : wl U2 ≤ 150) (hL : wl L ≤ 301) (hR : wl R ≤ 301) (i : Int) (hi : ir i) : ef_C l yX2_word wsX2_word ({ frames := 2, cells := 0, slots := 0, locals := 44 } : Room) [.ref (q 0), .int (iv (1)), .int (iv (1)), .int (iv (i))] (dC, dI) vwCl tys (cC cI q (A1) (U1) (b1) (e1) (A2) (U2) (b2) (e2) (L) (R)) (fun o w1 => ∃ L2 R2 : Nat, o = some (.int (iv (wz (wd U2) i : Int))) ∧ w1 = cC cI q (A1) (U1) (b1) (e1) (A2) (U2) (b2) (e2) (L2) (R2) ∧ wl L2 ≤ 301 ∧ wl R2 ≤ 301) := by
  refine ef_C.of (cc := cX2_word) (maxL := 5) (ret := (some .int)) (by decide) rfl (Nat.le_of_ble_eq_true rfl) ?_
  intro p e s m below meth c ls hx hb hml hr hts hown hlocks hK hNX hP hD hS hl
  have hl : lv_has ls 5 [(0, .ref (q 0)), (1, .int (iv (1))), (2, .int (iv (1))), (3, .int (iv (i)))] := hl
  have hown : s.vm.findClass RX2 = some m.cls := hown
  generalize hH : s.heap = H at hP ⊢
  have hS : va_S (ef_A (cC cI q (A1) (U1) (b1) (e1) (A2) (U2) (b2) (e2) (L) (R))) s.heap H [] := by rw [← hH]; exact hS
  generalize ([] : List Loc) = locs at hS ⊢
  refine lv_aload_n hx hb dX2_word_0 rfl (lv_at hl 0 rfl) ?_
  refine lv_iload_n hx hb dX2_word_1 rfl (lv_at hl 1 rfl) ?_
  refine lv_iload_n hx hb dX2_word_2 rfl (lv_at hl 2 rfl) ?_
  refine ef_callV (As := [.int (iv (1)), .int (iv (1))]) (rest := []) ⟨hx, hb, hml, hown, hts⟩ (c_partOf11 l dC dI ht q) (cwV 2 hts gX2_word_X2_partOf rfl rfl rfl (by decide +kernel) ⟨Nat.le_of_ble_eq_true rfl, Nat.le_of_ble_eq_true rfl⟩) hK hNX hP hD hS 0 rfl rfl rfl rfl hl.1 rfl (Nat.le_of_ble_eq_true rfl) dX2_word_3 ⟨Nat.zero_le _, Nat.zero_le _⟩ (fun o w1 H locs hq hP hD hS => ?_)
  obtain ⟨rfl, e9⟩ := hq
  rw [e9] at hP hD
  refine W.eq (g2 := F0 m 6 ls [.ref (q 9)]) rfl ?_
  refine lv_astore (lv' := [(4, .ref (q 9)), (0, .ref (q 0)), (1, .int (iv (1))), (2, .int (iv (1))), (3, .int (iv (i)))]) hx hb dX2_word_6 hl (by decide) rfl (fun ls hl => ?_)
  refine lv_aload hx hb dX2_word_8 (lv_at hl 0 rfl) ?_
  refine lv_ifnonnull (tgt := 17) hx hb dX2_word_10 (by decide) ?_
  refine lv_aload hx hb dX2_word_17 (lv_at hl 0 rfl) ?_
  refine lv_iload_n hx hb dX2_word_19 rfl (lv_at hl 4 rfl) ?_
  refine ef_callV (As := [.int (iv (i))]) (rest := []) ⟨hx, hb, hml, hown, hts⟩ (c_wordAt l dC dI ht (isW_c (X := U2) (ws := cC cI q (A1) (U1) (b1) (e1) (A2) (U2) (b2) (e2) (L) (R)) (k0 := 9) (k1 := 10) (by decide) rfl rfl) i hi) (cwV 1 hts gX2_word_X1_wordAt rfl rfl rfl (by decide +kernel) ⟨Nat.le_of_ble_eq_true rfl, Nat.le_of_ble_eq_true rfl⟩) hK hNX hP hD hS 9 rfl rfl rfl rfl hl.1 rfl (Nat.le_of_ble_eq_true rfl) dX2_word_20 ⟨Nat.zero_le _, Nat.zero_le _⟩ (fun o w1 H locs hq hP hD hS => ?_)
  obtain ⟨rfl, e9⟩ := hq
  rw [e9] at hP hD
  refine W.eq (g2 := F0 m 23 ls [.int (iv ((wz (wd U2) i : Int)))]) rfl ?_
  exact ef_iret hx hb hr hlocks hP hD hS dX2_word_23 (⟨_, _, rfl, rfl, hL, hR⟩)

set_option maxRecDepth 100000 in
set_option maxHeartbeats 4000000 in
/-- word of no part -/
theorem c_word0x (l : Launch) (dC : Nat → ClassId) (dI : Nat → Nat → Nat) {cI : ClassId} {tys : List (ClassId × FieldType)} (ht : tys[0]? = some (cI, .int)) (q : Nat → Nat) {A1 U1 A2 U2 L R : Nat} {b1 e1 b2 e2 : Int} (hA1 : wl A1 ≤ 150) (hU1 : wl U1 ≤ 150) (hA2 : wl A2 ≤ 150) (hU2 : wl U2 ≤ 150) (hL : wl L ≤ 301) (hR : wl R ≤ 301) (z : Int) (hz : ir z) (hz0 : z ≠ 0) (hz1 : z ≠ 1) (i : Int) : ef_C l yX2_word wsX2_word ({ frames := 2, cells := 0, slots := 0, locals := 44 } : Room) [.ref (q 0), .int (iv (0)), .int (iv (z)), .int (iv (i))] (dC, dI) vwCl tys (cC cI q (A1) (U1) (b1) (e1) (A2) (U2) (b2) (e2) (L) (R)) (fun o w1 => ∃ L2 R2 : Nat, o = some (.int (iv (0))) ∧ w1 = cC cI q (A1) (U1) (b1) (e1) (A2) (U2) (b2) (e2) (L2) (R2) ∧ wl L2 ≤ 301 ∧ wl R2 ≤ 301) := by
  refine ef_C.of (cc := cX2_word) (maxL := 5) (ret := (some .int)) (by decide) rfl (Nat.le_of_ble_eq_true rfl) ?_
  intro p e s m below meth c ls hx hb hml hr hts hown hlocks hK hNX hP hD hS hl
  have hl : lv_has ls 5 [(0, .ref (q 0)), (1, .int (iv (0))), (2, .int (iv (z))), (3, .int (iv (i)))] := hl
  have hown : s.vm.findClass RX2 = some m.cls := hown
  generalize hH : s.heap = H at hP ⊢
  have hS : va_S (ef_A (cC cI q (A1) (U1) (b1) (e1) (A2) (U2) (b2) (e2) (L) (R))) s.heap H [] := by rw [← hH]; exact hS
  generalize ([] : List Loc) = locs at hS ⊢
  refine lv_aload_n hx hb dX2_word_0 rfl (lv_at hl 0 rfl) ?_
  refine lv_iload_n hx hb dX2_word_1 rfl (lv_at hl 1 rfl) ?_
  refine lv_iload_n hx hb dX2_word_2 rfl (lv_at hl 2 rfl) ?_
  refine ef_callV (As := [.int (iv (0)), .int (iv (z))]) (rest := []) ⟨hx, hb, hml, hown, hts⟩ (c_partOf0x l dC dI ht q z hz hz0 hz1) (cwV 2 hts gX2_word_X2_partOf rfl rfl rfl (by decide +kernel) ⟨Nat.le_of_ble_eq_true rfl, Nat.le_of_ble_eq_true rfl⟩) hK hNX hP hD hS 0 rfl rfl rfl rfl hl.1 rfl (Nat.le_of_ble_eq_true rfl) dX2_word_3 ⟨Nat.zero_le _, Nat.zero_le _⟩ (fun o w1 H locs hq hP hD hS => ?_)
  obtain ⟨rfl, e9⟩ := hq
  rw [e9] at hP hD
  refine W.eq (g2 := F0 m 6 ls [.null]) rfl ?_
  refine lv_astoreN (lv' := [(4, .null), (0, .ref (q 0)), (1, .int (iv (0))), (2, .int (iv (z))), (3, .int (iv (i)))]) hx hb dX2_word_6 hl (by decide) rfl (fun ls hl => ?_)
  refine lv_aloadN hx hb dX2_word_8 (lv_at hl 0 rfl) ?_
  refine lv_ifnonnullN hx hb dX2_word_10 ?_
  refine lv_iconst (v := iv (0)) hx hb dX2_word_13 (by decide) ?_
  refine lv_goto (tgt := 23) hx hb dX2_word_14 (by decide) ?_
  exact ef_iret hx hb hr hlocks hP hD hS dX2_word_23 (⟨_, _, rfl, rfl, hL, hR⟩)

set_option maxRecDepth 100000 in
set_option maxHeartbeats 4000000 in
/-- word of no part -/
theorem c_word1x (l : Launch) (dC : Nat → ClassId) (dI : Nat → Nat → Nat) {cI : ClassId} {tys : List (ClassId × FieldType)} (ht : tys[0]? = some (cI, .int)) (q : Nat → Nat) {A1 U1 A2 U2 L R : Nat} {b1 e1 b2 e2 : Int} (hA1 : wl A1 ≤ 150) (hU1 : wl U1 ≤ 150) (hA2 : wl A2 ≤ 150) (hU2 : wl U2 ≤ 150) (hL : wl L ≤ 301) (hR : wl R ≤ 301) (z : Int) (hz : ir z) (hz0 : z ≠ 0) (hz1 : z ≠ 1) (i : Int) : ef_C l yX2_word wsX2_word ({ frames := 2, cells := 0, slots := 0, locals := 44 } : Room) [.ref (q 0), .int (iv (1)), .int (iv (z)), .int (iv (i))] (dC, dI) vwCl tys (cC cI q (A1) (U1) (b1) (e1) (A2) (U2) (b2) (e2) (L) (R)) (fun o w1 => ∃ L2 R2 : Nat, o = some (.int (iv (0))) ∧ w1 = cC cI q (A1) (U1) (b1) (e1) (A2) (U2) (b2) (e2) (L2) (R2) ∧ wl L2 ≤ 301 ∧ wl R2 ≤ 301) := by
  refine ef_C.of (cc := cX2_word) (maxL := 5) (ret := (some .int)) (by decide) rfl (Nat.le_of_ble_eq_true rfl) ?_
  intro p e s m below meth c ls hx hb hml hr hts hown hlocks hK hNX hP hD hS hl
  have hl : lv_has ls 5 [(0, .ref (q 0)), (1, .int (iv (1))), (2, .int (iv (z))), (3, .int (iv (i)))] := hl
  have hown : s.vm.findClass RX2 = some m.cls := hown
  generalize hH : s.heap = H at hP ⊢
  have hS : va_S (ef_A (cC cI q (A1) (U1) (b1) (e1) (A2) (U2) (b2) (e2) (L) (R))) s.heap H [] := by rw [← hH]; exact hS
  generalize ([] : List Loc) = locs at hS ⊢
  refine lv_aload_n hx hb dX2_word_0 rfl (lv_at hl 0 rfl) ?_
  refine lv_iload_n hx hb dX2_word_1 rfl (lv_at hl 1 rfl) ?_
  refine lv_iload_n hx hb dX2_word_2 rfl (lv_at hl 2 rfl) ?_
  refine ef_callV (As := [.int (iv (1)), .int (iv (z))]) (rest := []) ⟨hx, hb, hml, hown, hts⟩ (c_partOf1x l dC dI ht q z hz hz0 hz1) (cwV 2 hts gX2_word_X2_partOf rfl rfl rfl (by decide +kernel) ⟨Nat.le_of_ble_eq_true rfl, Nat.le_of_ble_eq_true rfl⟩) hK hNX hP hD hS 0 rfl rfl rfl rfl hl.1 rfl (Nat.le_of_ble_eq_true rfl) dX2_word_3 ⟨Nat.zero_le _, Nat.zero_le _⟩ (fun o w1 H locs hq hP hD hS => ?_)
  obtain ⟨rfl, e9⟩ := hq
  rw [e9] at hP hD
  refine W.eq (g2 := F0 m 6 ls [.null]) rfl ?_
  refine lv_astoreN (lv' := [(4, .null), (0, .ref (q 0)), (1, .int (iv (1))), (2, .int (iv (z))), (3, .int (iv (i)))]) hx hb dX2_word_6 hl (by decide) rfl (fun ls hl => ?_)
  refine lv_aloadN hx hb dX2_word_8 (lv_at hl 0 rfl) ?_
  refine lv_ifnonnullN hx hb dX2_word_10 ?_
  refine lv_iconst (v := iv (0)) hx hb dX2_word_13 (by decide) ?_
  refine lv_goto (tgt := 23) hx hb dX2_word_14 (by decide) ?_
  exact ef_iret hx hb hr hlocks hP hD hS dX2_word_23 (⟨_, _, rfl, rfl, hL, hR⟩)

set_option maxRecDepth 100000 in
set_option maxHeartbeats 4000000 in
/-- word of no part -/
theorem c_wordxx (l : Launch) (dC : Nat → ClassId) (dI : Nat → Nat → Nat) {cI : ClassId} {tys : List (ClassId × FieldType)} (ht : tys[0]? = some (cI, .int)) (q : Nat → Nat) {A1 U1 A2 U2 L R : Nat} {b1 e1 b2 e2 : Int} (hA1 : wl A1 ≤ 150) (hU1 : wl U1 ≤ 150) (hA2 : wl A2 ≤ 150) (hU2 : wl U2 ≤ 150) (hL : wl L ≤ 301) (hR : wl R ≤ 301) (z y : Int) (hz : ir z) (hz0 : z ≠ 0) (hz1 : z ≠ 1) (i : Int) : ef_C l yX2_word wsX2_word ({ frames := 2, cells := 0, slots := 0, locals := 44 } : Room) [.ref (q 0), .int (iv (z)), .int (iv (y)), .int (iv (i))] (dC, dI) vwCl tys (cC cI q (A1) (U1) (b1) (e1) (A2) (U2) (b2) (e2) (L) (R)) (fun o w1 => ∃ L2 R2 : Nat, o = some (.int (iv (0))) ∧ w1 = cC cI q (A1) (U1) (b1) (e1) (A2) (U2) (b2) (e2) (L2) (R2) ∧ wl L2 ≤ 301 ∧ wl R2 ≤ 301) := by
  refine ef_C.of (cc := cX2_word) (maxL := 5) (ret := (some .int)) (by decide) rfl (Nat.le_of_ble_eq_true rfl) ?_
  intro p e s m below meth c ls hx hb hml hr hts hown hlocks hK hNX hP hD hS hl
  have hl : lv_has ls 5 [(0, .ref (q 0)), (1, .int (iv (z))), (2, .int (iv (y))), (3, .int (iv (i)))] := hl
  have hown : s.vm.findClass RX2 = some m.cls := hown
  generalize hH : s.heap = H at hP ⊢
  have hS : va_S (ef_A (cC cI q (A1) (U1) (b1) (e1) (A2) (U2) (b2) (e2) (L) (R))) s.heap H [] := by rw [← hH]; exact hS
  generalize ([] : List Loc) = locs at hS ⊢
  refine lv_aload_n hx hb dX2_word_0 rfl (lv_at hl 0 rfl) ?_
  refine lv_iload_n hx hb dX2_word_1 rfl (lv_at hl 1 rfl) ?_
  refine lv_iload_n hx hb dX2_word_2 rfl (lv_at hl 2 rfl) ?_
  refine ef_callV (As := [.int (iv (z)), .int (iv (y))]) (rest := []) ⟨hx, hb, hml, hown, hts⟩ (c_partOfxx l dC dI ht q z y hz hz0 hz1) (cwV 2 hts gX2_word_X2_partOf rfl rfl rfl (by decide +kernel) ⟨Nat.le_of_ble_eq_true rfl, Nat.le_of_ble_eq_true rfl⟩) hK hNX hP hD hS 0 rfl rfl rfl rfl hl.1 rfl (Nat.le_of_ble_eq_true rfl) dX2_word_3 ⟨Nat.zero_le _, Nat.zero_le _⟩ (fun o w1 H locs hq hP hD hS => ?_)
  obtain ⟨rfl, e9⟩ := hq
  rw [e9] at hP hD
  refine W.eq (g2 := F0 m 6 ls [.null]) rfl ?_
  refine lv_astoreN (lv' := [(4, .null), (0, .ref (q 0)), (1, .int (iv (z))), (2, .int (iv (y))), (3, .int (iv (i)))]) hx hb dX2_word_6 hl (by decide) rfl (fun ls hl => ?_)
  refine lv_aloadN hx hb dX2_word_8 (lv_at hl 0 rfl) ?_
  refine lv_ifnonnullN hx hb dX2_word_10 ?_
  refine lv_iconst (v := iv (0)) hx hb dX2_word_13 (by decide) ?_
  refine lv_goto (tgt := 23) hx hb dX2_word_14 (by decide) ?_
  exact ef_iret hx hb hr hlocks hP hD hS dX2_word_23 (⟨_, _, rfl, rfl, hL, hR⟩)
end
section
theorem jv_ne0 {v : Nat} (hv : v < 18446744073709551616) (h : v ≠ 0) : jv (v : Int) ≠ jv 0 := by
  intro q
  have e : (jv (v : Int)).toBitVec.toNat = (jv 0).toBitVec.toNat := by rw [q]
  have e1 : (jv (v : Int)).toBitVec.toNat = ((v : Int) % 18446744073709551616).toNat := by
    show (BitVec.ofInt 64 (v : Int)).toNat = _
    rw [BitVec.toNat_ofInt]
    rfl
  have e2 : (jv 0).toBitVec.toNat = 0 := rfl
  rw [e1, e2] at e
  omega
theorem lcmp_ne {x y : Int64} (h : x ≠ y) : ¬ lg_cmp x y = 0 := by
  unfold lg_cmp
  split
  · decide
  · first | decide | (rw [if_neg h]; decide)

set_option maxRecDepth 100000 in
set_option maxHeartbeats 4000000 in
/-- set -/
theorem c_set00 (l : Launch) (dC : Nat → ClassId) (dI : Nat → Nat → Nat) {cI : ClassId} {tys : List (ClassId × FieldType)} (ht : tys[0]? = some (cI, .int)) (q : Nat → Nat) {A1 U1 A2 U2 L R : Nat} {b1 e1 b2 e2 : Int} (hA1 : wl A1 ≤ 150) (hU1 : wl U1 ≤ 150) (hA2 : wl A2 ≤ 150) (hU2 : wl U2 ≤ 150) (hL : wl L ≤ 301) (hR : wl R ≤ 301) (v : Nat) (hv : v < 18446744073709551616) : ef_C l yX2_set wsX2_set ({ frames := 3, cells := 0, slots := 0, locals := 67 } : Room) [.ref (q 0), .int (iv (0)), .int (iv (0)), .long (jv ((v : Int)))] (dC, dI) vwCl tys (cC cI q (A1) (U1) (b1) (e1) (A2) (U2) (b2) (e2) (L) (R)) (fun o w1 => ∃ L2 R2 : Nat, o = some (.int (iv (bl v : Int))) ∧ w1 = cC cI q (v) (U1) (b1) (e1) (A2) (U2) (b2) (e2) (L2) (R2) ∧ wl L2 ≤ 301 ∧ wl R2 ≤ 301) := by
  refine ef_C.of (cc := cX2_set) (maxL := 6) (ret := (some .int)) (by decide) rfl (Nat.le_of_ble_eq_true rfl) ?_
  intro p e s m below meth c ls hx hb hml hr hts hown hlocks hK hNX hP hD hS hl
  have hl : lv_has ls 6 [(0, .ref (q 0)), (1, .int (iv (0))), (2, .int (iv (0))), (3, .long (jv ((v : Int))))] := hl
  have hown : s.vm.findClass RX2 = some m.cls := hown
  generalize hH : s.heap = H at hP ⊢
  have hS : va_S (ef_A (cC cI q (A1) (U1) (b1) (e1) (A2) (U2) (b2) (e2) (L) (R))) s.heap H [] := by rw [← hH]; exact hS
  generalize ([] : List Loc) = locs at hS ⊢
  refine lv_aload_n hx hb dX2_set_0 rfl (lv_at hl 0 rfl) ?_
  refine lv_iload_n hx hb dX2_set_1 rfl (lv_at hl 1 rfl) ?_
  refine lv_iload_n hx hb dX2_set_2 rfl (lv_at hl 2 rfl) ?_
  refine ef_callV (As := [.int (iv (0)), .int (iv (0))]) (rest := []) ⟨hx, hb, hml, hown, hts⟩ (c_partOf00 l dC dI ht q) (cwV 2 hts gX2_set_X2_partOf rfl rfl rfl (by decide +kernel) ⟨Nat.le_of_ble_eq_true rfl, Nat.le_of_ble_eq_true rfl⟩) hK hNX hP hD hS 0 rfl rfl rfl rfl hl.1 rfl (Nat.le_of_ble_eq_true rfl) dX2_set_3 ⟨Nat.zero_le _, Nat.zero_le _⟩ (fun o w1 H locs hq hP hD hS => ?_)
  obtain ⟨rfl, e9⟩ := hq
  rw [e9] at hP hD
  refine W.eq (g2 := F0 m 6 ls [.ref (q 3)]) rfl ?_
  refine lv_astore (lv' := [(5, .ref (q 3)), (0, .ref (q 0)), (1, .int (iv (0))), (2, .int (iv (0))), (3, .long (jv ((v : Int))))]) hx hb dX2_set_6 hl (by decide) rfl (fun ls hl => ?_)
  refine lv_aload hx hb dX2_set_8 (lv_at hl 0 rfl) ?_
  refine lv_ifnonnull (tgt := 15) hx hb dX2_set_10 (by decide) ?_
  refine lv_iload_n hx hb dX2_set_15 rfl (lv_at hl 3 rfl) ?_
  refine lv_iconst (v := iv (1)) hx hb dX2_set_16 (by decide) ?_
  refine iw_icmp_ne (tgt := 29) hx hb dX2_set_17 (by decide) ⟨by omega, by omega⟩ ⟨by omega, by omega⟩ (fun c1 => ?_) (fun c1 => ?_)
  ·
    refine lv_aload hx hb dX2_set_29 (lv_at hl 0 rfl) ?_
    refine lv_lload_n hx hb dX2_set_31 rfl (lv_at hl 4 rfl) ?_
    refine ef_callV (As := [.long (jv ((v : Int)))]) (rest := []) ⟨hx, hb, hml, hown, hts⟩ (c_become l dC dI ht (isW_c (X := A1) (ws := cC cI q (A1) (U1) (b1) (e1) (A2) (U2) (b2) (e2) (L) (R)) (k0 := 3) (k1 := 4) (by decide) rfl rfl) (by omega) (wd_lt _) wd_z v hv) (cwV 1 hts gX2_set_X1_become rfl rfl rfl (by decide +kernel) ⟨Nat.le_of_ble_eq_true rfl, Nat.le_of_ble_eq_true rfl⟩) hK hNX hP hD hS 3 rfl rfl rfl rfl hl.1 rfl (Nat.le_of_ble_eq_true rfl) dX2_set_32 ⟨Nat.zero_le _, Nat.zero_le _⟩ (fun o w1 H locs hq hP hD hS => ?_)
    obtain ⟨rfl, rfl⟩ := hq
    have hP : va_P (dC, dI) vwCl (cC cI q (v) (U1) (b1) (e1) (A2) (U2) (b2) (e2) (L) (R)) H := hP
    have hD : va_D (ef_A (cC cI q (A1) (U1) (b1) (e1) (A2) (U2) (b2) (e2) (L) (R))) (cC cI q (v) (U1) (b1) (e1) (A2) (U2) (b2) (e2) (L) (R)) := hD
    refine W.eq (g2 := F0 m 35 ls []) rfl ?_
    have hwv : wl v ≤ 2 := wl_le (by show v < 2 ^ (32 * 2); omega)
    refine lv_aload hx hb dX2_set_35 (lv_at hl 0 rfl) ?_
    refine ef_callV (As := []) (rest := []) ⟨hx, hb, hml, hown, hts⟩ (c_length l dC dI ht (isW_c (X := v) (ws := cC cI q (v) (U1) (b1) (e1) (A2) (U2) (b2) (e2) (L) (R)) (k0 := 3) (k1 := 4) (by decide) rfl rfl) (by omega)) (cwV 0 hts gX2_set_X1_length rfl rfl rfl (by decide +kernel) ⟨Nat.le_of_ble_eq_true rfl, Nat.le_of_ble_eq_true rfl⟩) hK hNX hP hD hS 3 rfl rfl rfl rfl hl.1 rfl (Nat.le_of_ble_eq_true rfl) dX2_set_37 ⟨Nat.zero_le _, Nat.zero_le _⟩ (fun o w1 H locs hq hP hD hS => ?_)
    obtain ⟨rfl, e9⟩ := hq
    rw [e9] at hP hD
    refine W.eq (g2 := F0 m 40 ls [.int (iv ((bl v : Int)))]) rfl ?_
    exact ef_iret hx hb hr hlocks hP hD hS dX2_set_40 (⟨_, _, rfl, rfl, hL, hR⟩)
  ·
    exact absurd c1 (by decide)

set_option maxRecDepth 100000 in
set_option maxHeartbeats 4000000 in
/-- set -/
theorem c_set01 (l : Launch) (dC : Nat → ClassId) (dI : Nat → Nat → Nat) {cI : ClassId} {tys : List (ClassId × FieldType)} (ht : tys[0]? = some (cI, .int)) (q : Nat → Nat) {A1 U1 A2 U2 L R : Nat} {b1 e1 b2 e2 : Int} (hA1 : wl A1 ≤ 150) (hU1 : wl U1 ≤ 150) (hA2 : wl A2 ≤ 150) (hU2 : wl U2 ≤ 150) (hL : wl L ≤ 301) (hR : wl R ≤ 301) (v : Nat) (hv : v < 18446744073709551616) (hv0 : v ≠ 0) : ef_C l yX2_set wsX2_set ({ frames := 3, cells := 0, slots := 0, locals := 67 } : Room) [.ref (q 0), .int (iv (0)), .int (iv (1)), .long (jv ((v : Int)))] (dC, dI) vwCl tys (cC cI q (A1) (U1) (b1) (e1) (A2) (U2) (b2) (e2) (L) (R)) (fun o w1 => ∃ L2 R2 : Nat, o = some (.int (iv (bl v : Int))) ∧ w1 = cC cI q (A1) (v) (b1) (e1) (A2) (U2) (b2) (e2) (L2) (R2) ∧ wl L2 ≤ 301 ∧ wl R2 ≤ 301) := by
  refine ef_C.of (cc := cX2_set) (maxL := 6) (ret := (some .int)) (by decide) rfl (Nat.le_of_ble_eq_true rfl) ?_
  intro p e s m below meth c ls hx hb hml hr hts hown hlocks hK hNX hP hD hS hl
  have hl : lv_has ls 6 [(0, .ref (q 0)), (1, .int (iv (0))), (2, .int (iv (1))), (3, .long (jv ((v : Int))))] := hl
  have hown : s.vm.findClass RX2 = some m.cls := hown
  generalize hH : s.heap = H at hP ⊢
  have hS : va_S (ef_A (cC cI q (A1) (U1) (b1) (e1) (A2) (U2) (b2) (e2) (L) (R))) s.heap H [] := by rw [← hH]; exact hS
  generalize ([] : List Loc) = locs at hS ⊢
  refine lv_aload_n hx hb dX2_set_0 rfl (lv_at hl 0 rfl) ?_
  refine lv_iload_n hx hb dX2_set_1 rfl (lv_at hl 1 rfl) ?_
  refine lv_iload_n hx hb dX2_set_2 rfl (lv_at hl 2 rfl) ?_
  refine ef_callV (As := [.int (iv (0)), .int (iv (1))]) (rest := []) ⟨hx, hb, hml, hown, hts⟩ (c_partOf01 l dC dI ht q) (cwV 2 hts gX2_set_X2_partOf rfl rfl rfl (by decide +kernel) ⟨Nat.le_of_ble_eq_true rfl, Nat.le_of_ble_eq_true rfl⟩) hK hNX hP hD hS 0 rfl rfl rfl rfl hl.1 rfl (Nat.le_of_ble_eq_true rfl) dX2_set_3 ⟨Nat.zero_le _, Nat.zero_le _⟩ (fun o w1 H locs hq hP hD hS => ?_)
  obtain ⟨rfl, e9⟩ := hq
  rw [e9] at hP hD
  refine W.eq (g2 := F0 m 6 ls [.ref (q 5)]) rfl ?_
  refine lv_astore (lv' := [(5, .ref (q 5)), (0, .ref (q 0)), (1, .int (iv (0))), (2, .int (iv (1))), (3, .long (jv ((v : Int))))]) hx hb dX2_set_6 hl (by decide) rfl (fun ls hl => ?_)
  refine lv_aload hx hb dX2_set_8 (lv_at hl 0 rfl) ?_
  refine lv_ifnonnull (tgt := 15) hx hb dX2_set_10 (by decide) ?_
  refine lv_iload_n hx hb dX2_set_15 rfl (lv_at hl 3 rfl) ?_
  refine lv_iconst (v := iv (1)) hx hb dX2_set_16 (by decide) ?_
  refine iw_icmp_ne (tgt := 29) hx hb dX2_set_17 (by decide) ⟨by omega, by omega⟩ ⟨by omega, by omega⟩ (fun c1 => ?_) (fun c1 => ?_)
  ·
    exact absurd rfl c1
  ·
    refine lv_lload_n hx hb dX2_set_20 rfl (lv_at hl 4 rfl) ?_
    refine lv_lconst (v := jv (0)) hx hb dX2_set_21 (by decide) ?_
    refine W.lcmp hx hb dX2_set_22 ?_
    have hne : ¬ lg_cmp (jv (v : Int)) (jv 0) = 0 := lcmp_ne (jv_ne0 hv hv0)
    refine lv_if_ne (tgt := 29) hx hb dX2_set_23 (by decide) (fun c2 => ?_) (fun c2 => ?_)
    ·
      refine lv_aload hx hb dX2_set_29 (lv_at hl 0 rfl) ?_
      refine lv_lload_n hx hb dX2_set_31 rfl (lv_at hl 4 rfl) ?_
      refine ef_callV (As := [.long (jv ((v : Int)))]) (rest := []) ⟨hx, hb, hml, hown, hts⟩ (c_become l dC dI ht (isW_c (X := U1) (ws := cC cI q (A1) (U1) (b1) (e1) (A2) (U2) (b2) (e2) (L) (R)) (k0 := 5) (k1 := 6) (by decide) rfl rfl) (by omega) (wd_lt _) wd_z v hv) (cwV 1 hts gX2_set_X1_become rfl rfl rfl (by decide +kernel) ⟨Nat.le_of_ble_eq_true rfl, Nat.le_of_ble_eq_true rfl⟩) hK hNX hP hD hS 5 rfl rfl rfl rfl hl.1 rfl (Nat.le_of_ble_eq_true rfl) dX2_set_32 ⟨Nat.zero_le _, Nat.zero_le _⟩ (fun o w1 H locs hq hP hD hS => ?_)
      obtain ⟨rfl, rfl⟩ := hq
      have hP : va_P (dC, dI) vwCl (cC cI q (A1) (v) (b1) (e1) (A2) (U2) (b2) (e2) (L) (R)) H := hP
      have hD : va_D (ef_A (cC cI q (A1) (U1) (b1) (e1) (A2) (U2) (b2) (e2) (L) (R))) (cC cI q (A1) (v) (b1) (e1) (A2) (U2) (b2) (e2) (L) (R)) := hD
      refine W.eq (g2 := F0 m 35 ls []) rfl ?_
      have hwv : wl v ≤ 2 := wl_le (by show v < 2 ^ (32 * 2); omega)
      refine lv_aload hx hb dX2_set_35 (lv_at hl 0 rfl) ?_
      refine ef_callV (As := []) (rest := []) ⟨hx, hb, hml, hown, hts⟩ (c_length l dC dI ht (isW_c (X := v) (ws := cC cI q (A1) (v) (b1) (e1) (A2) (U2) (b2) (e2) (L) (R)) (k0 := 5) (k1 := 6) (by decide) rfl rfl) (by omega)) (cwV 0 hts gX2_set_X1_length rfl rfl rfl (by decide +kernel) ⟨Nat.le_of_ble_eq_true rfl, Nat.le_of_ble_eq_true rfl⟩) hK hNX hP hD hS 5 rfl rfl rfl rfl hl.1 rfl (Nat.le_of_ble_eq_true rfl) dX2_set_37 ⟨Nat.zero_le _, Nat.zero_le _⟩ (fun o w1 H locs hq hP hD hS => ?_)
      obtain ⟨rfl, e9⟩ := hq
      rw [e9] at hP hD
      refine W.eq (g2 := F0 m 40 ls [.int (iv ((bl v : Int)))]) rfl ?_
      exact ef_iret hx hb hr hlocks hP hD hS dX2_set_40 (⟨_, _, rfl, rfl, hL, hR⟩)
    ·
      exact absurd c2 hne

set_option maxRecDepth 100000 in
set_option maxHeartbeats 4000000 in
/-- set -/
theorem c_set10 (l : Launch) (dC : Nat → ClassId) (dI : Nat → Nat → Nat) {cI : ClassId} {tys : List (ClassId × FieldType)} (ht : tys[0]? = some (cI, .int)) (q : Nat → Nat) {A1 U1 A2 U2 L R : Nat} {b1 e1 b2 e2 : Int} (hA1 : wl A1 ≤ 150) (hU1 : wl U1 ≤ 150) (hA2 : wl A2 ≤ 150) (hU2 : wl U2 ≤ 150) (hL : wl L ≤ 301) (hR : wl R ≤ 301) (v : Nat) (hv : v < 18446744073709551616) : ef_C l yX2_set wsX2_set ({ frames := 3, cells := 0, slots := 0, locals := 67 } : Room) [.ref (q 0), .int (iv (1)), .int (iv (0)), .long (jv ((v : Int)))] (dC, dI) vwCl tys (cC cI q (A1) (U1) (b1) (e1) (A2) (U2) (b2) (e2) (L) (R)) (fun o w1 => ∃ L2 R2 : Nat, o = some (.int (iv (bl v : Int))) ∧ w1 = cC cI q (A1) (U1) (b1) (e1) (v) (U2) (b2) (e2) (L2) (R2) ∧ wl L2 ≤ 301 ∧ wl R2 ≤ 301) := by
  refine ef_C.of (cc := cX2_set) (maxL := 6) (ret := (some .int)) (by decide) rfl (Nat.le_of_ble_eq_true rfl) ?_
  intro p e s m below meth c ls hx hb hml hr hts hown hlocks hK hNX hP hD hS hl
  have hl : lv_has ls 6 [(0, .ref (q 0)), (1, .int (iv (1))), (2, .int (iv (0))), (3, .long (jv ((v : Int))))] := hl
  have hown : s.vm.findClass RX2 = some m.cls := hown
  generalize hH : s.heap = H at hP ⊢
  have hS : va_S (ef_A (cC cI q (A1) (U1) (b1) (e1) (A2) (U2) (b2) (e2) (L) (R))) s.heap H [] := by rw [← hH]; exact hS
  generalize ([] : List Loc) = locs at hS ⊢
  refine lv_aload_n hx hb dX2_set_0 rfl (lv_at hl 0 rfl) ?_
  refine lv_iload_n hx hb dX2_set_1 rfl (lv_at hl 1 rfl) ?_
  refine lv_iload_n hx hb dX2_set_2 rfl (lv_at hl 2 rfl) ?_
  refine ef_callV (As := [.int (iv (1)), .int (iv (0))]) (rest := []) ⟨hx, hb, hml, hown, hts⟩ (c_partOf10 l dC dI ht q) (cwV 2 hts gX2_set_X2_partOf rfl rfl rfl (by decide +kernel) ⟨Nat.le_of_ble_eq_true rfl, Nat.le_of_ble_eq_true rfl⟩) hK hNX hP hD hS 0 rfl rfl rfl rfl hl.1 rfl (Nat.le_of_ble_eq_true rfl) dX2_set_3 ⟨Nat.zero_le _, Nat.zero_le _⟩ (fun o w1 H locs hq hP hD hS => ?_)
  obtain ⟨rfl, e9⟩ := hq
  rw [e9] at hP hD
  refine W.eq (g2 := F0 m 6 ls [.ref (q 7)]) rfl ?_
  refine lv_astore (lv' := [(5, .ref (q 7)), (0, .ref (q 0)), (1, .int (iv (1))), (2, .int (iv (0))), (3, .long (jv ((v : Int))))]) hx hb dX2_set_6 hl (by decide) rfl (fun ls hl => ?_)
  refine lv_aload hx hb dX2_set_8 (lv_at hl 0 rfl) ?_
  refine lv_ifnonnull (tgt := 15) hx hb dX2_set_10 (by decide) ?_
  refine lv_iload_n hx hb dX2_set_15 rfl (lv_at hl 3 rfl) ?_
  refine lv_iconst (v := iv (1)) hx hb dX2_set_16 (by decide) ?_
  refine iw_icmp_ne (tgt := 29) hx hb dX2_set_17 (by decide) ⟨by omega, by omega⟩ ⟨by omega, by omega⟩ (fun c1 => ?_) (fun c1 => ?_)
  ·
    refine lv_aload hx hb dX2_set_29 (lv_at hl 0 rfl) ?_
    refine lv_lload_n hx hb dX2_set_31 rfl (lv_at hl 4 rfl) ?_
    refine ef_callV (As := [.long (jv ((v : Int)))]) (rest := []) ⟨hx, hb, hml, hown, hts⟩ (c_become l dC dI ht (isW_c (X := A2) (ws := cC cI q (A1) (U1) (b1) (e1) (A2) (U2) (b2) (e2) (L) (R)) (k0 := 7) (k1 := 8) (by decide) rfl rfl) (by omega) (wd_lt _) wd_z v hv) (cwV 1 hts gX2_set_X1_become rfl rfl rfl (by decide +kernel) ⟨Nat.le_of_ble_eq_true rfl, Nat.le_of_ble_eq_true rfl⟩) hK hNX hP hD hS 7 rfl rfl rfl rfl hl.1 rfl (Nat.le_of_ble_eq_true rfl) dX2_set_32 ⟨Nat.zero_le _, Nat.zero_le _⟩ (fun o w1 H locs hq hP hD hS => ?_)
    obtain ⟨rfl, rfl⟩ := hq
    have hP : va_P (dC, dI) vwCl (cC cI q (A1) (U1) (b1) (e1) (v) (U2) (b2) (e2) (L) (R)) H := hP
    have hD : va_D (ef_A (cC cI q (A1) (U1) (b1) (e1) (A2) (U2) (b2) (e2) (L) (R))) (cC cI q (A1) (U1) (b1) (e1) (v) (U2) (b2) (e2) (L) (R)) := hD
    refine W.eq (g2 := F0 m 35 ls []) rfl ?_
    have hwv : wl v ≤ 2 := wl_le (by show v < 2 ^ (32 * 2); omega)
    refine lv_aload hx hb dX2_set_35 (lv_at hl 0 rfl) ?_
    refine ef_callV (As := []) (rest := []) ⟨hx, hb, hml, hown, hts⟩ (c_length l dC dI ht (isW_c (X := v) (ws := cC cI q (A1) (U1) (b1) (e1) (v) (U2) (b2) (e2) (L) (R)) (k0 := 7) (k1 := 8) (by decide) rfl rfl) (by omega)) (cwV 0 hts gX2_set_X1_length rfl rfl rfl (by decide +kernel) ⟨Nat.le_of_ble_eq_true rfl, Nat.le_of_ble_eq_true rfl⟩) hK hNX hP hD hS 7 rfl rfl rfl rfl hl.1 rfl (Nat.le_of_ble_eq_true rfl) dX2_set_37 ⟨Nat.zero_le _, Nat.zero_le _⟩ (fun o w1 H locs hq hP hD hS => ?_)
    obtain ⟨rfl, e9⟩ := hq
    rw [e9] at hP hD
    refine W.eq (g2 := F0 m 40 ls [.int (iv ((bl v : Int)))]) rfl ?_
    exact ef_iret hx hb hr hlocks hP hD hS dX2_set_40 (⟨_, _, rfl, rfl, hL, hR⟩)
  ·
    exact absurd c1 (by decide)

set_option maxRecDepth 100000 in
set_option maxHeartbeats 4000000 in
/-- set -/
theorem c_set11 (l : Launch) (dC : Nat → ClassId) (dI : Nat → Nat → Nat) {cI : ClassId} {tys : List (ClassId × FieldType)} (ht : tys[0]? = some (cI, .int)) (q : Nat → Nat) {A1 U1 A2 U2 L R : Nat} {b1 e1 b2 e2 : Int} (hA1 : wl A1 ≤ 150) (hU1 : wl U1 ≤ 150) (hA2 : wl A2 ≤ 150) (hU2 : wl U2 ≤ 150) (hL : wl L ≤ 301) (hR : wl R ≤ 301) (v : Nat) (hv : v < 18446744073709551616) (hv0 : v ≠ 0) : ef_C l yX2_set wsX2_set ({ frames := 3, cells := 0, slots := 0, locals := 67 } : Room) [.ref (q 0), .int (iv (1)), .int (iv (1)), .long (jv ((v : Int)))] (dC, dI) vwCl tys (cC cI q (A1) (U1) (b1) (e1) (A2) (U2) (b2) (e2) (L) (R)) (fun o w1 => ∃ L2 R2 : Nat, o = some (.int (iv (bl v : Int))) ∧ w1 = cC cI q (A1) (U1) (b1) (e1) (A2) (v) (b2) (e2) (L2) (R2) ∧ wl L2 ≤ 301 ∧ wl R2 ≤ 301) := by
  refine ef_C.of (cc := cX2_set) (maxL := 6) (ret := (some .int)) (by decide) rfl (Nat.le_of_ble_eq_true rfl) ?_
  intro p e s m below meth c ls hx hb hml hr hts hown hlocks hK hNX hP hD hS hl
  have hl : lv_has ls 6 [(0, .ref (q 0)), (1, .int (iv (1))), (2, .int (iv (1))), (3, .long (jv ((v : Int))))] := hl
  have hown : s.vm.findClass RX2 = some m.cls := hown
  generalize hH : s.heap = H at hP ⊢
  have hS : va_S (ef_A (cC cI q (A1) (U1) (b1) (e1) (A2) (U2) (b2) (e2) (L) (R))) s.heap H [] := by rw [← hH]; exact hS
  generalize ([] : List Loc) = locs at hS ⊢
  refine lv_aload_n hx hb dX2_set_0 rfl (lv_at hl 0 rfl) ?_
  refine lv_iload_n hx hb dX2_set_1 rfl (lv_at hl 1 rfl) ?_
  refine lv_iload_n hx hb dX2_set_2 rfl (lv_at hl 2 rfl) ?_
  refine ef_callV (As := [.int (iv (1)), .int (iv (1))]) (rest := []) ⟨hx, hb, hml, hown, hts⟩ (c_partOf11 l dC dI ht q) (cwV 2 hts gX2_set_X2_partOf rfl rfl rfl (by decide +kernel) ⟨Nat.le_of_ble_eq_true rfl, Nat.le_of_ble_eq_true rfl⟩) hK hNX hP hD hS 0 rfl rfl rfl rfl hl.1 rfl (Nat.le_of_ble_eq_true rfl) dX2_set_3 ⟨Nat.zero_le _, Nat.zero_le _⟩ (fun o w1 H locs hq hP hD hS => ?_)
  obtain ⟨rfl, e9⟩ := hq
  rw [e9] at hP hD
  refine W.eq (g2 := F0 m 6 ls [.ref (q 9)]) rfl ?_
  refine lv_astore (lv' := [(5, .ref (q 9)), (0, .ref (q 0)), (1, .int (iv (1))), (2, .int (iv (1))), (3, .long (jv ((v : Int))))]) hx hb dX2_set_6 hl (by decide) rfl (fun ls hl => ?_)
  refine lv_aload hx hb dX2_set_8 (lv_at hl 0 rfl) ?_
  refine lv_ifnonnull (tgt := 15) hx hb dX2_set_10 (by decide) ?_
  refine lv_iload_n hx hb dX2_set_15 rfl (lv_at hl 3 rfl) ?_
  refine lv_iconst (v := iv (1)) hx hb dX2_set_16 (by decide) ?_
  refine iw_icmp_ne (tgt := 29) hx hb dX2_set_17 (by decide) ⟨by omega, by omega⟩ ⟨by omega, by omega⟩ (fun c1 => ?_) (fun c1 => ?_)
  ·
    exact absurd rfl c1
  ·
    refine lv_lload_n hx hb dX2_set_20 rfl (lv_at hl 4 rfl) ?_
    refine lv_lconst (v := jv (0)) hx hb dX2_set_21 (by decide) ?_
    refine W.lcmp hx hb dX2_set_22 ?_
    have hne : ¬ lg_cmp (jv (v : Int)) (jv 0) = 0 := lcmp_ne (jv_ne0 hv hv0)
    refine lv_if_ne (tgt := 29) hx hb dX2_set_23 (by decide) (fun c2 => ?_) (fun c2 => ?_)
    ·
      refine lv_aload hx hb dX2_set_29 (lv_at hl 0 rfl) ?_
      refine lv_lload_n hx hb dX2_set_31 rfl (lv_at hl 4 rfl) ?_
      refine ef_callV (As := [.long (jv ((v : Int)))]) (rest := []) ⟨hx, hb, hml, hown, hts⟩ (c_become l dC dI ht (isW_c (X := U2) (ws := cC cI q (A1) (U1) (b1) (e1) (A2) (U2) (b2) (e2) (L) (R)) (k0 := 9) (k1 := 10) (by decide) rfl rfl) (by omega) (wd_lt _) wd_z v hv) (cwV 1 hts gX2_set_X1_become rfl rfl rfl (by decide +kernel) ⟨Nat.le_of_ble_eq_true rfl, Nat.le_of_ble_eq_true rfl⟩) hK hNX hP hD hS 9 rfl rfl rfl rfl hl.1 rfl (Nat.le_of_ble_eq_true rfl) dX2_set_32 ⟨Nat.zero_le _, Nat.zero_le _⟩ (fun o w1 H locs hq hP hD hS => ?_)
      obtain ⟨rfl, rfl⟩ := hq
      have hP : va_P (dC, dI) vwCl (cC cI q (A1) (U1) (b1) (e1) (A2) (v) (b2) (e2) (L) (R)) H := hP
      have hD : va_D (ef_A (cC cI q (A1) (U1) (b1) (e1) (A2) (U2) (b2) (e2) (L) (R))) (cC cI q (A1) (U1) (b1) (e1) (A2) (v) (b2) (e2) (L) (R)) := hD
      refine W.eq (g2 := F0 m 35 ls []) rfl ?_
      have hwv : wl v ≤ 2 := wl_le (by show v < 2 ^ (32 * 2); omega)
      refine lv_aload hx hb dX2_set_35 (lv_at hl 0 rfl) ?_
      refine ef_callV (As := []) (rest := []) ⟨hx, hb, hml, hown, hts⟩ (c_length l dC dI ht (isW_c (X := v) (ws := cC cI q (A1) (U1) (b1) (e1) (A2) (v) (b2) (e2) (L) (R)) (k0 := 9) (k1 := 10) (by decide) rfl rfl) (by omega)) (cwV 0 hts gX2_set_X1_length rfl rfl rfl (by decide +kernel) ⟨Nat.le_of_ble_eq_true rfl, Nat.le_of_ble_eq_true rfl⟩) hK hNX hP hD hS 9 rfl rfl rfl rfl hl.1 rfl (Nat.le_of_ble_eq_true rfl) dX2_set_37 ⟨Nat.zero_le _, Nat.zero_le _⟩ (fun o w1 H locs hq hP hD hS => ?_)
      obtain ⟨rfl, e9⟩ := hq
      rw [e9] at hP hD
      refine W.eq (g2 := F0 m 40 ls [.int (iv ((bl v : Int)))]) rfl ?_
      exact ef_iret hx hb hr hlocks hP hD hS dX2_set_40 (⟨_, _, rfl, rfl, hL, hR⟩)
    ·
      exact absurd c2 hne

set_option maxRecDepth 100000 in
set_option maxHeartbeats 4000000 in
/-- set of 0 under -/
theorem c_set0Z (l : Launch) (dC : Nat → ClassId) (dI : Nat → Nat → Nat) {cI : ClassId} {tys : List (ClassId × FieldType)} (ht : tys[0]? = some (cI, .int)) (q : Nat → Nat) {A1 U1 A2 U2 L R : Nat} {b1 e1 b2 e2 : Int} (hA1 : wl A1 ≤ 150) (hU1 : wl U1 ≤ 150) (hA2 : wl A2 ≤ 150) (hU2 : wl U2 ≤ 150) (hL : wl L ≤ 301) (hR : wl R ≤ 301) : ef_C l yX2_set wsX2_set ({ frames := 3, cells := 0, slots := 0, locals := 67 } : Room) [.ref (q 0), .int (iv (0)), .int (iv (1)), .long (jv (0))] (dC, dI) vwCl tys (cC cI q (A1) (U1) (b1) (e1) (A2) (U2) (b2) (e2) (L) (R)) (fun o w1 => ∃ L2 R2 : Nat, o = some (.int (iv (-3))) ∧ w1 = cC cI q (A1) (U1) (b1) (e1) (A2) (U2) (b2) (e2) (L2) (R2) ∧ wl L2 ≤ 301 ∧ wl R2 ≤ 301) := by
  refine ef_C.of (cc := cX2_set) (maxL := 6) (ret := (some .int)) (by decide) rfl (Nat.le_of_ble_eq_true rfl) ?_
  intro p e s m below meth c ls hx hb hml hr hts hown hlocks hK hNX hP hD hS hl
  have hl : lv_has ls 6 [(0, .ref (q 0)), (1, .int (iv (0))), (2, .int (iv (1))), (3, .long (jv (0)))] := hl
  have hown : s.vm.findClass RX2 = some m.cls := hown
  generalize hH : s.heap = H at hP ⊢
  have hS : va_S (ef_A (cC cI q (A1) (U1) (b1) (e1) (A2) (U2) (b2) (e2) (L) (R))) s.heap H [] := by rw [← hH]; exact hS
  generalize ([] : List Loc) = locs at hS ⊢
  refine lv_aload_n hx hb dX2_set_0 rfl (lv_at hl 0 rfl) ?_
  refine lv_iload_n hx hb dX2_set_1 rfl (lv_at hl 1 rfl) ?_
  refine lv_iload_n hx hb dX2_set_2 rfl (lv_at hl 2 rfl) ?_
  refine ef_callV (As := [.int (iv (0)), .int (iv (1))]) (rest := []) ⟨hx, hb, hml, hown, hts⟩ (c_partOf01 l dC dI ht q) (cwV 2 hts gX2_set_X2_partOf rfl rfl rfl (by decide +kernel) ⟨Nat.le_of_ble_eq_true rfl, Nat.le_of_ble_eq_true rfl⟩) hK hNX hP hD hS 0 rfl rfl rfl rfl hl.1 rfl (Nat.le_of_ble_eq_true rfl) dX2_set_3 ⟨Nat.zero_le _, Nat.zero_le _⟩ (fun o w1 H locs hq hP hD hS => ?_)
  obtain ⟨rfl, e9⟩ := hq
  rw [e9] at hP hD
  refine W.eq (g2 := F0 m 6 ls [.ref (q 5)]) rfl ?_
  refine lv_astore (lv' := [(5, .ref (q 5)), (0, .ref (q 0)), (1, .int (iv (0))), (2, .int (iv (1))), (3, .long (jv (0)))]) hx hb dX2_set_6 hl (by decide) rfl (fun ls hl => ?_)
  refine lv_aload hx hb dX2_set_8 (lv_at hl 0 rfl) ?_
  refine lv_ifnonnull (tgt := 15) hx hb dX2_set_10 (by decide) ?_
  refine lv_iload_n hx hb dX2_set_15 rfl (lv_at hl 3 rfl) ?_
  refine lv_iconst (v := iv (1)) hx hb dX2_set_16 (by decide) ?_
  refine iw_icmp_ne (tgt := 29) hx hb dX2_set_17 (by decide) ⟨by omega, by omega⟩ ⟨by omega, by omega⟩ (fun c1 => ?_) (fun c1 => ?_)
  ·
    exact absurd rfl c1
  ·
    refine lv_lload_n hx hb dX2_set_20 rfl (lv_at hl 4 rfl) ?_
    refine lv_lconst (v := jv (0)) hx hb dX2_set_21 (by decide) ?_
    refine iw_lcmp hx hb (⟨by omega, by omega⟩) (⟨by omega, by omega⟩) dX2_set_22 ?_
    refine iw_if_ne (tgt := 29) hx hb dX2_set_23 (by decide) (ir_zc _ _) (fun c2 => ?_) (fun c2 => ?_)
    ·
      exact absurd (zc_eq 0) c2
    ·
      refine lv_bipush (v := iv (-3)) hx hb dX2_set_26 (by decide) ?_
      exact ef_iret hx hb hr hlocks hP hD hS dX2_set_28 (⟨_, _, rfl, rfl, hL, hR⟩)

set_option maxRecDepth 100000 in
set_option maxHeartbeats 4000000 in
/-- set of 0 under -/
theorem c_set1Z (l : Launch) (dC : Nat → ClassId) (dI : Nat → Nat → Nat) {cI : ClassId} {tys : List (ClassId × FieldType)} (ht : tys[0]? = some (cI, .int)) (q : Nat → Nat) {A1 U1 A2 U2 L R : Nat} {b1 e1 b2 e2 : Int} (hA1 : wl A1 ≤ 150) (hU1 : wl U1 ≤ 150) (hA2 : wl A2 ≤ 150) (hU2 : wl U2 ≤ 150) (hL : wl L ≤ 301) (hR : wl R ≤ 301) : ef_C l yX2_set wsX2_set ({ frames := 3, cells := 0, slots := 0, locals := 67 } : Room) [.ref (q 0), .int (iv (1)), .int (iv (1)), .long (jv (0))] (dC, dI) vwCl tys (cC cI q (A1) (U1) (b1) (e1) (A2) (U2) (b2) (e2) (L) (R)) (fun o w1 => ∃ L2 R2 : Nat, o = some (.int (iv (-3))) ∧ w1 = cC cI q (A1) (U1) (b1) (e1) (A2) (U2) (b2) (e2) (L2) (R2) ∧ wl L2 ≤ 301 ∧ wl R2 ≤ 301) := by
  refine ef_C.of (cc := cX2_set) (maxL := 6) (ret := (some .int)) (by decide) rfl (Nat.le_of_ble_eq_true rfl) ?_
  intro p e s m below meth c ls hx hb hml hr hts hown hlocks hK hNX hP hD hS hl
  have hl : lv_has ls 6 [(0, .ref (q 0)), (1, .int (iv (1))), (2, .int (iv (1))), (3, .long (jv (0)))] := hl
  have hown : s.vm.findClass RX2 = some m.cls := hown
  generalize hH : s.heap = H at hP ⊢
  have hS : va_S (ef_A (cC cI q (A1) (U1) (b1) (e1) (A2) (U2) (b2) (e2) (L) (R))) s.heap H [] := by rw [← hH]; exact hS
  generalize ([] : List Loc) = locs at hS ⊢
  refine lv_aload_n hx hb dX2_set_0 rfl (lv_at hl 0 rfl) ?_
  refine lv_iload_n hx hb dX2_set_1 rfl (lv_at hl 1 rfl) ?_
  refine lv_iload_n hx hb dX2_set_2 rfl (lv_at hl 2 rfl) ?_
  refine ef_callV (As := [.int (iv (1)), .int (iv (1))]) (rest := []) ⟨hx, hb, hml, hown, hts⟩ (c_partOf11 l dC dI ht q) (cwV 2 hts gX2_set_X2_partOf rfl rfl rfl (by decide +kernel) ⟨Nat.le_of_ble_eq_true rfl, Nat.le_of_ble_eq_true rfl⟩) hK hNX hP hD hS 0 rfl rfl rfl rfl hl.1 rfl (Nat.le_of_ble_eq_true rfl) dX2_set_3 ⟨Nat.zero_le _, Nat.zero_le _⟩ (fun o w1 H locs hq hP hD hS => ?_)
  obtain ⟨rfl, e9⟩ := hq
  rw [e9] at hP hD
  refine W.eq (g2 := F0 m 6 ls [.ref (q 9)]) rfl ?_
  refine lv_astore (lv' := [(5, .ref (q 9)), (0, .ref (q 0)), (1, .int (iv (1))), (2, .int (iv (1))), (3, .long (jv (0)))]) hx hb dX2_set_6 hl (by decide) rfl (fun ls hl => ?_)
  refine lv_aload hx hb dX2_set_8 (lv_at hl 0 rfl) ?_
  refine lv_ifnonnull (tgt := 15) hx hb dX2_set_10 (by decide) ?_
  refine lv_iload_n hx hb dX2_set_15 rfl (lv_at hl 3 rfl) ?_
  refine lv_iconst (v := iv (1)) hx hb dX2_set_16 (by decide) ?_
  refine iw_icmp_ne (tgt := 29) hx hb dX2_set_17 (by decide) ⟨by omega, by omega⟩ ⟨by omega, by omega⟩ (fun c1 => ?_) (fun c1 => ?_)
  ·
    exact absurd rfl c1
  ·
    refine lv_lload_n hx hb dX2_set_20 rfl (lv_at hl 4 rfl) ?_
    refine lv_lconst (v := jv (0)) hx hb dX2_set_21 (by decide) ?_
    refine iw_lcmp hx hb (⟨by omega, by omega⟩) (⟨by omega, by omega⟩) dX2_set_22 ?_
    refine iw_if_ne (tgt := 29) hx hb dX2_set_23 (by decide) (ir_zc _ _) (fun c2 => ?_) (fun c2 => ?_)
    ·
      exact absurd (zc_eq 0) c2
    ·
      refine lv_bipush (v := iv (-3)) hx hb dX2_set_26 (by decide) ?_
      exact ef_iret hx hb hr hlocks hP hD hS dX2_set_28 (⟨_, _, rfl, rfl, hL, hR⟩)

set_option maxRecDepth 100000 in
set_option maxHeartbeats 4000000 in
/-- set of no part -/
theorem c_set0x (l : Launch) (dC : Nat → ClassId) (dI : Nat → Nat → Nat) {cI : ClassId} {tys : List (ClassId × FieldType)} (ht : tys[0]? = some (cI, .int)) (q : Nat → Nat) {A1 U1 A2 U2 L R : Nat} {b1 e1 b2 e2 : Int} (hA1 : wl A1 ≤ 150) (hU1 : wl U1 ≤ 150) (hA2 : wl A2 ≤ 150) (hU2 : wl U2 ≤ 150) (hL : wl L ≤ 301) (hR : wl R ≤ 301) (z : Int) (hz : ir z) (hz0 : z ≠ 0) (hz1 : z ≠ 1) (v : Int) : ef_C l yX2_set wsX2_set ({ frames := 3, cells := 0, slots := 0, locals := 67 } : Room) [.ref (q 0), .int (iv (0)), .int (iv (z)), .long (jv (v))] (dC, dI) vwCl tys (cC cI q (A1) (U1) (b1) (e1) (A2) (U2) (b2) (e2) (L) (R)) (fun o w1 => ∃ L2 R2 : Nat, o = some (.int (iv (-1))) ∧ w1 = cC cI q (A1) (U1) (b1) (e1) (A2) (U2) (b2) (e2) (L2) (R2) ∧ wl L2 ≤ 301 ∧ wl R2 ≤ 301) := by
  refine ef_C.of (cc := cX2_set) (maxL := 6) (ret := (some .int)) (by decide) rfl (Nat.le_of_ble_eq_true rfl) ?_
  intro p e s m below meth c ls hx hb hml hr hts hown hlocks hK hNX hP hD hS hl
  have hl : lv_has ls 6 [(0, .ref (q 0)), (1, .int (iv (0))), (2, .int (iv (z))), (3, .long (jv (v)))] := hl
  have hown : s.vm.findClass RX2 = some m.cls := hown
  generalize hH : s.heap = H at hP ⊢
  have hS : va_S (ef_A (cC cI q (A1) (U1) (b1) (e1) (A2) (U2) (b2) (e2) (L) (R))) s.heap H [] := by rw [← hH]; exact hS
  generalize ([] : List Loc) = locs at hS ⊢
  refine lv_aload_n hx hb dX2_set_0 rfl (lv_at hl 0 rfl) ?_
  refine lv_iload_n hx hb dX2_set_1 rfl (lv_at hl 1 rfl) ?_
  refine lv_iload_n hx hb dX2_set_2 rfl (lv_at hl 2 rfl) ?_
  refine ef_callV (As := [.int (iv (0)), .int (iv (z))]) (rest := []) ⟨hx, hb, hml, hown, hts⟩ (c_partOf0x l dC dI ht q z hz hz0 hz1) (cwV 2 hts gX2_set_X2_partOf rfl rfl rfl (by decide +kernel) ⟨Nat.le_of_ble_eq_true rfl, Nat.le_of_ble_eq_true rfl⟩) hK hNX hP hD hS 0 rfl rfl rfl rfl hl.1 rfl (Nat.le_of_ble_eq_true rfl) dX2_set_3 ⟨Nat.zero_le _, Nat.zero_le _⟩ (fun o w1 H locs hq hP hD hS => ?_)
  obtain ⟨rfl, e9⟩ := hq
  rw [e9] at hP hD
  refine W.eq (g2 := F0 m 6 ls [.null]) rfl ?_
  refine lv_astoreN (lv' := [(5, .null), (0, .ref (q 0)), (1, .int (iv (0))), (2, .int (iv (z))), (3, .long (jv (v)))]) hx hb dX2_set_6 hl (by decide) rfl (fun ls hl => ?_)
  refine lv_aloadN hx hb dX2_set_8 (lv_at hl 0 rfl) ?_
  refine lv_ifnonnullN hx hb dX2_set_10 ?_
  refine lv_iconst (v := iv (-1)) hx hb dX2_set_13 (by decide) ?_
  exact ef_iret hx hb hr hlocks hP hD hS dX2_set_14 (⟨_, _, rfl, rfl, hL, hR⟩)

set_option maxRecDepth 100000 in
set_option maxHeartbeats 4000000 in
/-- set of no part -/
theorem c_set1x (l : Launch) (dC : Nat → ClassId) (dI : Nat → Nat → Nat) {cI : ClassId} {tys : List (ClassId × FieldType)} (ht : tys[0]? = some (cI, .int)) (q : Nat → Nat) {A1 U1 A2 U2 L R : Nat} {b1 e1 b2 e2 : Int} (hA1 : wl A1 ≤ 150) (hU1 : wl U1 ≤ 150) (hA2 : wl A2 ≤ 150) (hU2 : wl U2 ≤ 150) (hL : wl L ≤ 301) (hR : wl R ≤ 301) (z : Int) (hz : ir z) (hz0 : z ≠ 0) (hz1 : z ≠ 1) (v : Int) : ef_C l yX2_set wsX2_set ({ frames := 3, cells := 0, slots := 0, locals := 67 } : Room) [.ref (q 0), .int (iv (1)), .int (iv (z)), .long (jv (v))] (dC, dI) vwCl tys (cC cI q (A1) (U1) (b1) (e1) (A2) (U2) (b2) (e2) (L) (R)) (fun o w1 => ∃ L2 R2 : Nat, o = some (.int (iv (-1))) ∧ w1 = cC cI q (A1) (U1) (b1) (e1) (A2) (U2) (b2) (e2) (L2) (R2) ∧ wl L2 ≤ 301 ∧ wl R2 ≤ 301) := by
  refine ef_C.of (cc := cX2_set) (maxL := 6) (ret := (some .int)) (by decide) rfl (Nat.le_of_ble_eq_true rfl) ?_
  intro p e s m below meth c ls hx hb hml hr hts hown hlocks hK hNX hP hD hS hl
  have hl : lv_has ls 6 [(0, .ref (q 0)), (1, .int (iv (1))), (2, .int (iv (z))), (3, .long (jv (v)))] := hl
  have hown : s.vm.findClass RX2 = some m.cls := hown
  generalize hH : s.heap = H at hP ⊢
  have hS : va_S (ef_A (cC cI q (A1) (U1) (b1) (e1) (A2) (U2) (b2) (e2) (L) (R))) s.heap H [] := by rw [← hH]; exact hS
  generalize ([] : List Loc) = locs at hS ⊢
  refine lv_aload_n hx hb dX2_set_0 rfl (lv_at hl 0 rfl) ?_
  refine lv_iload_n hx hb dX2_set_1 rfl (lv_at hl 1 rfl) ?_
  refine lv_iload_n hx hb dX2_set_2 rfl (lv_at hl 2 rfl) ?_
  refine ef_callV (As := [.int (iv (1)), .int (iv (z))]) (rest := []) ⟨hx, hb, hml, hown, hts⟩ (c_partOf1x l dC dI ht q z hz hz0 hz1) (cwV 2 hts gX2_set_X2_partOf rfl rfl rfl (by decide +kernel) ⟨Nat.le_of_ble_eq_true rfl, Nat.le_of_ble_eq_true rfl⟩) hK hNX hP hD hS 0 rfl rfl rfl rfl hl.1 rfl (Nat.le_of_ble_eq_true rfl) dX2_set_3 ⟨Nat.zero_le _, Nat.zero_le _⟩ (fun o w1 H locs hq hP hD hS => ?_)
  obtain ⟨rfl, e9⟩ := hq
  rw [e9] at hP hD
  refine W.eq (g2 := F0 m 6 ls [.null]) rfl ?_
  refine lv_astoreN (lv' := [(5, .null), (0, .ref (q 0)), (1, .int (iv (1))), (2, .int (iv (z))), (3, .long (jv (v)))]) hx hb dX2_set_6 hl (by decide) rfl (fun ls hl => ?_)
  refine lv_aloadN hx hb dX2_set_8 (lv_at hl 0 rfl) ?_
  refine lv_ifnonnullN hx hb dX2_set_10 ?_
  refine lv_iconst (v := iv (-1)) hx hb dX2_set_13 (by decide) ?_
  exact ef_iret hx hb hr hlocks hP hD hS dX2_set_14 (⟨_, _, rfl, rfl, hL, hR⟩)

set_option maxRecDepth 100000 in
set_option maxHeartbeats 4000000 in
/-- set of no part -/
theorem c_setxx (l : Launch) (dC : Nat → ClassId) (dI : Nat → Nat → Nat) {cI : ClassId} {tys : List (ClassId × FieldType)} (ht : tys[0]? = some (cI, .int)) (q : Nat → Nat) {A1 U1 A2 U2 L R : Nat} {b1 e1 b2 e2 : Int} (hA1 : wl A1 ≤ 150) (hU1 : wl U1 ≤ 150) (hA2 : wl A2 ≤ 150) (hU2 : wl U2 ≤ 150) (hL : wl L ≤ 301) (hR : wl R ≤ 301) (z y : Int) (hz : ir z) (hz0 : z ≠ 0) (hz1 : z ≠ 1) (v : Int) : ef_C l yX2_set wsX2_set ({ frames := 3, cells := 0, slots := 0, locals := 67 } : Room) [.ref (q 0), .int (iv (z)), .int (iv (y)), .long (jv (v))] (dC, dI) vwCl tys (cC cI q (A1) (U1) (b1) (e1) (A2) (U2) (b2) (e2) (L) (R)) (fun o w1 => ∃ L2 R2 : Nat, o = some (.int (iv (-1))) ∧ w1 = cC cI q (A1) (U1) (b1) (e1) (A2) (U2) (b2) (e2) (L2) (R2) ∧ wl L2 ≤ 301 ∧ wl R2 ≤ 301) := by
  refine ef_C.of (cc := cX2_set) (maxL := 6) (ret := (some .int)) (by decide) rfl (Nat.le_of_ble_eq_true rfl) ?_
  intro p e s m below meth c ls hx hb hml hr hts hown hlocks hK hNX hP hD hS hl
  have hl : lv_has ls 6 [(0, .ref (q 0)), (1, .int (iv (z))), (2, .int (iv (y))), (3, .long (jv (v)))] := hl
  have hown : s.vm.findClass RX2 = some m.cls := hown
  generalize hH : s.heap = H at hP ⊢
  have hS : va_S (ef_A (cC cI q (A1) (U1) (b1) (e1) (A2) (U2) (b2) (e2) (L) (R))) s.heap H [] := by rw [← hH]; exact hS
  generalize ([] : List Loc) = locs at hS ⊢
  refine lv_aload_n hx hb dX2_set_0 rfl (lv_at hl 0 rfl) ?_
  refine lv_iload_n hx hb dX2_set_1 rfl (lv_at hl 1 rfl) ?_
  refine lv_iload_n hx hb dX2_set_2 rfl (lv_at hl 2 rfl) ?_
  refine ef_callV (As := [.int (iv (z)), .int (iv (y))]) (rest := []) ⟨hx, hb, hml, hown, hts⟩ (c_partOfxx l dC dI ht q z y hz hz0 hz1) (cwV 2 hts gX2_set_X2_partOf rfl rfl rfl (by decide +kernel) ⟨Nat.le_of_ble_eq_true rfl, Nat.le_of_ble_eq_true rfl⟩) hK hNX hP hD hS 0 rfl rfl rfl rfl hl.1 rfl (Nat.le_of_ble_eq_true rfl) dX2_set_3 ⟨Nat.zero_le _, Nat.zero_le _⟩ (fun o w1 H locs hq hP hD hS => ?_)
  obtain ⟨rfl, e9⟩ := hq
  rw [e9] at hP hD
  refine W.eq (g2 := F0 m 6 ls [.null]) rfl ?_
  refine lv_astoreN (lv' := [(5, .null), (0, .ref (q 0)), (1, .int (iv (z))), (2, .int (iv (y))), (3, .long (jv (v)))]) hx hb dX2_set_6 hl (by decide) rfl (fun ls hl => ?_)
  refine lv_aloadN hx hb dX2_set_8 (lv_at hl 0 rfl) ?_
  refine lv_ifnonnullN hx hb dX2_set_10 ?_
  refine lv_iconst (v := iv (-1)) hx hb dX2_set_13 (by decide) ?_
  exact ef_iret hx hb hr hlocks hP hD hS dX2_set_14 (⟨_, _, rfl, rfl, hL, hR⟩)

set_option maxRecDepth 100000 in
set_option maxHeartbeats 4000000 in
/-- scale -/
theorem c_scale0 (l : Launch) (dC : Nat → ClassId) (dI : Nat → Nat → Nat) {cI : ClassId} {tys : List (ClassId × FieldType)} (ht : tys[0]? = some (cI, .int)) (q : Nat → Nat) {A1 U1 A2 U2 L R : Nat} {b1 e1 b2 e2 : Int} (hA1 : wl A1 ≤ 150) (hU1 : wl U1 ≤ 150) (hA2 : wl A2 ≤ 150) (hU2 : wl U2 ≤ 150) (hL : wl L ≤ 301) (hR : wl R ≤ 301) (bb ee : Int) (hbb : bb = 0 ∨ bb = 1) (he1 : -12000 ≤ ee) (he2 : ee ≤ 12000) : ef_C l yX2_scale wsX2_scale ({ frames := 1, cells := 0, slots := 0, locals := 21 } : Room) [.ref (q 0), .int (iv (0)), .int (iv (bb)), .int (iv (ee))] (dC, dI) vwCl tys (cC cI q (A1) (U1) (b1) (e1) (A2) (U2) (b2) (e2) (L) (R)) (fun o w1 => ∃ L2 R2 : Nat, o = some (.int (iv (0))) ∧ w1 = cC cI q (A1) (U1) (bb) (ee) (A2) (U2) (b2) (e2) (L2) (R2) ∧ wl L2 ≤ 301 ∧ wl R2 ≤ 301) := by
  refine ef_C.of (cc := cX2_scale) (maxL := 5) (ret := (some .int)) (by decide) rfl (Nat.le_of_ble_eq_true rfl) ?_
  intro p e s m below meth c ls hx hb hml hr hts hown hlocks hK hNX hP hD hS hl
  have hl : lv_has ls 5 [(0, .ref (q 0)), (1, .int (iv (0))), (2, .int (iv (bb))), (3, .int (iv (ee)))] := hl
  have hown : s.vm.findClass RX2 = some m.cls := hown
  generalize hH : s.heap = H at hP ⊢
  have hS : va_S (ef_A (cC cI q (A1) (U1) (b1) (e1) (A2) (U2) (b2) (e2) (L) (R))) s.heap H [] := by rw [← hH]; exact hS
  generalize ([] : List Loc) = locs at hS ⊢
  refine lv_aload_n hx hb dX2_scale_0 rfl (lv_at hl 0 rfl) ?_
  refine lv_iload_n hx hb dX2_scale_1 rfl (lv_at hl 1 rfl) ?_
  refine ef_callV (As := [.int (iv (0))]) (rest := []) ⟨hx, hb, hml, hown, hts⟩ (c_numberOf0 l dC dI ht q) (cwV 1 hts gX2_scale_X2_numberOf rfl rfl rfl (by decide +kernel) ⟨Nat.le_of_ble_eq_true rfl, Nat.le_of_ble_eq_true rfl⟩) hK hNX hP hD hS 0 rfl rfl rfl rfl hl.1 rfl (Nat.le_of_ble_eq_true rfl) dX2_scale_2 ⟨Nat.zero_le _, Nat.zero_le _⟩ (fun o w1 H locs hq hP hD hS => ?_)
  obtain ⟨rfl, e9⟩ := hq
  rw [e9] at hP hD
  refine W.eq (g2 := F0 m 5 ls [.ref (q 1)]) rfl ?_
  refine lv_astore (lv' := [(4, .ref (q 1)), (0, .ref (q 0)), (1, .int (iv (0))), (2, .int (iv (bb))), (3, .int (iv (ee)))]) hx hb dX2_scale_5 hl (by decide) rfl (fun ls hl => ?_)
  refine lv_aload hx hb dX2_scale_7 (lv_at hl 0 rfl) ?_
  refine lv_ifnull hx hb dX2_scale_9 ?_
  refine lv_iload_n hx hb dX2_scale_12 rfl (lv_at hl 4 rfl) ?_
  refine lv_sipush (v := iv (-12000)) hx hb dX2_scale_13 (by decide) ?_
  refine iw_icmp_lt (tgt := 26) hx hb dX2_scale_16 (by decide) ⟨by omega, by omega⟩ ⟨by omega, by omega⟩ (fun c1 => ?_) (fun c1 => ?_)
  ·
    exact absurd c1 (by omega)
  ·
    refine lv_iload_n hx hb dX2_scale_19 rfl (lv_at hl 4 rfl) ?_
    refine lv_sipush (v := iv (12000)) hx hb dX2_scale_20 (by decide) ?_
    refine iw_icmp_le (tgt := 28) hx hb dX2_scale_23 (by decide) ⟨by omega, by omega⟩ ⟨by omega, by omega⟩ (fun c2 => ?_) (fun c2 => ?_)
    ·
      refine lv_aload hx hb dX2_scale_28 (lv_at hl 0 rfl) ?_
      refine lv_iload_n hx hb dX2_scale_30 rfl (lv_at hl 3 rfl) ?_
      refine va_put (D := (dC, dI)) (ci := 0) (v := .int (iv (bb))) (ty := .boolean) (C := RX0) (T := TX0) (N := 4) hx hb hts (by decide +kernel) tyX0 tyX0_ok nmX0 hown hK hP hD hS 1 rfl rfl 2 (by decide) (hts (.fieldLink RX2 57 "ExactFractions$Fraction" "below" "Z") (by decide +kernel)) (fun _ h9 => h9) rfl (by decide +kernel) (by rcases hbb with h9 | h9 <;> rw [h9] <;> rfl) (by rcases hbb with h9 | h9 <;> rw [h9] <;> rfl) (Nat.le_of_ble_eq_true rfl) dX2_scale_31 (fun H locs hP hD hS => ?_)
      have hP : va_P (dC, dI) vwCl (cC cI q (A1) (U1) (bb) (e1) (A2) (U2) (b2) (e2) (L) (R)) H := hP
      have hD : va_D (ef_A (cC cI q (A1) (U1) (b1) (e1) (A2) (U2) (b2) (e2) (L) (R))) (cC cI q (A1) (U1) (bb) (e1) (A2) (U2) (b2) (e2) (L) (R)) := hD
      refine lv_aload hx hb dX2_scale_34 (lv_at hl 0 rfl) ?_
      refine lv_iload_n hx hb dX2_scale_36 rfl (lv_at hl 4 rfl) ?_
      refine va_put (D := (dC, dI)) (ci := 0) (v := .int (iv (ee))) (ty := .int) (C := RX0) (T := TX0) (N := 4) hx hb hts (by decide +kernel) tyX0 tyX0_ok nmX0 hown hK hP hD hS 1 rfl rfl 3 (by decide) (hts (.fieldLink RX2 61 "ExactFractions$Fraction" "exponent" "I") (by decide +kernel)) (fun _ h9 => h9) rfl (by decide +kernel) rfl rfl (Nat.le_of_ble_eq_true rfl) dX2_scale_37 (fun H locs hP hD hS => ?_)
      have hP : va_P (dC, dI) vwCl (cC cI q (A1) (U1) (bb) (ee) (A2) (U2) (b2) (e2) (L) (R)) H := hP
      have hD : va_D (ef_A (cC cI q (A1) (U1) (b1) (e1) (A2) (U2) (b2) (e2) (L) (R))) (cC cI q (A1) (U1) (bb) (ee) (A2) (U2) (b2) (e2) (L) (R)) := hD
      refine lv_iconst (v := iv (0)) hx hb dX2_scale_40 (by decide) ?_
      exact ef_iret hx hb hr hlocks hP hD hS dX2_scale_41 (⟨_, _, rfl, rfl, hL, hR⟩)
    ·
      exact absurd c2 (by omega)

set_option maxRecDepth 100000 in
set_option maxHeartbeats 4000000 in
/-- scale refused -/
theorem c_scale0B (l : Launch) (dC : Nat → ClassId) (dI : Nat → Nat → Nat) {cI : ClassId} {tys : List (ClassId × FieldType)} (ht : tys[0]? = some (cI, .int)) (q : Nat → Nat) {A1 U1 A2 U2 L R : Nat} {b1 e1 b2 e2 : Int} (hA1 : wl A1 ≤ 150) (hU1 : wl U1 ≤ 150) (hA2 : wl A2 ≤ 150) (hU2 : wl U2 ≤ 150) (hL : wl L ≤ 301) (hR : wl R ≤ 301) (bb ee : Int) (he : ir ee) (hbad : ee < -12000 ∨ 12000 < ee) : ef_C l yX2_scale wsX2_scale ({ frames := 1, cells := 0, slots := 0, locals := 21 } : Room) [.ref (q 0), .int (iv (0)), .int (iv (bb)), .int (iv (ee))] (dC, dI) vwCl tys (cC cI q (A1) (U1) (b1) (e1) (A2) (U2) (b2) (e2) (L) (R)) (fun o w1 => ∃ L2 R2 : Nat, o = some (.int (iv (-1))) ∧ w1 = cC cI q (A1) (U1) (b1) (e1) (A2) (U2) (b2) (e2) (L2) (R2) ∧ wl L2 ≤ 301 ∧ wl R2 ≤ 301) := by
  refine ef_C.of (cc := cX2_scale) (maxL := 5) (ret := (some .int)) (by decide) rfl (Nat.le_of_ble_eq_true rfl) ?_
  intro p e s m below meth c ls hx hb hml hr hts hown hlocks hK hNX hP hD hS hl
  have hl : lv_has ls 5 [(0, .ref (q 0)), (1, .int (iv (0))), (2, .int (iv (bb))), (3, .int (iv (ee)))] := hl
  have hown : s.vm.findClass RX2 = some m.cls := hown
  generalize hH : s.heap = H at hP ⊢
  have hS : va_S (ef_A (cC cI q (A1) (U1) (b1) (e1) (A2) (U2) (b2) (e2) (L) (R))) s.heap H [] := by rw [← hH]; exact hS
  generalize ([] : List Loc) = locs at hS ⊢
  refine lv_aload_n hx hb dX2_scale_0 rfl (lv_at hl 0 rfl) ?_
  refine lv_iload_n hx hb dX2_scale_1 rfl (lv_at hl 1 rfl) ?_
  refine ef_callV (As := [.int (iv (0))]) (rest := []) ⟨hx, hb, hml, hown, hts⟩ (c_numberOf0 l dC dI ht q) (cwV 1 hts gX2_scale_X2_numberOf rfl rfl rfl (by decide +kernel) ⟨Nat.le_of_ble_eq_true rfl, Nat.le_of_ble_eq_true rfl⟩) hK hNX hP hD hS 0 rfl rfl rfl rfl hl.1 rfl (Nat.le_of_ble_eq_true rfl) dX2_scale_2 ⟨Nat.zero_le _, Nat.zero_le _⟩ (fun o w1 H locs hq hP hD hS => ?_)
  obtain ⟨rfl, e9⟩ := hq
  rw [e9] at hP hD
  refine W.eq (g2 := F0 m 5 ls [.ref (q 1)]) rfl ?_
  refine lv_astore (lv' := [(4, .ref (q 1)), (0, .ref (q 0)), (1, .int (iv (0))), (2, .int (iv (bb))), (3, .int (iv (ee)))]) hx hb dX2_scale_5 hl (by decide) rfl (fun ls hl => ?_)
  refine lv_aload hx hb dX2_scale_7 (lv_at hl 0 rfl) ?_
  refine lv_ifnull hx hb dX2_scale_9 ?_
  refine lv_iload_n hx hb dX2_scale_12 rfl (lv_at hl 4 rfl) ?_
  refine lv_sipush (v := iv (-12000)) hx hb dX2_scale_13 (by decide) ?_
  refine iw_icmp_lt (tgt := 26) hx hb dX2_scale_16 (by decide) (he) ⟨by omega, by omega⟩ (fun c1 => ?_) (fun c1 => ?_)
  ·
    refine lv_iconst (v := iv (-1)) hx hb dX2_scale_26 (by decide) ?_
    exact ef_iret hx hb hr hlocks hP hD hS dX2_scale_27 (⟨_, _, rfl, rfl, hL, hR⟩)
  ·
    refine lv_iload_n hx hb dX2_scale_19 rfl (lv_at hl 4 rfl) ?_
    refine lv_sipush (v := iv (12000)) hx hb dX2_scale_20 (by decide) ?_
    refine iw_icmp_le (tgt := 28) hx hb dX2_scale_23 (by decide) (he) ⟨by omega, by omega⟩ (fun c2 => ?_) (fun c2 => ?_)
    ·
      exact absurd hbad (by omega)
    ·
      refine lv_iconst (v := iv (-1)) hx hb dX2_scale_26 (by decide) ?_
      exact ef_iret hx hb hr hlocks hP hD hS dX2_scale_27 (⟨_, _, rfl, rfl, hL, hR⟩)

set_option maxRecDepth 100000 in
set_option maxHeartbeats 4000000 in
/-- scale -/
theorem c_scale1 (l : Launch) (dC : Nat → ClassId) (dI : Nat → Nat → Nat) {cI : ClassId} {tys : List (ClassId × FieldType)} (ht : tys[0]? = some (cI, .int)) (q : Nat → Nat) {A1 U1 A2 U2 L R : Nat} {b1 e1 b2 e2 : Int} (hA1 : wl A1 ≤ 150) (hU1 : wl U1 ≤ 150) (hA2 : wl A2 ≤ 150) (hU2 : wl U2 ≤ 150) (hL : wl L ≤ 301) (hR : wl R ≤ 301) (bb ee : Int) (hbb : bb = 0 ∨ bb = 1) (he1 : -12000 ≤ ee) (he2 : ee ≤ 12000) : ef_C l yX2_scale wsX2_scale ({ frames := 1, cells := 0, slots := 0, locals := 21 } : Room) [.ref (q 0), .int (iv (1)), .int (iv (bb)), .int (iv (ee))] (dC, dI) vwCl tys (cC cI q (A1) (U1) (b1) (e1) (A2) (U2) (b2) (e2) (L) (R)) (fun o w1 => ∃ L2 R2 : Nat, o = some (.int (iv (0))) ∧ w1 = cC cI q (A1) (U1) (b1) (e1) (A2) (U2) (bb) (ee) (L2) (R2) ∧ wl L2 ≤ 301 ∧ wl R2 ≤ 301) := by
  refine ef_C.of (cc := cX2_scale) (maxL := 5) (ret := (some .int)) (by decide) rfl (Nat.le_of_ble_eq_true rfl) ?_
  intro p e s m below meth c ls hx hb hml hr hts hown hlocks hK hNX hP hD hS hl
  have hl : lv_has ls 5 [(0, .ref (q 0)), (1, .int (iv (1))), (2, .int (iv (bb))), (3, .int (iv (ee)))] := hl
  have hown : s.vm.findClass RX2 = some m.cls := hown
  generalize hH : s.heap = H at hP ⊢
  have hS : va_S (ef_A (cC cI q (A1) (U1) (b1) (e1) (A2) (U2) (b2) (e2) (L) (R))) s.heap H [] := by rw [← hH]; exact hS
  generalize ([] : List Loc) = locs at hS ⊢
  refine lv_aload_n hx hb dX2_scale_0 rfl (lv_at hl 0 rfl) ?_
  refine lv_iload_n hx hb dX2_scale_1 rfl (lv_at hl 1 rfl) ?_
  refine ef_callV (As := [.int (iv (1))]) (rest := []) ⟨hx, hb, hml, hown, hts⟩ (c_numberOf1 l dC dI ht q) (cwV 1 hts gX2_scale_X2_numberOf rfl rfl rfl (by decide +kernel) ⟨Nat.le_of_ble_eq_true rfl, Nat.le_of_ble_eq_true rfl⟩) hK hNX hP hD hS 0 rfl rfl rfl rfl hl.1 rfl (Nat.le_of_ble_eq_true rfl) dX2_scale_2 ⟨Nat.zero_le _, Nat.zero_le _⟩ (fun o w1 H locs hq hP hD hS => ?_)
  obtain ⟨rfl, e9⟩ := hq
  rw [e9] at hP hD
  refine W.eq (g2 := F0 m 5 ls [.ref (q 2)]) rfl ?_
  refine lv_astore (lv' := [(4, .ref (q 2)), (0, .ref (q 0)), (1, .int (iv (1))), (2, .int (iv (bb))), (3, .int (iv (ee)))]) hx hb dX2_scale_5 hl (by decide) rfl (fun ls hl => ?_)
  refine lv_aload hx hb dX2_scale_7 (lv_at hl 0 rfl) ?_
  refine lv_ifnull hx hb dX2_scale_9 ?_
  refine lv_iload_n hx hb dX2_scale_12 rfl (lv_at hl 4 rfl) ?_
  refine lv_sipush (v := iv (-12000)) hx hb dX2_scale_13 (by decide) ?_
  refine iw_icmp_lt (tgt := 26) hx hb dX2_scale_16 (by decide) ⟨by omega, by omega⟩ ⟨by omega, by omega⟩ (fun c1 => ?_) (fun c1 => ?_)
  ·
    exact absurd c1 (by omega)
  ·
    refine lv_iload_n hx hb dX2_scale_19 rfl (lv_at hl 4 rfl) ?_
    refine lv_sipush (v := iv (12000)) hx hb dX2_scale_20 (by decide) ?_
    refine iw_icmp_le (tgt := 28) hx hb dX2_scale_23 (by decide) ⟨by omega, by omega⟩ ⟨by omega, by omega⟩ (fun c2 => ?_) (fun c2 => ?_)
    ·
      refine lv_aload hx hb dX2_scale_28 (lv_at hl 0 rfl) ?_
      refine lv_iload_n hx hb dX2_scale_30 rfl (lv_at hl 3 rfl) ?_
      refine va_put (D := (dC, dI)) (ci := 0) (v := .int (iv (bb))) (ty := .boolean) (C := RX0) (T := TX0) (N := 4) hx hb hts (by decide +kernel) tyX0 tyX0_ok nmX0 hown hK hP hD hS 2 rfl rfl 2 (by decide) (hts (.fieldLink RX2 57 "ExactFractions$Fraction" "below" "Z") (by decide +kernel)) (fun _ h9 => h9) rfl (by decide +kernel) (by rcases hbb with h9 | h9 <;> rw [h9] <;> rfl) (by rcases hbb with h9 | h9 <;> rw [h9] <;> rfl) (Nat.le_of_ble_eq_true rfl) dX2_scale_31 (fun H locs hP hD hS => ?_)
      have hP : va_P (dC, dI) vwCl (cC cI q (A1) (U1) (b1) (e1) (A2) (U2) (bb) (e2) (L) (R)) H := hP
      have hD : va_D (ef_A (cC cI q (A1) (U1) (b1) (e1) (A2) (U2) (b2) (e2) (L) (R))) (cC cI q (A1) (U1) (b1) (e1) (A2) (U2) (bb) (e2) (L) (R)) := hD
      refine lv_aload hx hb dX2_scale_34 (lv_at hl 0 rfl) ?_
      refine lv_iload_n hx hb dX2_scale_36 rfl (lv_at hl 4 rfl) ?_
      refine va_put (D := (dC, dI)) (ci := 0) (v := .int (iv (ee))) (ty := .int) (C := RX0) (T := TX0) (N := 4) hx hb hts (by decide +kernel) tyX0 tyX0_ok nmX0 hown hK hP hD hS 2 rfl rfl 3 (by decide) (hts (.fieldLink RX2 61 "ExactFractions$Fraction" "exponent" "I") (by decide +kernel)) (fun _ h9 => h9) rfl (by decide +kernel) rfl rfl (Nat.le_of_ble_eq_true rfl) dX2_scale_37 (fun H locs hP hD hS => ?_)
      have hP : va_P (dC, dI) vwCl (cC cI q (A1) (U1) (b1) (e1) (A2) (U2) (bb) (ee) (L) (R)) H := hP
      have hD : va_D (ef_A (cC cI q (A1) (U1) (b1) (e1) (A2) (U2) (b2) (e2) (L) (R))) (cC cI q (A1) (U1) (b1) (e1) (A2) (U2) (bb) (ee) (L) (R)) := hD
      refine lv_iconst (v := iv (0)) hx hb dX2_scale_40 (by decide) ?_
      exact ef_iret hx hb hr hlocks hP hD hS dX2_scale_41 (⟨_, _, rfl, rfl, hL, hR⟩)
    ·
      exact absurd c2 (by omega)

set_option maxRecDepth 100000 in
set_option maxHeartbeats 4000000 in
/-- scale refused -/
theorem c_scale1B (l : Launch) (dC : Nat → ClassId) (dI : Nat → Nat → Nat) {cI : ClassId} {tys : List (ClassId × FieldType)} (ht : tys[0]? = some (cI, .int)) (q : Nat → Nat) {A1 U1 A2 U2 L R : Nat} {b1 e1 b2 e2 : Int} (hA1 : wl A1 ≤ 150) (hU1 : wl U1 ≤ 150) (hA2 : wl A2 ≤ 150) (hU2 : wl U2 ≤ 150) (hL : wl L ≤ 301) (hR : wl R ≤ 301) (bb ee : Int) (he : ir ee) (hbad : ee < -12000 ∨ 12000 < ee) : ef_C l yX2_scale wsX2_scale ({ frames := 1, cells := 0, slots := 0, locals := 21 } : Room) [.ref (q 0), .int (iv (1)), .int (iv (bb)), .int (iv (ee))] (dC, dI) vwCl tys (cC cI q (A1) (U1) (b1) (e1) (A2) (U2) (b2) (e2) (L) (R)) (fun o w1 => ∃ L2 R2 : Nat, o = some (.int (iv (-1))) ∧ w1 = cC cI q (A1) (U1) (b1) (e1) (A2) (U2) (b2) (e2) (L2) (R2) ∧ wl L2 ≤ 301 ∧ wl R2 ≤ 301) := by
  refine ef_C.of (cc := cX2_scale) (maxL := 5) (ret := (some .int)) (by decide) rfl (Nat.le_of_ble_eq_true rfl) ?_
  intro p e s m below meth c ls hx hb hml hr hts hown hlocks hK hNX hP hD hS hl
  have hl : lv_has ls 5 [(0, .ref (q 0)), (1, .int (iv (1))), (2, .int (iv (bb))), (3, .int (iv (ee)))] := hl
  have hown : s.vm.findClass RX2 = some m.cls := hown
  generalize hH : s.heap = H at hP ⊢
  have hS : va_S (ef_A (cC cI q (A1) (U1) (b1) (e1) (A2) (U2) (b2) (e2) (L) (R))) s.heap H [] := by rw [← hH]; exact hS
  generalize ([] : List Loc) = locs at hS ⊢
  refine lv_aload_n hx hb dX2_scale_0 rfl (lv_at hl 0 rfl) ?_
  refine lv_iload_n hx hb dX2_scale_1 rfl (lv_at hl 1 rfl) ?_
  refine ef_callV (As := [.int (iv (1))]) (rest := []) ⟨hx, hb, hml, hown, hts⟩ (c_numberOf1 l dC dI ht q) (cwV 1 hts gX2_scale_X2_numberOf rfl rfl rfl (by decide +kernel) ⟨Nat.le_of_ble_eq_true rfl, Nat.le_of_ble_eq_true rfl⟩) hK hNX hP hD hS 0 rfl rfl rfl rfl hl.1 rfl (Nat.le_of_ble_eq_true rfl) dX2_scale_2 ⟨Nat.zero_le _, Nat.zero_le _⟩ (fun o w1 H locs hq hP hD hS => ?_)
  obtain ⟨rfl, e9⟩ := hq
  rw [e9] at hP hD
  refine W.eq (g2 := F0 m 5 ls [.ref (q 2)]) rfl ?_
  refine lv_astore (lv' := [(4, .ref (q 2)), (0, .ref (q 0)), (1, .int (iv (1))), (2, .int (iv (bb))), (3, .int (iv (ee)))]) hx hb dX2_scale_5 hl (by decide) rfl (fun ls hl => ?_)
  refine lv_aload hx hb dX2_scale_7 (lv_at hl 0 rfl) ?_
  refine lv_ifnull hx hb dX2_scale_9 ?_
  refine lv_iload_n hx hb dX2_scale_12 rfl (lv_at hl 4 rfl) ?_
  refine lv_sipush (v := iv (-12000)) hx hb dX2_scale_13 (by decide) ?_
  refine iw_icmp_lt (tgt := 26) hx hb dX2_scale_16 (by decide) (he) ⟨by omega, by omega⟩ (fun c1 => ?_) (fun c1 => ?_)
  ·
    refine lv_iconst (v := iv (-1)) hx hb dX2_scale_26 (by decide) ?_
    exact ef_iret hx hb hr hlocks hP hD hS dX2_scale_27 (⟨_, _, rfl, rfl, hL, hR⟩)
  ·
    refine lv_iload_n hx hb dX2_scale_19 rfl (lv_at hl 4 rfl) ?_
    refine lv_sipush (v := iv (12000)) hx hb dX2_scale_20 (by decide) ?_
    refine iw_icmp_le (tgt := 28) hx hb dX2_scale_23 (by decide) (he) ⟨by omega, by omega⟩ (fun c2 => ?_) (fun c2 => ?_)
    ·
      exact absurd hbad (by omega)
    ·
      refine lv_iconst (v := iv (-1)) hx hb dX2_scale_26 (by decide) ?_
      exact ef_iret hx hb hr hlocks hP hD hS dX2_scale_27 (⟨_, _, rfl, rfl, hL, hR⟩)

set_option maxRecDepth 100000 in
set_option maxHeartbeats 4000000 in
/-- scale of no number -/
theorem c_scalex (l : Launch) (dC : Nat → ClassId) (dI : Nat → Nat → Nat) {cI : ClassId} {tys : List (ClassId × FieldType)} (ht : tys[0]? = some (cI, .int)) (q : Nat → Nat) {A1 U1 A2 U2 L R : Nat} {b1 e1 b2 e2 : Int} (hA1 : wl A1 ≤ 150) (hU1 : wl U1 ≤ 150) (hA2 : wl A2 ≤ 150) (hU2 : wl U2 ≤ 150) (hL : wl L ≤ 301) (hR : wl R ≤ 301) (z : Int) (hz : ir z) (hz0 : z ≠ 0) (hz1 : z ≠ 1) (bb ee : Int) : ef_C l yX2_scale wsX2_scale ({ frames := 1, cells := 0, slots := 0, locals := 21 } : Room) [.ref (q 0), .int (iv (z)), .int (iv (bb)), .int (iv (ee))] (dC, dI) vwCl tys (cC cI q (A1) (U1) (b1) (e1) (A2) (U2) (b2) (e2) (L) (R)) (fun o w1 => ∃ L2 R2 : Nat, o = some (.int (iv (-1))) ∧ w1 = cC cI q (A1) (U1) (b1) (e1) (A2) (U2) (b2) (e2) (L2) (R2) ∧ wl L2 ≤ 301 ∧ wl R2 ≤ 301) := by
  refine ef_C.of (cc := cX2_scale) (maxL := 5) (ret := (some .int)) (by decide) rfl (Nat.le_of_ble_eq_true rfl) ?_
  intro p e s m below meth c ls hx hb hml hr hts hown hlocks hK hNX hP hD hS hl
  have hl : lv_has ls 5 [(0, .ref (q 0)), (1, .int (iv (z))), (2, .int (iv (bb))), (3, .int (iv (ee)))] := hl
  have hown : s.vm.findClass RX2 = some m.cls := hown
  generalize hH : s.heap = H at hP ⊢
  have hS : va_S (ef_A (cC cI q (A1) (U1) (b1) (e1) (A2) (U2) (b2) (e2) (L) (R))) s.heap H [] := by rw [← hH]; exact hS
  generalize ([] : List Loc) = locs at hS ⊢
  refine lv_aload_n hx hb dX2_scale_0 rfl (lv_at hl 0 rfl) ?_
  refine lv_iload_n hx hb dX2_scale_1 rfl (lv_at hl 1 rfl) ?_
  refine ef_callV (As := [.int (iv (z))]) (rest := []) ⟨hx, hb, hml, hown, hts⟩ (c_numberOfx l dC dI ht q z hz hz0 hz1) (cwV 1 hts gX2_scale_X2_numberOf rfl rfl rfl (by decide +kernel) ⟨Nat.le_of_ble_eq_true rfl, Nat.le_of_ble_eq_true rfl⟩) hK hNX hP hD hS 0 rfl rfl rfl rfl hl.1 rfl (Nat.le_of_ble_eq_true rfl) dX2_scale_2 ⟨Nat.zero_le _, Nat.zero_le _⟩ (fun o w1 H locs hq hP hD hS => ?_)
  obtain ⟨rfl, e9⟩ := hq
  rw [e9] at hP hD
  refine W.eq (g2 := F0 m 5 ls [.null]) rfl ?_
  refine lv_astoreN (lv' := [(4, .null), (0, .ref (q 0)), (1, .int (iv (z))), (2, .int (iv (bb))), (3, .int (iv (ee)))]) hx hb dX2_scale_5 hl (by decide) rfl (fun ls hl => ?_)
  refine lv_aloadN hx hb dX2_scale_7 (lv_at hl 0 rfl) ?_
  refine lv_ifnullN (tgt := 26) hx hb dX2_scale_9 (by decide) ?_
  refine lv_iconst (v := iv (-1)) hx hb dX2_scale_26 (by decide) ?_
  exact ef_iret hx hb hr hlocks hP hD hS dX2_scale_27 (⟨_, _, rfl, rfl, hL, hR⟩)

set_option maxRecDepth 100000 in
set_option maxHeartbeats 4000000 in
/-- flip -/
theorem c_flip0 (l : Launch) (dC : Nat → ClassId) (dI : Nat → Nat → Nat) {cI : ClassId} {tys : List (ClassId × FieldType)} (ht : tys[0]? = some (cI, .int)) (q : Nat → Nat) {A1 U1 A2 U2 L R : Nat} {b1 e1 b2 e2 : Int} : ef_C l yX0_flip wsX0_flip ({ frames := 0, cells := 0, slots := 0, locals := 0 } : Room) [.ref (q 1)] (dC, dI) vwCl tys (cC cI q (A1) (U1) (b1) (e1) (A2) (U2) (b2) (e2) (L) (R)) (fun o w1 => o = none ∧ w1 = (cC cI q (A1) (U1) (b1) (e1) (A2) (U2) (b2) (e2) (L) (R)).set 1 (fo (q 1) (q 5) (q 3) b1 (-e1))) := by
  refine ef_C.of (cc := cX0_flip) (maxL := 2) (ret := none) (by decide) rfl (Nat.le_of_ble_eq_true rfl) ?_
  intro p e s m below meth c ls hx hb hml hr hts hown hlocks hK hNX hP hD hS hl
  have hl : lv_has ls 2 [(0, .ref (q 1))] := hl
  have hown : s.vm.findClass RX0 = some m.cls := hown
  generalize hH : s.heap = H at hP ⊢
  have hS : va_S (ef_A (cC cI q (A1) (U1) (b1) (e1) (A2) (U2) (b2) (e2) (L) (R))) s.heap H [] := by rw [← hH]; exact hS
  generalize ([] : List Loc) = locs at hS ⊢
  refine lv_aload_n hx hb dX0_flip_0 rfl (lv_at hl 0 rfl) ?_
  refine va_get (D := (dC, dI)) (ci := 0) (v := .ref (q 3)) (C := RX0) (T := TX0) (N := 4) hx hb hts (by decide +kernel) hown hK hP 1 rfl rfl 0 (by decide) (hts (.fieldLink RX0 10 "ExactFractions$Fraction" "above" "LExactFractions$Whole;") (by decide +kernel)) (fun _ h9 => h9) rfl dX0_flip_1 ?_
  refine lv_astore_n (lv' := [(1, .ref (q 3)), (0, .ref (q 1))]) hx hb dX0_flip_4 rfl hl (by decide) rfl (fun ls hl => ?_)
  refine lv_aload_n hx hb dX0_flip_5 rfl (lv_at hl 1 rfl) ?_
  refine lv_aload_n hx hb dX0_flip_6 rfl (lv_at hl 1 rfl) ?_
  refine va_get (D := (dC, dI)) (ci := 0) (v := .ref (q 5)) (C := RX0) (T := TX0) (N := 4) hx hb hts (by decide +kernel) hown hK hP 1 rfl rfl 1 (by decide) (hts (.fieldLink RX0 16 "ExactFractions$Fraction" "under" "LExactFractions$Whole;") (by decide +kernel)) (fun _ h9 => h9) rfl dX0_flip_7 ?_
  refine va_put (D := (dC, dI)) (ci := 0) (v := .ref (q 5)) (ty := .object "ExactFractions$Whole") (C := RX0) (T := TX0) (N := 4) hx hb hts (by decide +kernel) tyX0 tyX0_ok nmX0 hown hK hP hD hS 1 rfl rfl 0 (by decide) (hts (.fieldLink RX0 10 "ExactFractions$Fraction" "above" "LExactFractions$Whole;") (by decide +kernel)) (fun _ h9 => h9) rfl (by decide +kernel) rfl rfl (Nat.le_of_ble_eq_true rfl) dX0_flip_10 (fun H locs hP hD hS => ?_)
  have hP : va_P (dC, dI) vwCl ((cC cI q (A1) (U1) (b1) (e1) (A2) (U2) (b2) (e2) (L) (R)).set 1 (fo (q 1) (q 5) (q 5) b1 (e1))) H := hP
  have hD : va_D (ef_A (cC cI q (A1) (U1) (b1) (e1) (A2) (U2) (b2) (e2) (L) (R))) ((cC cI q (A1) (U1) (b1) (e1) (A2) (U2) (b2) (e2) (L) (R)).set 1 (fo (q 1) (q 5) (q 5) b1 (e1))) := hD
  refine lv_aload_n hx hb dX0_flip_13 rfl (lv_at hl 1 rfl) ?_
  refine lv_aload_n hx hb dX0_flip_14 rfl (lv_at hl 0 rfl) ?_
  refine va_put (D := (dC, dI)) (ci := 0) (v := .ref (q 3)) (ty := .object "ExactFractions$Whole") (C := RX0) (T := TX0) (N := 4) hx hb hts (by decide +kernel) tyX0 tyX0_ok nmX0 hown hK hP hD hS 1 rfl rfl 1 (by decide) (hts (.fieldLink RX0 16 "ExactFractions$Fraction" "under" "LExactFractions$Whole;") (by decide +kernel)) (fun _ h9 => h9) rfl (by decide +kernel) rfl rfl (Nat.le_of_ble_eq_true rfl) dX0_flip_15 (fun H locs hP hD hS => ?_)
  have hP : va_P (dC, dI) vwCl ((cC cI q (A1) (U1) (b1) (e1) (A2) (U2) (b2) (e2) (L) (R)).set 1 (fo (q 1) (q 5) (q 3) b1 (e1))) H := hP
  have hD : va_D (ef_A (cC cI q (A1) (U1) (b1) (e1) (A2) (U2) (b2) (e2) (L) (R))) ((cC cI q (A1) (U1) (b1) (e1) (A2) (U2) (b2) (e2) (L) (R)).set 1 (fo (q 1) (q 5) (q 3) b1 (e1))) := hD
  refine lv_aload_n hx hb dX0_flip_18 rfl (lv_at hl 1 rfl) ?_
  refine lv_aload_n hx hb dX0_flip_19 rfl (lv_at hl 1 rfl) ?_
  refine va_get (D := (dC, dI)) (ci := 0) (v := .int (iv (e1))) (C := RX0) (T := TX0) (N := 4) hx hb hts (by decide +kernel) hown hK hP 1 rfl rfl 3 (by decide) (hts (.fieldLink RX0 30 "ExactFractions$Fraction" "exponent" "I") (by decide +kernel)) (fun _ h9 => h9) rfl dX0_flip_20 ?_
  refine iw_ineg hx hb dX0_flip_23 ?_
  refine va_put (D := (dC, dI)) (ci := 0) (v := .int (iv (-(e1)))) (ty := .int) (C := RX0) (T := TX0) (N := 4) hx hb hts (by decide +kernel) tyX0 tyX0_ok nmX0 hown hK hP hD hS 1 rfl rfl 3 (by decide) (hts (.fieldLink RX0 30 "ExactFractions$Fraction" "exponent" "I") (by decide +kernel)) (fun _ h9 => h9) rfl (by decide +kernel) rfl rfl (Nat.le_of_ble_eq_true rfl) dX0_flip_24 (fun H locs hP hD hS => ?_)
  have hP : va_P (dC, dI) vwCl ((cC cI q (A1) (U1) (b1) (e1) (A2) (U2) (b2) (e2) (L) (R)).set 1 (fo (q 1) (q 5) (q 3) b1 (-e1))) H := hP
  have hD : va_D (ef_A (cC cI q (A1) (U1) (b1) (e1) (A2) (U2) (b2) (e2) (L) (R))) ((cC cI q (A1) (U1) (b1) (e1) (A2) (U2) (b2) (e2) (L) (R)).set 1 (fo (q 1) (q 5) (q 3) b1 (-e1))) := hD
  exact ef_vret hx hb hr hlocks hP hD hS dX0_flip_27 (⟨rfl, rfl⟩)

set_option maxRecDepth 100000 in
set_option maxHeartbeats 4000000 in
/-- flip -/
theorem c_flip1 (l : Launch) (dC : Nat → ClassId) (dI : Nat → Nat → Nat) {cI : ClassId} {tys : List (ClassId × FieldType)} (ht : tys[0]? = some (cI, .int)) (q : Nat → Nat) {A1 U1 A2 U2 L R : Nat} {b1 e1 b2 e2 : Int} : ef_C l yX0_flip wsX0_flip ({ frames := 0, cells := 0, slots := 0, locals := 0 } : Room) [.ref (q 2)] (dC, dI) vwCl tys (cC cI q (A1) (U1) (b1) (e1) (A2) (U2) (b2) (e2) (L) (R)) (fun o w1 => o = none ∧ w1 = (cC cI q (A1) (U1) (b1) (e1) (A2) (U2) (b2) (e2) (L) (R)).set 2 (fo (q 2) (q 9) (q 7) b2 (-e2))) := by
  refine ef_C.of (cc := cX0_flip) (maxL := 2) (ret := none) (by decide) rfl (Nat.le_of_ble_eq_true rfl) ?_
  intro p e s m below meth c ls hx hb hml hr hts hown hlocks hK hNX hP hD hS hl
  have hl : lv_has ls 2 [(0, .ref (q 2))] := hl
  have hown : s.vm.findClass RX0 = some m.cls := hown
  generalize hH : s.heap = H at hP ⊢
  have hS : va_S (ef_A (cC cI q (A1) (U1) (b1) (e1) (A2) (U2) (b2) (e2) (L) (R))) s.heap H [] := by rw [← hH]; exact hS
  generalize ([] : List Loc) = locs at hS ⊢
  refine lv_aload_n hx hb dX0_flip_0 rfl (lv_at hl 0 rfl) ?_
  refine va_get (D := (dC, dI)) (ci := 0) (v := .ref (q 7)) (C := RX0) (T := TX0) (N := 4) hx hb hts (by decide +kernel) hown hK hP 2 rfl rfl 0 (by decide) (hts (.fieldLink RX0 10 "ExactFractions$Fraction" "above" "LExactFractions$Whole;") (by decide +kernel)) (fun _ h9 => h9) rfl dX0_flip_1 ?_
  refine lv_astore_n (lv' := [(1, .ref (q 7)), (0, .ref (q 2))]) hx hb dX0_flip_4 rfl hl (by decide) rfl (fun ls hl => ?_)
  refine lv_aload_n hx hb dX0_flip_5 rfl (lv_at hl 1 rfl) ?_
  refine lv_aload_n hx hb dX0_flip_6 rfl (lv_at hl 1 rfl) ?_
  refine va_get (D := (dC, dI)) (ci := 0) (v := .ref (q 9)) (C := RX0) (T := TX0) (N := 4) hx hb hts (by decide +kernel) hown hK hP 2 rfl rfl 1 (by decide) (hts (.fieldLink RX0 16 "ExactFractions$Fraction" "under" "LExactFractions$Whole;") (by decide +kernel)) (fun _ h9 => h9) rfl dX0_flip_7 ?_
  refine va_put (D := (dC, dI)) (ci := 0) (v := .ref (q 9)) (ty := .object "ExactFractions$Whole") (C := RX0) (T := TX0) (N := 4) hx hb hts (by decide +kernel) tyX0 tyX0_ok nmX0 hown hK hP hD hS 2 rfl rfl 0 (by decide) (hts (.fieldLink RX0 10 "ExactFractions$Fraction" "above" "LExactFractions$Whole;") (by decide +kernel)) (fun _ h9 => h9) rfl (by decide +kernel) rfl rfl (Nat.le_of_ble_eq_true rfl) dX0_flip_10 (fun H locs hP hD hS => ?_)
  have hP : va_P (dC, dI) vwCl ((cC cI q (A1) (U1) (b1) (e1) (A2) (U2) (b2) (e2) (L) (R)).set 2 (fo (q 2) (q 9) (q 9) b2 (e2))) H := hP
  have hD : va_D (ef_A (cC cI q (A1) (U1) (b1) (e1) (A2) (U2) (b2) (e2) (L) (R))) ((cC cI q (A1) (U1) (b1) (e1) (A2) (U2) (b2) (e2) (L) (R)).set 2 (fo (q 2) (q 9) (q 9) b2 (e2))) := hD
  refine lv_aload_n hx hb dX0_flip_13 rfl (lv_at hl 1 rfl) ?_
  refine lv_aload_n hx hb dX0_flip_14 rfl (lv_at hl 0 rfl) ?_
  refine va_put (D := (dC, dI)) (ci := 0) (v := .ref (q 7)) (ty := .object "ExactFractions$Whole") (C := RX0) (T := TX0) (N := 4) hx hb hts (by decide +kernel) tyX0 tyX0_ok nmX0 hown hK hP hD hS 2 rfl rfl 1 (by decide) (hts (.fieldLink RX0 16 "ExactFractions$Fraction" "under" "LExactFractions$Whole;") (by decide +kernel)) (fun _ h9 => h9) rfl (by decide +kernel) rfl rfl (Nat.le_of_ble_eq_true rfl) dX0_flip_15 (fun H locs hP hD hS => ?_)
  have hP : va_P (dC, dI) vwCl ((cC cI q (A1) (U1) (b1) (e1) (A2) (U2) (b2) (e2) (L) (R)).set 2 (fo (q 2) (q 9) (q 7) b2 (e2))) H := hP
  have hD : va_D (ef_A (cC cI q (A1) (U1) (b1) (e1) (A2) (U2) (b2) (e2) (L) (R))) ((cC cI q (A1) (U1) (b1) (e1) (A2) (U2) (b2) (e2) (L) (R)).set 2 (fo (q 2) (q 9) (q 7) b2 (e2))) := hD
  refine lv_aload_n hx hb dX0_flip_18 rfl (lv_at hl 1 rfl) ?_
  refine lv_aload_n hx hb dX0_flip_19 rfl (lv_at hl 1 rfl) ?_
  refine va_get (D := (dC, dI)) (ci := 0) (v := .int (iv (e2))) (C := RX0) (T := TX0) (N := 4) hx hb hts (by decide +kernel) hown hK hP 2 rfl rfl 3 (by decide) (hts (.fieldLink RX0 30 "ExactFractions$Fraction" "exponent" "I") (by decide +kernel)) (fun _ h9 => h9) rfl dX0_flip_20 ?_
  refine iw_ineg hx hb dX0_flip_23 ?_
  refine va_put (D := (dC, dI)) (ci := 0) (v := .int (iv (-(e2)))) (ty := .int) (C := RX0) (T := TX0) (N := 4) hx hb hts (by decide +kernel) tyX0 tyX0_ok nmX0 hown hK hP hD hS 2 rfl rfl 3 (by decide) (hts (.fieldLink RX0 30 "ExactFractions$Fraction" "exponent" "I") (by decide +kernel)) (fun _ h9 => h9) rfl (by decide +kernel) rfl rfl (Nat.le_of_ble_eq_true rfl) dX0_flip_24 (fun H locs hP hD hS => ?_)
  have hP : va_P (dC, dI) vwCl ((cC cI q (A1) (U1) (b1) (e1) (A2) (U2) (b2) (e2) (L) (R)).set 2 (fo (q 2) (q 9) (q 7) b2 (-e2))) H := hP
  have hD : va_D (ef_A (cC cI q (A1) (U1) (b1) (e1) (A2) (U2) (b2) (e2) (L) (R))) ((cC cI q (A1) (U1) (b1) (e1) (A2) (U2) (b2) (e2) (L) (R)).set 2 (fo (q 2) (q 9) (q 7) b2 (-e2))) := hD
  exact ef_vret hx hb hr hlocks hP hD hS dX0_flip_27 (⟨rfl, rfl⟩)

set_option maxRecDepth 100000 in
set_option maxHeartbeats 4000000 in
/-- turn -/
theorem c_turn0Z (l : Launch) (dC : Nat → ClassId) (dI : Nat → Nat → Nat) {cI : ClassId} {tys : List (ClassId × FieldType)} (ht : tys[0]? = some (cI, .int)) (q : Nat → Nat) {A1 U1 A2 U2 L R : Nat} {b1 e1 b2 e2 : Int} (hA1 : wl A1 ≤ 150) (hU1 : wl U1 ≤ 150) (hA2 : wl A2 ≤ 150) (hU2 : wl U2 ≤ 150) (hL : wl L ≤ 301) (hR : wl R ≤ 301) (hA0 : A1 = 0) : ef_C l yX2_turn wsX2_turn ({ frames := 1, cells := 0, slots := 0, locals := 21 } : Room) [.ref (q 0), .int (iv (0))] (dC, dI) vwCl tys (cC cI q (A1) (U1) (b1) (e1) (A2) (U2) (b2) (e2) (L) (R)) (fun o w1 => ∃ L2 R2 : Nat, o = some (.int (iv (-3))) ∧ w1 = cC cI q (A1) (U1) (b1) (e1) (A2) (U2) (b2) (e2) (L2) (R2) ∧ wl L2 ≤ 301 ∧ wl R2 ≤ 301) := by
  refine ef_C.of (cc := cX2_turn) (maxL := 3) (ret := (some .int)) (by decide) rfl (Nat.le_of_ble_eq_true rfl) ?_
  intro p e s m below meth c ls hx hb hml hr hts hown hlocks hK hNX hP hD hS hl
  have hl : lv_has ls 3 [(0, .ref (q 0)), (1, .int (iv (0)))] := hl
  have hown : s.vm.findClass RX2 = some m.cls := hown
  generalize hH : s.heap = H at hP ⊢
  have hS : va_S (ef_A (cC cI q (A1) (U1) (b1) (e1) (A2) (U2) (b2) (e2) (L) (R))) s.heap H [] := by rw [← hH]; exact hS
  generalize ([] : List Loc) = locs at hS ⊢
  refine lv_aload_n hx hb dX2_turn_0 rfl (lv_at hl 0 rfl) ?_
  refine lv_iload_n hx hb dX2_turn_1 rfl (lv_at hl 1 rfl) ?_
  refine ef_callV (As := [.int (iv (0))]) (rest := []) ⟨hx, hb, hml, hown, hts⟩ (c_numberOf0 l dC dI ht q) (cwV 1 hts gX2_turn_X2_numberOf rfl rfl rfl (by decide +kernel) ⟨Nat.le_of_ble_eq_true rfl, Nat.le_of_ble_eq_true rfl⟩) hK hNX hP hD hS 0 rfl rfl rfl rfl hl.1 rfl (Nat.le_of_ble_eq_true rfl) dX2_turn_2 ⟨Nat.zero_le _, Nat.zero_le _⟩ (fun o w1 H locs hq hP hD hS => ?_)
  obtain ⟨rfl, e9⟩ := hq
  rw [e9] at hP hD
  refine W.eq (g2 := F0 m 5 ls [.ref (q 1)]) rfl ?_
  refine lv_astore_n (lv' := [(2, .ref (q 1)), (0, .ref (q 0)), (1, .int (iv (0)))]) hx hb dX2_turn_5 rfl hl (by decide) rfl (fun ls hl => ?_)
  refine lv_aload_n hx hb dX2_turn_6 rfl (lv_at hl 0 rfl) ?_
  refine lv_ifnonnull (tgt := 12) hx hb dX2_turn_7 (by decide) ?_
  refine lv_aload_n hx hb dX2_turn_12 rfl (lv_at hl 0 rfl) ?_
  refine va_get (D := (dC, dI)) (ci := 0) (v := .ref (q 3)) (C := RX0) (T := TX0) (N := 4) hx hb hts (by decide +kernel) hown hK hP 1 rfl rfl 0 (by decide) (hts (.fieldLink RX2 65 "ExactFractions$Fraction" "above" "LExactFractions$Whole;") (by decide +kernel)) (fun _ h9 => h9) rfl dX2_turn_13 ?_
  refine ef_callV (As := []) (rest := []) ⟨hx, hb, hml, hown, hts⟩ (c_isZero l dC dI ht (isW_c (X := A1) (ws := cC cI q (A1) (U1) (b1) (e1) (A2) (U2) (b2) (e2) (L) (R)) (k0 := 3) (k1 := 4) (by decide) rfl rfl) (by omega)) (cwV 0 hts gX2_turn_X1_isZero rfl rfl rfl (by decide +kernel) ⟨Nat.le_of_ble_eq_true rfl, Nat.le_of_ble_eq_true rfl⟩) hK hNX hP hD hS 3 rfl rfl rfl rfl hl.1 rfl (Nat.le_of_ble_eq_true rfl) dX2_turn_16 ⟨Nat.zero_le _, Nat.zero_le _⟩ (fun o w1 H locs hq hP hD hS => ?_)
  obtain ⟨rfl, e9⟩ := hq
  rw [e9] at hP hD
  refine W.eq (g2 := F0 m 19 ls [.int (iv (if A1 = 0 then 1 else 0))]) rfl ?_
  refine iw_topi (y := iv (1)) (congrArg iv (by rw [if_pos hA0] : ((if A1 = 0 then 1 else 0) : Int) = (1))) ?_
  refine iw_if_eq (tgt := 25) hx hb dX2_turn_19 (by decide) ⟨by omega, by omega⟩ (fun c1 => ?_) (fun c1 => ?_)
  ·
    exact absurd c1 (by decide)
  ·
    refine lv_bipush (v := iv (-3)) hx hb dX2_turn_22 (by decide) ?_
    exact ef_iret hx hb hr hlocks hP hD hS dX2_turn_24 (⟨_, _, rfl, rfl, hL, hR⟩)

set_option maxRecDepth 100000 in
set_option maxHeartbeats 4000000 in
/-- turn -/
theorem c_turn0K (l : Launch) (dC : Nat → ClassId) (dI : Nat → Nat → Nat) {cI : ClassId} {tys : List (ClassId × FieldType)} (ht : tys[0]? = some (cI, .int)) (q : Nat → Nat) {A1 U1 A2 U2 L R : Nat} {b1 e1 b2 e2 : Int} (hA1 : wl A1 ≤ 150) (hU1 : wl U1 ≤ 150) (hA2 : wl A2 ≤ 150) (hU2 : wl U2 ≤ 150) (hL : wl L ≤ 301) (hR : wl R ≤ 301) (hA0 : A1 ≠ 0) : ef_C l yX2_turn wsX2_turn ({ frames := 1, cells := 0, slots := 0, locals := 21 } : Room) [.ref (q 0), .int (iv (0))] (dC, dI) vwCl tys (cC cI q (A1) (U1) (b1) (e1) (A2) (U2) (b2) (e2) (L) (R)) (fun o w1 => ∃ L2 R2 : Nat, o = some (.int (iv (0))) ∧ w1 = cC cI (sw0 q) (U1) (A1) (b1) (-e1) (A2) (U2) (b2) (e2) (L2) (R2) ∧ wl L2 ≤ 301 ∧ wl R2 ≤ 301) := by
  refine ef_C.of (cc := cX2_turn) (maxL := 3) (ret := (some .int)) (by decide) rfl (Nat.le_of_ble_eq_true rfl) ?_
  intro p e s m below meth c ls hx hb hml hr hts hown hlocks hK hNX hP hD hS hl
  have hl : lv_has ls 3 [(0, .ref (q 0)), (1, .int (iv (0)))] := hl
  have hown : s.vm.findClass RX2 = some m.cls := hown
  generalize hH : s.heap = H at hP ⊢
  have hS : va_S (ef_A (cC cI q (A1) (U1) (b1) (e1) (A2) (U2) (b2) (e2) (L) (R))) s.heap H [] := by rw [← hH]; exact hS
  generalize ([] : List Loc) = locs at hS ⊢
  refine lv_aload_n hx hb dX2_turn_0 rfl (lv_at hl 0 rfl) ?_
  refine lv_iload_n hx hb dX2_turn_1 rfl (lv_at hl 1 rfl) ?_
  refine ef_callV (As := [.int (iv (0))]) (rest := []) ⟨hx, hb, hml, hown, hts⟩ (c_numberOf0 l dC dI ht q) (cwV 1 hts gX2_turn_X2_numberOf rfl rfl rfl (by decide +kernel) ⟨Nat.le_of_ble_eq_true rfl, Nat.le_of_ble_eq_true rfl⟩) hK hNX hP hD hS 0 rfl rfl rfl rfl hl.1 rfl (Nat.le_of_ble_eq_true rfl) dX2_turn_2 ⟨Nat.zero_le _, Nat.zero_le _⟩ (fun o w1 H locs hq hP hD hS => ?_)
  obtain ⟨rfl, e9⟩ := hq
  rw [e9] at hP hD
  refine W.eq (g2 := F0 m 5 ls [.ref (q 1)]) rfl ?_
  refine lv_astore_n (lv' := [(2, .ref (q 1)), (0, .ref (q 0)), (1, .int (iv (0)))]) hx hb dX2_turn_5 rfl hl (by decide) rfl (fun ls hl => ?_)
  refine lv_aload_n hx hb dX2_turn_6 rfl (lv_at hl 0 rfl) ?_
  refine lv_ifnonnull (tgt := 12) hx hb dX2_turn_7 (by decide) ?_
  refine lv_aload_n hx hb dX2_turn_12 rfl (lv_at hl 0 rfl) ?_
  refine va_get (D := (dC, dI)) (ci := 0) (v := .ref (q 3)) (C := RX0) (T := TX0) (N := 4) hx hb hts (by decide +kernel) hown hK hP 1 rfl rfl 0 (by decide) (hts (.fieldLink RX2 65 "ExactFractions$Fraction" "above" "LExactFractions$Whole;") (by decide +kernel)) (fun _ h9 => h9) rfl dX2_turn_13 ?_
  refine ef_callV (As := []) (rest := []) ⟨hx, hb, hml, hown, hts⟩ (c_isZero l dC dI ht (isW_c (X := A1) (ws := cC cI q (A1) (U1) (b1) (e1) (A2) (U2) (b2) (e2) (L) (R)) (k0 := 3) (k1 := 4) (by decide) rfl rfl) (by omega)) (cwV 0 hts gX2_turn_X1_isZero rfl rfl rfl (by decide +kernel) ⟨Nat.le_of_ble_eq_true rfl, Nat.le_of_ble_eq_true rfl⟩) hK hNX hP hD hS 3 rfl rfl rfl rfl hl.1 rfl (Nat.le_of_ble_eq_true rfl) dX2_turn_16 ⟨Nat.zero_le _, Nat.zero_le _⟩ (fun o w1 H locs hq hP hD hS => ?_)
  obtain ⟨rfl, e9⟩ := hq
  rw [e9] at hP hD
  refine W.eq (g2 := F0 m 19 ls [.int (iv (if A1 = 0 then 1 else 0))]) rfl ?_
  refine iw_topi (y := iv (0)) (congrArg iv (by rw [if_neg hA0] : ((if A1 = 0 then 1 else 0) : Int) = (0))) ?_
  refine iw_if_eq (tgt := 25) hx hb dX2_turn_19 (by decide) ⟨by omega, by omega⟩ (fun c1 => ?_) (fun c1 => ?_)
  ·
    refine lv_aload_n hx hb dX2_turn_25 rfl (lv_at hl 0 rfl) ?_
    refine ef_callV (As := []) (rest := []) ⟨hx, hb, hml, hown, hts⟩ (c_flip0 l dC dI ht q) (cwV 0 hts gX2_turn_X0_flip rfl rfl rfl (by decide +kernel) ⟨Nat.le_of_ble_eq_true rfl, Nat.le_of_ble_eq_true rfl⟩) hK hNX hP hD hS 1 rfl rfl rfl rfl hl.1 rfl (Nat.le_of_ble_eq_true rfl) dX2_turn_26 ⟨Nat.zero_le _, Nat.zero_le _⟩ (fun o w1 H locs hq hP hD hS => ?_)
    obtain ⟨rfl, rfl⟩ := hq
    have hP : va_P (dC, dI) vwCl (cC cI (sw0 q) (U1) (A1) (b1) (-e1) (A2) (U2) (b2) (e2) (L) (R)) H := hP.sub [0, 1, 2, 5, 6, 3, 4, 7, 8, 9, 10, 11, 12, 13, 14] rfl
    have hD : va_D (ef_A (cC cI q (A1) (U1) (b1) (e1) (A2) (U2) (b2) (e2) (L) (R))) (cC cI (sw0 q) (U1) (A1) (b1) (-e1) (A2) (U2) (b2) (e2) (L) (R)) := hD.sub [0, 1, 2, 5, 6, 3, 4, 7, 8, 9, 10, 11, 12, 13, 14] (by decide) rfl
    refine W.eq (g2 := F0 m 29 ls []) rfl ?_
    refine lv_iconst (v := iv (0)) hx hb dX2_turn_29 (by decide) ?_
    exact ef_iret hx hb hr hlocks hP hD hS dX2_turn_30 (⟨_, _, rfl, rfl, hL, hR⟩)
  ·
    exact absurd rfl c1

set_option maxRecDepth 100000 in
set_option maxHeartbeats 4000000 in
/-- turn -/
theorem c_turn1Z (l : Launch) (dC : Nat → ClassId) (dI : Nat → Nat → Nat) {cI : ClassId} {tys : List (ClassId × FieldType)} (ht : tys[0]? = some (cI, .int)) (q : Nat → Nat) {A1 U1 A2 U2 L R : Nat} {b1 e1 b2 e2 : Int} (hA1 : wl A1 ≤ 150) (hU1 : wl U1 ≤ 150) (hA2 : wl A2 ≤ 150) (hU2 : wl U2 ≤ 150) (hL : wl L ≤ 301) (hR : wl R ≤ 301) (hA0 : A2 = 0) : ef_C l yX2_turn wsX2_turn ({ frames := 1, cells := 0, slots := 0, locals := 21 } : Room) [.ref (q 0), .int (iv (1))] (dC, dI) vwCl tys (cC cI q (A1) (U1) (b1) (e1) (A2) (U2) (b2) (e2) (L) (R)) (fun o w1 => ∃ L2 R2 : Nat, o = some (.int (iv (-3))) ∧ w1 = cC cI q (A1) (U1) (b1) (e1) (A2) (U2) (b2) (e2) (L2) (R2) ∧ wl L2 ≤ 301 ∧ wl R2 ≤ 301) := by
  refine ef_C.of (cc := cX2_turn) (maxL := 3) (ret := (some .int)) (by decide) rfl (Nat.le_of_ble_eq_true rfl) ?_
  intro p e s m below meth c ls hx hb hml hr hts hown hlocks hK hNX hP hD hS hl
  have hl : lv_has ls 3 [(0, .ref (q 0)), (1, .int (iv (1)))] := hl
  have hown : s.vm.findClass RX2 = some m.cls := hown
  generalize hH : s.heap = H at hP ⊢
  have hS : va_S (ef_A (cC cI q (A1) (U1) (b1) (e1) (A2) (U2) (b2) (e2) (L) (R))) s.heap H [] := by rw [← hH]; exact hS
  generalize ([] : List Loc) = locs at hS ⊢
  refine lv_aload_n hx hb dX2_turn_0 rfl (lv_at hl 0 rfl) ?_
  refine lv_iload_n hx hb dX2_turn_1 rfl (lv_at hl 1 rfl) ?_
  refine ef_callV (As := [.int (iv (1))]) (rest := []) ⟨hx, hb, hml, hown, hts⟩ (c_numberOf1 l dC dI ht q) (cwV 1 hts gX2_turn_X2_numberOf rfl rfl rfl (by decide +kernel) ⟨Nat.le_of_ble_eq_true rfl, Nat.le_of_ble_eq_true rfl⟩) hK hNX hP hD hS 0 rfl rfl rfl rfl hl.1 rfl (Nat.le_of_ble_eq_true rfl) dX2_turn_2 ⟨Nat.zero_le _, Nat.zero_le _⟩ (fun o w1 H locs hq hP hD hS => ?_)
  obtain ⟨rfl, e9⟩ := hq
  rw [e9] at hP hD
  refine W.eq (g2 := F0 m 5 ls [.ref (q 2)]) rfl ?_
  refine lv_astore_n (lv' := [(2, .ref (q 2)), (0, .ref (q 0)), (1, .int (iv (1)))]) hx hb dX2_turn_5 rfl hl (by decide) rfl (fun ls hl => ?_)
  refine lv_aload_n hx hb dX2_turn_6 rfl (lv_at hl 0 rfl) ?_
  refine lv_ifnonnull (tgt := 12) hx hb dX2_turn_7 (by decide) ?_
  refine lv_aload_n hx hb dX2_turn_12 rfl (lv_at hl 0 rfl) ?_
  refine va_get (D := (dC, dI)) (ci := 0) (v := .ref (q 7)) (C := RX0) (T := TX0) (N := 4) hx hb hts (by decide +kernel) hown hK hP 2 rfl rfl 0 (by decide) (hts (.fieldLink RX2 65 "ExactFractions$Fraction" "above" "LExactFractions$Whole;") (by decide +kernel)) (fun _ h9 => h9) rfl dX2_turn_13 ?_
  refine ef_callV (As := []) (rest := []) ⟨hx, hb, hml, hown, hts⟩ (c_isZero l dC dI ht (isW_c (X := A2) (ws := cC cI q (A1) (U1) (b1) (e1) (A2) (U2) (b2) (e2) (L) (R)) (k0 := 7) (k1 := 8) (by decide) rfl rfl) (by omega)) (cwV 0 hts gX2_turn_X1_isZero rfl rfl rfl (by decide +kernel) ⟨Nat.le_of_ble_eq_true rfl, Nat.le_of_ble_eq_true rfl⟩) hK hNX hP hD hS 7 rfl rfl rfl rfl hl.1 rfl (Nat.le_of_ble_eq_true rfl) dX2_turn_16 ⟨Nat.zero_le _, Nat.zero_le _⟩ (fun o w1 H locs hq hP hD hS => ?_)
  obtain ⟨rfl, e9⟩ := hq
  rw [e9] at hP hD
  refine W.eq (g2 := F0 m 19 ls [.int (iv (if A2 = 0 then 1 else 0))]) rfl ?_
  refine iw_topi (y := iv (1)) (congrArg iv (by rw [if_pos hA0] : ((if A2 = 0 then 1 else 0) : Int) = (1))) ?_
  refine iw_if_eq (tgt := 25) hx hb dX2_turn_19 (by decide) ⟨by omega, by omega⟩ (fun c1 => ?_) (fun c1 => ?_)
  ·
    exact absurd c1 (by decide)
  ·
    refine lv_bipush (v := iv (-3)) hx hb dX2_turn_22 (by decide) ?_
    exact ef_iret hx hb hr hlocks hP hD hS dX2_turn_24 (⟨_, _, rfl, rfl, hL, hR⟩)

set_option maxRecDepth 100000 in
set_option maxHeartbeats 4000000 in
/-- turn -/
theorem c_turn1K (l : Launch) (dC : Nat → ClassId) (dI : Nat → Nat → Nat) {cI : ClassId} {tys : List (ClassId × FieldType)} (ht : tys[0]? = some (cI, .int)) (q : Nat → Nat) {A1 U1 A2 U2 L R : Nat} {b1 e1 b2 e2 : Int} (hA1 : wl A1 ≤ 150) (hU1 : wl U1 ≤ 150) (hA2 : wl A2 ≤ 150) (hU2 : wl U2 ≤ 150) (hL : wl L ≤ 301) (hR : wl R ≤ 301) (hA0 : A2 ≠ 0) : ef_C l yX2_turn wsX2_turn ({ frames := 1, cells := 0, slots := 0, locals := 21 } : Room) [.ref (q 0), .int (iv (1))] (dC, dI) vwCl tys (cC cI q (A1) (U1) (b1) (e1) (A2) (U2) (b2) (e2) (L) (R)) (fun o w1 => ∃ L2 R2 : Nat, o = some (.int (iv (0))) ∧ w1 = cC cI (sw1 q) (A1) (U1) (b1) (e1) (U2) (A2) (b2) (-e2) (L2) (R2) ∧ wl L2 ≤ 301 ∧ wl R2 ≤ 301) := by
  refine ef_C.of (cc := cX2_turn) (maxL := 3) (ret := (some .int)) (by decide) rfl (Nat.le_of_ble_eq_true rfl) ?_
  intro p e s m below meth c ls hx hb hml hr hts hown hlocks hK hNX hP hD hS hl
  have hl : lv_has ls 3 [(0, .ref (q 0)), (1, .int (iv (1)))] := hl
  have hown : s.vm.findClass RX2 = some m.cls := hown
  generalize hH : s.heap = H at hP ⊢
  have hS : va_S (ef_A (cC cI q (A1) (U1) (b1) (e1) (A2) (U2) (b2) (e2) (L) (R))) s.heap H [] := by rw [← hH]; exact hS
  generalize ([] : List Loc) = locs at hS ⊢
  refine lv_aload_n hx hb dX2_turn_0 rfl (lv_at hl 0 rfl) ?_
  refine lv_iload_n hx hb dX2_turn_1 rfl (lv_at hl 1 rfl) ?_
  refine ef_callV (As := [.int (iv (1))]) (rest := []) ⟨hx, hb, hml, hown, hts⟩ (c_numberOf1 l dC dI ht q) (cwV 1 hts gX2_turn_X2_numberOf rfl rfl rfl (by decide +kernel) ⟨Nat.le_of_ble_eq_true rfl, Nat.le_of_ble_eq_true rfl⟩) hK hNX hP hD hS 0 rfl rfl rfl rfl hl.1 rfl (Nat.le_of_ble_eq_true rfl) dX2_turn_2 ⟨Nat.zero_le _, Nat.zero_le _⟩ (fun o w1 H locs hq hP hD hS => ?_)
  obtain ⟨rfl, e9⟩ := hq
  rw [e9] at hP hD
  refine W.eq (g2 := F0 m 5 ls [.ref (q 2)]) rfl ?_
  refine lv_astore_n (lv' := [(2, .ref (q 2)), (0, .ref (q 0)), (1, .int (iv (1)))]) hx hb dX2_turn_5 rfl hl (by decide) rfl (fun ls hl => ?_)
  refine lv_aload_n hx hb dX2_turn_6 rfl (lv_at hl 0 rfl) ?_
  refine lv_ifnonnull (tgt := 12) hx hb dX2_turn_7 (by decide) ?_
  refine lv_aload_n hx hb dX2_turn_12 rfl (lv_at hl 0 rfl) ?_
  refine va_get (D := (dC, dI)) (ci := 0) (v := .ref (q 7)) (C := RX0) (T := TX0) (N := 4) hx hb hts (by decide +kernel) hown hK hP 2 rfl rfl 0 (by decide) (hts (.fieldLink RX2 65 "ExactFractions$Fraction" "above" "LExactFractions$Whole;") (by decide +kernel)) (fun _ h9 => h9) rfl dX2_turn_13 ?_
  refine ef_callV (As := []) (rest := []) ⟨hx, hb, hml, hown, hts⟩ (c_isZero l dC dI ht (isW_c (X := A2) (ws := cC cI q (A1) (U1) (b1) (e1) (A2) (U2) (b2) (e2) (L) (R)) (k0 := 7) (k1 := 8) (by decide) rfl rfl) (by omega)) (cwV 0 hts gX2_turn_X1_isZero rfl rfl rfl (by decide +kernel) ⟨Nat.le_of_ble_eq_true rfl, Nat.le_of_ble_eq_true rfl⟩) hK hNX hP hD hS 7 rfl rfl rfl rfl hl.1 rfl (Nat.le_of_ble_eq_true rfl) dX2_turn_16 ⟨Nat.zero_le _, Nat.zero_le _⟩ (fun o w1 H locs hq hP hD hS => ?_)
  obtain ⟨rfl, e9⟩ := hq
  rw [e9] at hP hD
  refine W.eq (g2 := F0 m 19 ls [.int (iv (if A2 = 0 then 1 else 0))]) rfl ?_
  refine iw_topi (y := iv (0)) (congrArg iv (by rw [if_neg hA0] : ((if A2 = 0 then 1 else 0) : Int) = (0))) ?_
  refine iw_if_eq (tgt := 25) hx hb dX2_turn_19 (by decide) ⟨by omega, by omega⟩ (fun c1 => ?_) (fun c1 => ?_)
  ·
    refine lv_aload_n hx hb dX2_turn_25 rfl (lv_at hl 0 rfl) ?_
    refine ef_callV (As := []) (rest := []) ⟨hx, hb, hml, hown, hts⟩ (c_flip1 l dC dI ht q) (cwV 0 hts gX2_turn_X0_flip rfl rfl rfl (by decide +kernel) ⟨Nat.le_of_ble_eq_true rfl, Nat.le_of_ble_eq_true rfl⟩) hK hNX hP hD hS 2 rfl rfl rfl rfl hl.1 rfl (Nat.le_of_ble_eq_true rfl) dX2_turn_26 ⟨Nat.zero_le _, Nat.zero_le _⟩ (fun o w1 H locs hq hP hD hS => ?_)
    obtain ⟨rfl, rfl⟩ := hq
    have hP : va_P (dC, dI) vwCl (cC cI (sw1 q) (A1) (U1) (b1) (e1) (U2) (A2) (b2) (-e2) (L) (R)) H := hP.sub [0, 1, 2, 3, 4, 5, 6, 9, 10, 7, 8, 11, 12, 13, 14] rfl
    have hD : va_D (ef_A (cC cI q (A1) (U1) (b1) (e1) (A2) (U2) (b2) (e2) (L) (R))) (cC cI (sw1 q) (A1) (U1) (b1) (e1) (U2) (A2) (b2) (-e2) (L) (R)) := hD.sub [0, 1, 2, 3, 4, 5, 6, 9, 10, 7, 8, 11, 12, 13, 14] (by decide) rfl
    refine W.eq (g2 := F0 m 29 ls []) rfl ?_
    refine lv_iconst (v := iv (0)) hx hb dX2_turn_29 (by decide) ?_
    exact ef_iret hx hb hr hlocks hP hD hS dX2_turn_30 (⟨_, _, rfl, rfl, hL, hR⟩)
  ·
    exact absurd rfl c1

set_option maxRecDepth 100000 in
set_option maxHeartbeats 4000000 in
/-- turn of no number -/
theorem c_turnx (l : Launch) (dC : Nat → ClassId) (dI : Nat → Nat → Nat) {cI : ClassId} {tys : List (ClassId × FieldType)} (ht : tys[0]? = some (cI, .int)) (q : Nat → Nat) {A1 U1 A2 U2 L R : Nat} {b1 e1 b2 e2 : Int} (hA1 : wl A1 ≤ 150) (hU1 : wl U1 ≤ 150) (hA2 : wl A2 ≤ 150) (hU2 : wl U2 ≤ 150) (hL : wl L ≤ 301) (hR : wl R ≤ 301) (z : Int) (hz : ir z) (hz0 : z ≠ 0) (hz1 : z ≠ 1) : ef_C l yX2_turn wsX2_turn ({ frames := 1, cells := 0, slots := 0, locals := 21 } : Room) [.ref (q 0), .int (iv (z))] (dC, dI) vwCl tys (cC cI q (A1) (U1) (b1) (e1) (A2) (U2) (b2) (e2) (L) (R)) (fun o w1 => ∃ L2 R2 : Nat, o = some (.int (iv (-1))) ∧ w1 = cC cI q (A1) (U1) (b1) (e1) (A2) (U2) (b2) (e2) (L2) (R2) ∧ wl L2 ≤ 301 ∧ wl R2 ≤ 301) := by
  refine ef_C.of (cc := cX2_turn) (maxL := 3) (ret := (some .int)) (by decide) rfl (Nat.le_of_ble_eq_true rfl) ?_
  intro p e s m below meth c ls hx hb hml hr hts hown hlocks hK hNX hP hD hS hl
  have hl : lv_has ls 3 [(0, .ref (q 0)), (1, .int (iv (z)))] := hl
  have hown : s.vm.findClass RX2 = some m.cls := hown
  generalize hH : s.heap = H at hP ⊢
  have hS : va_S (ef_A (cC cI q (A1) (U1) (b1) (e1) (A2) (U2) (b2) (e2) (L) (R))) s.heap H [] := by rw [← hH]; exact hS
  generalize ([] : List Loc) = locs at hS ⊢
  refine lv_aload_n hx hb dX2_turn_0 rfl (lv_at hl 0 rfl) ?_
  refine lv_iload_n hx hb dX2_turn_1 rfl (lv_at hl 1 rfl) ?_
  refine ef_callV (As := [.int (iv (z))]) (rest := []) ⟨hx, hb, hml, hown, hts⟩ (c_numberOfx l dC dI ht q z hz hz0 hz1) (cwV 1 hts gX2_turn_X2_numberOf rfl rfl rfl (by decide +kernel) ⟨Nat.le_of_ble_eq_true rfl, Nat.le_of_ble_eq_true rfl⟩) hK hNX hP hD hS 0 rfl rfl rfl rfl hl.1 rfl (Nat.le_of_ble_eq_true rfl) dX2_turn_2 ⟨Nat.zero_le _, Nat.zero_le _⟩ (fun o w1 H locs hq hP hD hS => ?_)
  obtain ⟨rfl, e9⟩ := hq
  rw [e9] at hP hD
  refine W.eq (g2 := F0 m 5 ls [.null]) rfl ?_
  refine lv_astore_nN (lv' := [(2, .null), (0, .ref (q 0)), (1, .int (iv (z)))]) hx hb dX2_turn_5 rfl hl (by decide) rfl (fun ls hl => ?_)
  refine lv_aload_nN hx hb dX2_turn_6 rfl (lv_at hl 0 rfl) ?_
  refine lv_ifnonnullN hx hb dX2_turn_7 ?_
  refine lv_iconst (v := iv (-1)) hx hb dX2_turn_10 (by decide) ?_
  exact ef_iret hx hb hr hlocks hP hD hS dX2_turn_11 (⟨_, _, rfl, rfl, hL, hR⟩)

set_option maxRecDepth 100000 in
set_option maxHeartbeats 4000000 in
/-- move -/
theorem c_move0sumF (l : Launch) (dC : Nat → ClassId) (dI : Nat → Nat → Nat) {cI : ClassId} {tys : List (ClassId × FieldType)} (ht : tys[0]? = some (cI, .int)) (q : Nat → Nat) {A1 U1 A2 U2 L R : Nat} {b1 e1 b2 e2 : Int} (hA1 : wl A1 ≤ 150) (hU1 : wl U1 ≤ 150) (hA2 : wl A2 ≤ 150) (hU2 : wl U2 ≤ 150) (hL : wl L ≤ 301) (hR : wl R ≤ 301) (hba : bl A1 ≤ 4800) (hbb : bl A2 ≤ 4800) (dn : Int) (hdn : dn = 0 ∨ dn = 1) (hbo : b1 = 0 ∨ b1 = 1) (hd : b1 = dn) (hb4 : 4800 < bl (A1 + A2)) : ef_C l yX2_move wsX2_move ({ frames := 4, cells := 0, slots := 0, locals := 88 } : Room) [.ref (q 0), .int (iv (0)), .int (iv (dn))] (dC, dI) vwCl tys (cC cI q (A1) (U1) (b1) (e1) (A2) (U2) (b2) (e2) (L) (R)) (fun o w1 => ∃ L2 R2 : Nat, o = some (.int (iv (-2))) ∧ w1 = cC cI q (A1) (U1) (b1) (e1) (A2) (U2) (b2) (e2) (L2) (R2) ∧ wl L2 ≤ 301 ∧ wl R2 ≤ 301) := by
  refine ef_C.of (cc := cX2_move) (maxL := 5) (ret := (some .int)) (by decide) rfl (Nat.le_of_ble_eq_true rfl) ?_
  intro p e s m below meth c ls hx hb hml hr hts hown hlocks hK hNX hP hD hS hl
  have hl : lv_has ls 5 [(0, .ref (q 0)), (1, .int (iv (0))), (2, .int (iv (dn)))] := hl
  have hown : s.vm.findClass RX2 = some m.cls := hown
  generalize hH : s.heap = H at hP ⊢
  have hS : va_S (ef_A (cC cI q (A1) (U1) (b1) (e1) (A2) (U2) (b2) (e2) (L) (R))) s.heap H [] := by rw [← hH]; exact hS
  generalize ([] : List Loc) = locs at hS ⊢
  have hdr : ir dn := by rcases hdn with h | h <;> rw [h] <;> exact ⟨by decide, by decide⟩
  have hbr : ir b1 := by rcases hbo with h | h <;> rw [h] <;> exact ⟨by decide, by decide⟩
  have hwl : wl (A1 + A2) ≤ 151 := wl_add hA1 hA2
  refine lv_aload_n hx hb dX2_move_0 rfl (lv_at hl 0 rfl) ?_
  refine lv_iload_n hx hb dX2_move_1 rfl (lv_at hl 1 rfl) ?_
  refine ef_callV (As := [.int (iv (0))]) (rest := []) ⟨hx, hb, hml, hown, hts⟩ (c_numberOf0 l dC dI ht q) (cwV 1 hts gX2_move_X2_numberOf rfl rfl rfl (by decide +kernel) ⟨Nat.le_of_ble_eq_true rfl, Nat.le_of_ble_eq_true rfl⟩) hK hNX hP hD hS 0 rfl rfl rfl rfl hl.1 rfl (Nat.le_of_ble_eq_true rfl) dX2_move_2 ⟨Nat.zero_le _, Nat.zero_le _⟩ (fun o w1 H locs hq hP hD hS => ?_)
  obtain ⟨rfl, e9⟩ := hq
  rw [e9] at hP hD
  refine W.eq (g2 := F0 m 5 ls [.ref (q 1)]) rfl ?_
  refine lv_astore_n (lv' := [(3, .ref (q 1)), (0, .ref (q 0)), (1, .int (iv (0))), (2, .int (iv (dn)))]) hx hb dX2_move_5 rfl hl (by decide) rfl (fun ls hl => ?_)
  refine lv_aload_n hx hb dX2_move_6 rfl (lv_at hl 0 rfl) ?_
  refine lv_ifnonnull (tgt := 12) hx hb dX2_move_7 (by decide) ?_
  refine lv_iload_n hx hb dX2_move_12 rfl (lv_at hl 2 rfl) ?_
  refine iw_if_ne (tgt := 26) hx hb dX2_move_13 (by decide) ⟨by omega, by omega⟩ (fun c1 => ?_) (fun c1 => ?_)
  ·
    exact absurd rfl c1
  ·
    refine lv_aload_n hx hb dX2_move_16 rfl (lv_at hl 1 rfl) ?_
    refine va_get (D := (dC, dI)) (ci := 2) (v := .ref (q 2)) (C := RX2) (T := TX2) (N := 4) hx hb hts (by decide +kernel) hown hK hP 0 rfl rfl 1 (by decide) (hts (.fieldLink RX2 16 "ExactFractions" "second" "LExactFractions$Fraction;") (by decide +kernel)) (fun _ h9 => h9) rfl dX2_move_17 ?_
    refine va_get (D := (dC, dI)) (ci := 0) (v := .ref (q 7)) (C := RX0) (T := TX0) (N := 4) hx hb hts (by decide +kernel) hown hK hP 2 rfl rfl 0 (by decide) (hts (.fieldLink RX2 65 "ExactFractions$Fraction" "above" "LExactFractions$Whole;") (by decide +kernel)) (fun _ h9 => h9) rfl dX2_move_20 ?_
    refine lv_goto (tgt := 33) hx hb dX2_move_23 (by decide) ?_
    refine lv_astore (lv' := [(4, .ref (q 7)), (3, .ref (q 1)), (0, .ref (q 0)), (1, .int (iv (0))), (2, .int (iv (dn)))]) hx hb dX2_move_33 hl (by decide) rfl (fun ls hl => ?_)
    refine lv_aload_n hx hb dX2_move_35 rfl (lv_at hl 1 rfl) ?_
    refine va_get (D := (dC, dI)) (ci := 0) (v := .int (iv (b1))) (C := RX0) (T := TX0) (N := 4) hx hb hts (by decide +kernel) hown hK hP 1 rfl rfl 2 (by decide) (hts (.fieldLink RX2 57 "ExactFractions$Fraction" "below" "Z") (by decide +kernel)) (fun _ h9 => h9) rfl dX2_move_36 ?_
    refine lv_iload_n hx hb dX2_move_39 rfl (lv_at hl 4 rfl) ?_
    refine iw_icmp_ne (tgt := 59) hx hb dX2_move_40 (by decide) (hbr) (hdr) (fun c2 => ?_) (fun c2 => ?_)
    ·
      exact absurd hd c2
    ·
      refine lv_aload_n hx hb dX2_move_43 rfl (lv_at hl 2 rfl) ?_
      refine va_get (D := (dC, dI)) (ci := 2) (v := .ref (q 11)) (C := RX2) (T := TX2) (N := 4) hx hb hts (by decide +kernel) hown hK hP 0 rfl rfl 2 (by decide) (hts (.fieldLink RX2 22 "ExactFractions" "left" "LExactFractions$Whole;") (by decide +kernel)) (fun _ h9 => h9) rfl dX2_move_44 ?_
      refine lv_aload_n hx hb dX2_move_47 rfl (lv_at hl 1 rfl) ?_
      refine va_get (D := (dC, dI)) (ci := 0) (v := .ref (q 3)) (C := RX0) (T := TX0) (N := 4) hx hb hts (by decide +kernel) hown hK hP 1 rfl rfl 0 (by decide) (hts (.fieldLink RX2 65 "ExactFractions$Fraction" "above" "LExactFractions$Whole;") (by decide +kernel)) (fun _ h9 => h9) rfl dX2_move_48 ?_
      refine lv_aload hx hb dX2_move_51 (lv_at hl 0 rfl) ?_
      refine ef_callV (As := [.ref (q 3), .ref (q 7)]) (rest := []) ⟨hx, hb, hml, hown, hts⟩ (c_sum l dC dI ht (isW_c (X := L) (ws := cC cI q (A1) (U1) (b1) (e1) (A2) (U2) (b2) (e2) (L) (R)) (k0 := 11) (k1 := 12) (by decide) rfl rfl) hL (wd_lt _) wd_z (isW_c (X := A1) (ws := cC cI q (A1) (U1) (b1) (e1) (A2) (U2) (b2) (e2) (L) (R)) (k0 := 3) (k1 := 4) (by decide) rfl rfl) (by omega) (apt_c (k0 := 11) (k1 := 12) (j0 := 3) (j1 := 4) rfl) (isW_c (X := A2) (ws := cC cI q (A1) (U1) (b1) (e1) (A2) (U2) (b2) (e2) (L) (R)) (k0 := 7) (k1 := 8) (by decide) rfl rfl) (by omega) (apt_c (k0 := 11) (k1 := 12) (j0 := 7) (j1 := 8) rfl)) (cwV 2 hts gX2_move_X1_becomeSum rfl rfl rfl (by decide +kernel) ⟨Nat.le_of_ble_eq_true rfl, Nat.le_of_ble_eq_true rfl⟩) hK hNX hP hD hS 11 rfl rfl rfl rfl hl.1 rfl (Nat.le_of_ble_eq_true rfl) dX2_move_53 ⟨Nat.zero_le _, Nat.zero_le _⟩ (fun o w1 H locs hq hP hD hS => ?_)
      obtain ⟨rfl, rfl⟩ := hq
      have hP : va_P (dC, dI) vwCl (cC cI q (A1) (U1) (b1) (e1) (A2) (U2) (b2) (e2) (A1 + A2) (R)) H := hP
      have hD : va_D (ef_A (cC cI q (A1) (U1) (b1) (e1) (A2) (U2) (b2) (e2) (L) (R))) (cC cI q (A1) (U1) (b1) (e1) (A2) (U2) (b2) (e2) (A1 + A2) (R)) := hD
      refine W.eq (g2 := F0 m 56 ls []) rfl ?_
      refine lv_goto (tgt := 105) hx hb dX2_move_56 (by decide) ?_
      refine lv_aload_n hx hb dX2_move_105 rfl (lv_at hl 2 rfl) ?_
      refine lv_aload_n hx hb dX2_move_106 rfl (lv_at hl 1 rfl) ?_
      refine va_get (D := (dC, dI)) (ci := 0) (v := .ref (q 3)) (C := RX0) (T := TX0) (N := 4) hx hb hts (by decide +kernel) hown hK hP 1 rfl rfl 0 (by decide) (hts (.fieldLink RX2 65 "ExactFractions$Fraction" "above" "LExactFractions$Whole;") (by decide +kernel)) (fun _ h9 => h9) rfl dX2_move_107 ?_
      refine ef_callV (As := [.ref (q 3)]) (rest := []) ⟨hx, hb, hml, hown, hts⟩ (c_keep00F l dC dI ht q hA1 hU1 hA2 hU2 (by omega) hR hb4) (cwV 1 hts gX2_move_X2_keepLeftIn rfl rfl rfl (by decide +kernel) ⟨Nat.le_of_ble_eq_true rfl, Nat.le_of_ble_eq_true rfl⟩) hK hNX hP hD hS 0 rfl rfl rfl rfl hl.1 rfl (Nat.le_of_ble_eq_true rfl) dX2_move_110 ⟨Nat.zero_le _, Nat.zero_le _⟩ (fun o w1 H locs hq hP hD hS => ?_)
      obtain ⟨rfl, rfl⟩ := hq
      have hP : va_P (dC, dI) vwCl (cC cI q (A1) (U1) (b1) (e1) (A2) (U2) (b2) (e2) (A1 + A2) (R)) H := hP
      have hD : va_D (ef_A (cC cI q (A1) (U1) (b1) (e1) (A2) (U2) (b2) (e2) (L) (R))) (cC cI q (A1) (U1) (b1) (e1) (A2) (U2) (b2) (e2) (A1 + A2) (R)) := hD
      refine W.eq (g2 := F0 m 113 ls [.int (iv (-2))]) rfl ?_
      exact ef_iret hx hb hr hlocks hP hD hS dX2_move_113 (⟨_, _, rfl, rfl, by omega, hR⟩)

set_option maxRecDepth 100000 in
set_option maxHeartbeats 4000000 in
/-- move -/
theorem c_move0sumK (l : Launch) (dC : Nat → ClassId) (dI : Nat → Nat → Nat) {cI : ClassId} {tys : List (ClassId × FieldType)} (ht : tys[0]? = some (cI, .int)) (q : Nat → Nat) {A1 U1 A2 U2 L R : Nat} {b1 e1 b2 e2 : Int} (hA1 : wl A1 ≤ 150) (hU1 : wl U1 ≤ 150) (hA2 : wl A2 ≤ 150) (hU2 : wl U2 ≤ 150) (hL : wl L ≤ 301) (hR : wl R ≤ 301) (hba : bl A1 ≤ 4800) (hbb : bl A2 ≤ 4800) (dn : Int) (hdn : dn = 0 ∨ dn = 1) (hbo : b1 = 0 ∨ b1 = 1) (hd : b1 = dn) (hb4 : bl (A1 + A2) ≤ 4800) : ef_C l yX2_move wsX2_move ({ frames := 4, cells := 0, slots := 0, locals := 88 } : Room) [.ref (q 0), .int (iv (0)), .int (iv (dn))] (dC, dI) vwCl tys (cC cI q (A1) (U1) (b1) (e1) (A2) (U2) (b2) (e2) (L) (R)) (fun o w1 => ∃ L2 R2 : Nat, o = some (.int (iv (bl (A1 + A2) : Int))) ∧ w1 = cC cI q (A1 + A2) (U1) (b1) (e1) (A2) (U2) (b2) (e2) (L2) (R2) ∧ wl L2 ≤ 301 ∧ wl R2 ≤ 301) := by
  refine ef_C.of (cc := cX2_move) (maxL := 5) (ret := (some .int)) (by decide) rfl (Nat.le_of_ble_eq_true rfl) ?_
  intro p e s m below meth c ls hx hb hml hr hts hown hlocks hK hNX hP hD hS hl
  have hl : lv_has ls 5 [(0, .ref (q 0)), (1, .int (iv (0))), (2, .int (iv (dn)))] := hl
  have hown : s.vm.findClass RX2 = some m.cls := hown
  generalize hH : s.heap = H at hP ⊢
  have hS : va_S (ef_A (cC cI q (A1) (U1) (b1) (e1) (A2) (U2) (b2) (e2) (L) (R))) s.heap H [] := by rw [← hH]; exact hS
  generalize ([] : List Loc) = locs at hS ⊢
  have hdr : ir dn := by rcases hdn with h | h <;> rw [h] <;> exact ⟨by decide, by decide⟩
  have hbr : ir b1 := by rcases hbo with h | h <;> rw [h] <;> exact ⟨by decide, by decide⟩
  have hwl : wl (A1 + A2) ≤ 151 := wl_add hA1 hA2
  refine lv_aload_n hx hb dX2_move_0 rfl (lv_at hl 0 rfl) ?_
  refine lv_iload_n hx hb dX2_move_1 rfl (lv_at hl 1 rfl) ?_
  refine ef_callV (As := [.int (iv (0))]) (rest := []) ⟨hx, hb, hml, hown, hts⟩ (c_numberOf0 l dC dI ht q) (cwV 1 hts gX2_move_X2_numberOf rfl rfl rfl (by decide +kernel) ⟨Nat.le_of_ble_eq_true rfl, Nat.le_of_ble_eq_true rfl⟩) hK hNX hP hD hS 0 rfl rfl rfl rfl hl.1 rfl (Nat.le_of_ble_eq_true rfl) dX2_move_2 ⟨Nat.zero_le _, Nat.zero_le _⟩ (fun o w1 H locs hq hP hD hS => ?_)
  obtain ⟨rfl, e9⟩ := hq
  rw [e9] at hP hD
  refine W.eq (g2 := F0 m 5 ls [.ref (q 1)]) rfl ?_
  refine lv_astore_n (lv' := [(3, .ref (q 1)), (0, .ref (q 0)), (1, .int (iv (0))), (2, .int (iv (dn)))]) hx hb dX2_move_5 rfl hl (by decide) rfl (fun ls hl => ?_)
  refine lv_aload_n hx hb dX2_move_6 rfl (lv_at hl 0 rfl) ?_
  refine lv_ifnonnull (tgt := 12) hx hb dX2_move_7 (by decide) ?_
  refine lv_iload_n hx hb dX2_move_12 rfl (lv_at hl 2 rfl) ?_
  refine iw_if_ne (tgt := 26) hx hb dX2_move_13 (by decide) ⟨by omega, by omega⟩ (fun c1 => ?_) (fun c1 => ?_)
  ·
    exact absurd rfl c1
  ·
    refine lv_aload_n hx hb dX2_move_16 rfl (lv_at hl 1 rfl) ?_
    refine va_get (D := (dC, dI)) (ci := 2) (v := .ref (q 2)) (C := RX2) (T := TX2) (N := 4) hx hb hts (by decide +kernel) hown hK hP 0 rfl rfl 1 (by decide) (hts (.fieldLink RX2 16 "ExactFractions" "second" "LExactFractions$Fraction;") (by decide +kernel)) (fun _ h9 => h9) rfl dX2_move_17 ?_
    refine va_get (D := (dC, dI)) (ci := 0) (v := .ref (q 7)) (C := RX0) (T := TX0) (N := 4) hx hb hts (by decide +kernel) hown hK hP 2 rfl rfl 0 (by decide) (hts (.fieldLink RX2 65 "ExactFractions$Fraction" "above" "LExactFractions$Whole;") (by decide +kernel)) (fun _ h9 => h9) rfl dX2_move_20 ?_
    refine lv_goto (tgt := 33) hx hb dX2_move_23 (by decide) ?_
    refine lv_astore (lv' := [(4, .ref (q 7)), (3, .ref (q 1)), (0, .ref (q 0)), (1, .int (iv (0))), (2, .int (iv (dn)))]) hx hb dX2_move_33 hl (by decide) rfl (fun ls hl => ?_)
    refine lv_aload_n hx hb dX2_move_35 rfl (lv_at hl 1 rfl) ?_
    refine va_get (D := (dC, dI)) (ci := 0) (v := .int (iv (b1))) (C := RX0) (T := TX0) (N := 4) hx hb hts (by decide +kernel) hown hK hP 1 rfl rfl 2 (by decide) (hts (.fieldLink RX2 57 "ExactFractions$Fraction" "below" "Z") (by decide +kernel)) (fun _ h9 => h9) rfl dX2_move_36 ?_
    refine lv_iload_n hx hb dX2_move_39 rfl (lv_at hl 4 rfl) ?_
    refine iw_icmp_ne (tgt := 59) hx hb dX2_move_40 (by decide) (hbr) (hdr) (fun c2 => ?_) (fun c2 => ?_)
    ·
      exact absurd hd c2
    ·
      refine lv_aload_n hx hb dX2_move_43 rfl (lv_at hl 2 rfl) ?_
      refine va_get (D := (dC, dI)) (ci := 2) (v := .ref (q 11)) (C := RX2) (T := TX2) (N := 4) hx hb hts (by decide +kernel) hown hK hP 0 rfl rfl 2 (by decide) (hts (.fieldLink RX2 22 "ExactFractions" "left" "LExactFractions$Whole;") (by decide +kernel)) (fun _ h9 => h9) rfl dX2_move_44 ?_
      refine lv_aload_n hx hb dX2_move_47 rfl (lv_at hl 1 rfl) ?_
      refine va_get (D := (dC, dI)) (ci := 0) (v := .ref (q 3)) (C := RX0) (T := TX0) (N := 4) hx hb hts (by decide +kernel) hown hK hP 1 rfl rfl 0 (by decide) (hts (.fieldLink RX2 65 "ExactFractions$Fraction" "above" "LExactFractions$Whole;") (by decide +kernel)) (fun _ h9 => h9) rfl dX2_move_48 ?_
      refine lv_aload hx hb dX2_move_51 (lv_at hl 0 rfl) ?_
      refine ef_callV (As := [.ref (q 3), .ref (q 7)]) (rest := []) ⟨hx, hb, hml, hown, hts⟩ (c_sum l dC dI ht (isW_c (X := L) (ws := cC cI q (A1) (U1) (b1) (e1) (A2) (U2) (b2) (e2) (L) (R)) (k0 := 11) (k1 := 12) (by decide) rfl rfl) hL (wd_lt _) wd_z (isW_c (X := A1) (ws := cC cI q (A1) (U1) (b1) (e1) (A2) (U2) (b2) (e2) (L) (R)) (k0 := 3) (k1 := 4) (by decide) rfl rfl) (by omega) (apt_c (k0 := 11) (k1 := 12) (j0 := 3) (j1 := 4) rfl) (isW_c (X := A2) (ws := cC cI q (A1) (U1) (b1) (e1) (A2) (U2) (b2) (e2) (L) (R)) (k0 := 7) (k1 := 8) (by decide) rfl rfl) (by omega) (apt_c (k0 := 11) (k1 := 12) (j0 := 7) (j1 := 8) rfl)) (cwV 2 hts gX2_move_X1_becomeSum rfl rfl rfl (by decide +kernel) ⟨Nat.le_of_ble_eq_true rfl, Nat.le_of_ble_eq_true rfl⟩) hK hNX hP hD hS 11 rfl rfl rfl rfl hl.1 rfl (Nat.le_of_ble_eq_true rfl) dX2_move_53 ⟨Nat.zero_le _, Nat.zero_le _⟩ (fun o w1 H locs hq hP hD hS => ?_)
      obtain ⟨rfl, rfl⟩ := hq
      have hP : va_P (dC, dI) vwCl (cC cI q (A1) (U1) (b1) (e1) (A2) (U2) (b2) (e2) (A1 + A2) (R)) H := hP
      have hD : va_D (ef_A (cC cI q (A1) (U1) (b1) (e1) (A2) (U2) (b2) (e2) (L) (R))) (cC cI q (A1) (U1) (b1) (e1) (A2) (U2) (b2) (e2) (A1 + A2) (R)) := hD
      refine W.eq (g2 := F0 m 56 ls []) rfl ?_
      refine lv_goto (tgt := 105) hx hb dX2_move_56 (by decide) ?_
      refine lv_aload_n hx hb dX2_move_105 rfl (lv_at hl 2 rfl) ?_
      refine lv_aload_n hx hb dX2_move_106 rfl (lv_at hl 1 rfl) ?_
      refine va_get (D := (dC, dI)) (ci := 0) (v := .ref (q 3)) (C := RX0) (T := TX0) (N := 4) hx hb hts (by decide +kernel) hown hK hP 1 rfl rfl 0 (by decide) (hts (.fieldLink RX2 65 "ExactFractions$Fraction" "above" "LExactFractions$Whole;") (by decide +kernel)) (fun _ h9 => h9) rfl dX2_move_107 ?_
      refine ef_callV (As := [.ref (q 3)]) (rest := []) ⟨hx, hb, hml, hown, hts⟩ (c_keep00K l dC dI ht q hA1 hU1 hA2 hU2 (by omega) hR hb4) (cwV 1 hts gX2_move_X2_keepLeftIn rfl rfl rfl (by decide +kernel) ⟨Nat.le_of_ble_eq_true rfl, Nat.le_of_ble_eq_true rfl⟩) hK hNX hP hD hS 0 rfl rfl rfl rfl hl.1 rfl (Nat.le_of_ble_eq_true rfl) dX2_move_110 ⟨Nat.zero_le _, Nat.zero_le _⟩ (fun o w1 H locs hq hP hD hS => ?_)
      obtain ⟨rfl, rfl⟩ := hq
      have hP : va_P (dC, dI) vwCl (cC cI q (A1 + A2) (U1) (b1) (e1) (A2) (U2) (b2) (e2) (A1 + A2) (R)) H := hP
      have hD : va_D (ef_A (cC cI q (A1) (U1) (b1) (e1) (A2) (U2) (b2) (e2) (L) (R))) (cC cI q (A1 + A2) (U1) (b1) (e1) (A2) (U2) (b2) (e2) (A1 + A2) (R)) := hD
      refine W.eq (g2 := F0 m 113 ls [.int (iv ((bl (A1 + A2) : Int)))]) rfl ?_
      exact ef_iret hx hb hr hlocks hP hD hS dX2_move_113 (⟨_, _, rfl, rfl, by omega, hR⟩)

set_option maxRecDepth 100000 in
set_option maxHeartbeats 4000000 in
/-- move -/
theorem c_move0ge (l : Launch) (dC : Nat → ClassId) (dI : Nat → Nat → Nat) {cI : ClassId} {tys : List (ClassId × FieldType)} (ht : tys[0]? = some (cI, .int)) (q : Nat → Nat) {A1 U1 A2 U2 L R : Nat} {b1 e1 b2 e2 : Int} (hA1 : wl A1 ≤ 150) (hU1 : wl U1 ≤ 150) (hA2 : wl A2 ≤ 150) (hU2 : wl U2 ≤ 150) (hL : wl L ≤ 301) (hR : wl R ≤ 301) (hba : bl A1 ≤ 4800) (hbb : bl A2 ≤ 4800) (dn : Int) (hdn : dn = 0 ∨ dn = 1) (hbo : b1 = 0 ∨ b1 = 1) (hd : b1 ≠ dn) (hle : A2 ≤ A1) : ef_C l yX2_move wsX2_move ({ frames := 4, cells := 0, slots := 0, locals := 88 } : Room) [.ref (q 0), .int (iv (0)), .int (iv (dn))] (dC, dI) vwCl tys (cC cI q (A1) (U1) (b1) (e1) (A2) (U2) (b2) (e2) (L) (R)) (fun o w1 => ∃ L2 R2 : Nat, o = some (.int (iv (bl (A1 - A2) : Int))) ∧ w1 = cC cI q (A1 - A2) (U1) (b1) (e1) (A2) (U2) (b2) (e2) (L2) (R2) ∧ wl L2 ≤ 301 ∧ wl R2 ≤ 301) := by
  refine ef_C.of (cc := cX2_move) (maxL := 5) (ret := (some .int)) (by decide) rfl (Nat.le_of_ble_eq_true rfl) ?_
  intro p e s m below meth c ls hx hb hml hr hts hown hlocks hK hNX hP hD hS hl
  have hl : lv_has ls 5 [(0, .ref (q 0)), (1, .int (iv (0))), (2, .int (iv (dn)))] := hl
  have hown : s.vm.findClass RX2 = some m.cls := hown
  generalize hH : s.heap = H at hP ⊢
  have hS : va_S (ef_A (cC cI q (A1) (U1) (b1) (e1) (A2) (U2) (b2) (e2) (L) (R))) s.heap H [] := by rw [← hH]; exact hS
  generalize ([] : List Loc) = locs at hS ⊢
  have hdr : ir dn := by rcases hdn with h | h <;> rw [h] <;> exact ⟨by decide, by decide⟩
  have hbr : ir b1 := by rcases hbo with h | h <;> rw [h] <;> exact ⟨by decide, by decide⟩
  have hb4 : bl (A1 - A2) ≤ 4800 := Nat.le_trans (bl_mono (Nat.sub_le _ _)) hba
  have hwl : wl (A1 - A2) ≤ 151 := Nat.le_succ_of_le (wl_bl (k := 150) (by omega))
  refine lv_aload_n hx hb dX2_move_0 rfl (lv_at hl 0 rfl) ?_
  refine lv_iload_n hx hb dX2_move_1 rfl (lv_at hl 1 rfl) ?_
  refine ef_callV (As := [.int (iv (0))]) (rest := []) ⟨hx, hb, hml, hown, hts⟩ (c_numberOf0 l dC dI ht q) (cwV 1 hts gX2_move_X2_numberOf rfl rfl rfl (by decide +kernel) ⟨Nat.le_of_ble_eq_true rfl, Nat.le_of_ble_eq_true rfl⟩) hK hNX hP hD hS 0 rfl rfl rfl rfl hl.1 rfl (Nat.le_of_ble_eq_true rfl) dX2_move_2 ⟨Nat.zero_le _, Nat.zero_le _⟩ (fun o w1 H locs hq hP hD hS => ?_)
  obtain ⟨rfl, e9⟩ := hq
  rw [e9] at hP hD
  refine W.eq (g2 := F0 m 5 ls [.ref (q 1)]) rfl ?_
  refine lv_astore_n (lv' := [(3, .ref (q 1)), (0, .ref (q 0)), (1, .int (iv (0))), (2, .int (iv (dn)))]) hx hb dX2_move_5 rfl hl (by decide) rfl (fun ls hl => ?_)
  refine lv_aload_n hx hb dX2_move_6 rfl (lv_at hl 0 rfl) ?_
  refine lv_ifnonnull (tgt := 12) hx hb dX2_move_7 (by decide) ?_
  refine lv_iload_n hx hb dX2_move_12 rfl (lv_at hl 2 rfl) ?_
  refine iw_if_ne (tgt := 26) hx hb dX2_move_13 (by decide) ⟨by omega, by omega⟩ (fun c1 => ?_) (fun c1 => ?_)
  ·
    exact absurd rfl c1
  ·
    refine lv_aload_n hx hb dX2_move_16 rfl (lv_at hl 1 rfl) ?_
    refine va_get (D := (dC, dI)) (ci := 2) (v := .ref (q 2)) (C := RX2) (T := TX2) (N := 4) hx hb hts (by decide +kernel) hown hK hP 0 rfl rfl 1 (by decide) (hts (.fieldLink RX2 16 "ExactFractions" "second" "LExactFractions$Fraction;") (by decide +kernel)) (fun _ h9 => h9) rfl dX2_move_17 ?_
    refine va_get (D := (dC, dI)) (ci := 0) (v := .ref (q 7)) (C := RX0) (T := TX0) (N := 4) hx hb hts (by decide +kernel) hown hK hP 2 rfl rfl 0 (by decide) (hts (.fieldLink RX2 65 "ExactFractions$Fraction" "above" "LExactFractions$Whole;") (by decide +kernel)) (fun _ h9 => h9) rfl dX2_move_20 ?_
    refine lv_goto (tgt := 33) hx hb dX2_move_23 (by decide) ?_
    refine lv_astore (lv' := [(4, .ref (q 7)), (3, .ref (q 1)), (0, .ref (q 0)), (1, .int (iv (0))), (2, .int (iv (dn)))]) hx hb dX2_move_33 hl (by decide) rfl (fun ls hl => ?_)
    refine lv_aload_n hx hb dX2_move_35 rfl (lv_at hl 1 rfl) ?_
    refine va_get (D := (dC, dI)) (ci := 0) (v := .int (iv (b1))) (C := RX0) (T := TX0) (N := 4) hx hb hts (by decide +kernel) hown hK hP 1 rfl rfl 2 (by decide) (hts (.fieldLink RX2 57 "ExactFractions$Fraction" "below" "Z") (by decide +kernel)) (fun _ h9 => h9) rfl dX2_move_36 ?_
    refine lv_iload_n hx hb dX2_move_39 rfl (lv_at hl 4 rfl) ?_
    refine iw_icmp_ne (tgt := 59) hx hb dX2_move_40 (by decide) (hbr) (hdr) (fun c2 => ?_) (fun c2 => ?_)
    ·
      refine lv_aload_n hx hb dX2_move_59 rfl (lv_at hl 1 rfl) ?_
      refine va_get (D := (dC, dI)) (ci := 0) (v := .ref (q 3)) (C := RX0) (T := TX0) (N := 4) hx hb hts (by decide +kernel) hown hK hP 1 rfl rfl 0 (by decide) (hts (.fieldLink RX2 65 "ExactFractions$Fraction" "above" "LExactFractions$Whole;") (by decide +kernel)) (fun _ h9 => h9) rfl dX2_move_60 ?_
      refine lv_aload hx hb dX2_move_63 (lv_at hl 0 rfl) ?_
      refine ef_callV (As := [.ref (q 7)]) (rest := []) ⟨hx, hb, hml, hown, hts⟩ (c_order l dC dI ht (isW_c (X := A1) (ws := cC cI q (A1) (U1) (b1) (e1) (A2) (U2) (b2) (e2) (L) (R)) (k0 := 3) (k1 := 4) (by decide) rfl rfl) (by omega) (isW_c (X := A2) (ws := cC cI q (A1) (U1) (b1) (e1) (A2) (U2) (b2) (e2) (L) (R)) (k0 := 7) (k1 := 8) (by decide) rfl rfl) (by omega)) (cwV 1 hts gX2_move_X1_order rfl rfl rfl (by decide +kernel) ⟨Nat.le_of_ble_eq_true rfl, Nat.le_of_ble_eq_true rfl⟩) hK hNX hP hD hS 3 rfl rfl rfl rfl hl.1 rfl (Nat.le_of_ble_eq_true rfl) dX2_move_65 ⟨Nat.zero_le _, Nat.zero_le _⟩ (fun o w1 H locs hq hP hD hS => ?_)
      obtain ⟨rfl, e9⟩ := hq
      rw [e9] at hP hD
      refine W.eq (g2 := F0 m 68 ls [.int (iv (zc A1 A2))]) rfl ?_
      refine iw_if_lt (tgt := 87) hx hb dX2_move_68 (by decide) (ir_zc _ _) (fun c3 => ?_) (fun c3 => ?_)
      ·
        exact absurd ((zc_ge _ _).2 (by omega : ((A2 : Nat) : Int) ≤ ((A1 : Nat) : Int))) (by omega)
      ·
        refine lv_aload_n hx hb dX2_move_71 rfl (lv_at hl 2 rfl) ?_
        refine va_get (D := (dC, dI)) (ci := 2) (v := .ref (q 11)) (C := RX2) (T := TX2) (N := 4) hx hb hts (by decide +kernel) hown hK hP 0 rfl rfl 2 (by decide) (hts (.fieldLink RX2 22 "ExactFractions" "left" "LExactFractions$Whole;") (by decide +kernel)) (fun _ h9 => h9) rfl dX2_move_72 ?_
        refine lv_aload_n hx hb dX2_move_75 rfl (lv_at hl 1 rfl) ?_
        refine va_get (D := (dC, dI)) (ci := 0) (v := .ref (q 3)) (C := RX0) (T := TX0) (N := 4) hx hb hts (by decide +kernel) hown hK hP 1 rfl rfl 0 (by decide) (hts (.fieldLink RX2 65 "ExactFractions$Fraction" "above" "LExactFractions$Whole;") (by decide +kernel)) (fun _ h9 => h9) rfl dX2_move_76 ?_
        refine lv_aload hx hb dX2_move_79 (lv_at hl 0 rfl) ?_
        refine ef_callV (As := [.ref (q 3), .ref (q 7)]) (rest := []) ⟨hx, hb, hml, hown, hts⟩ (c_diff l dC dI ht (isW_c (X := L) (ws := cC cI q (A1) (U1) (b1) (e1) (A2) (U2) (b2) (e2) (L) (R)) (k0 := 11) (k1 := 12) (by decide) rfl rfl) hL (wd_lt _) wd_z (isW_c (X := A1) (ws := cC cI q (A1) (U1) (b1) (e1) (A2) (U2) (b2) (e2) (L) (R)) (k0 := 3) (k1 := 4) (by decide) rfl rfl) (by omega) (apt_c (k0 := 11) (k1 := 12) (j0 := 3) (j1 := 4) rfl) (isW_c (X := A2) (ws := cC cI q (A1) (U1) (b1) (e1) (A2) (U2) (b2) (e2) (L) (R)) (k0 := 7) (k1 := 8) (by decide) rfl rfl) (by omega) (apt_c (k0 := 11) (k1 := 12) (j0 := 7) (j1 := 8) rfl) (by omega)) (cwV 2 hts gX2_move_X1_becomeDifference rfl rfl rfl (by decide +kernel) ⟨Nat.le_of_ble_eq_true rfl, Nat.le_of_ble_eq_true rfl⟩) hK hNX hP hD hS 11 rfl rfl rfl rfl hl.1 rfl (Nat.le_of_ble_eq_true rfl) dX2_move_81 ⟨Nat.zero_le _, Nat.zero_le _⟩ (fun o w1 H locs hq hP hD hS => ?_)
        obtain ⟨rfl, rfl⟩ := hq
        have hP : va_P (dC, dI) vwCl (cC cI q (A1) (U1) (b1) (e1) (A2) (U2) (b2) (e2) (A1 - A2) (R)) H := hP
        have hD : va_D (ef_A (cC cI q (A1) (U1) (b1) (e1) (A2) (U2) (b2) (e2) (L) (R))) (cC cI q (A1) (U1) (b1) (e1) (A2) (U2) (b2) (e2) (A1 - A2) (R)) := hD
        refine W.eq (g2 := F0 m 84 ls []) rfl ?_
        refine lv_goto (tgt := 105) hx hb dX2_move_84 (by decide) ?_
        refine lv_aload_n hx hb dX2_move_105 rfl (lv_at hl 2 rfl) ?_
        refine lv_aload_n hx hb dX2_move_106 rfl (lv_at hl 1 rfl) ?_
        refine va_get (D := (dC, dI)) (ci := 0) (v := .ref (q 3)) (C := RX0) (T := TX0) (N := 4) hx hb hts (by decide +kernel) hown hK hP 1 rfl rfl 0 (by decide) (hts (.fieldLink RX2 65 "ExactFractions$Fraction" "above" "LExactFractions$Whole;") (by decide +kernel)) (fun _ h9 => h9) rfl dX2_move_107 ?_
        refine ef_callV (As := [.ref (q 3)]) (rest := []) ⟨hx, hb, hml, hown, hts⟩ (c_keep00K l dC dI ht q hA1 hU1 hA2 hU2 (by omega) hR hb4) (cwV 1 hts gX2_move_X2_keepLeftIn rfl rfl rfl (by decide +kernel) ⟨Nat.le_of_ble_eq_true rfl, Nat.le_of_ble_eq_true rfl⟩) hK hNX hP hD hS 0 rfl rfl rfl rfl hl.1 rfl (Nat.le_of_ble_eq_true rfl) dX2_move_110 ⟨Nat.zero_le _, Nat.zero_le _⟩ (fun o w1 H locs hq hP hD hS => ?_)
        obtain ⟨rfl, rfl⟩ := hq
        have hP : va_P (dC, dI) vwCl (cC cI q (A1 - A2) (U1) (b1) (e1) (A2) (U2) (b2) (e2) (A1 - A2) (R)) H := hP
        have hD : va_D (ef_A (cC cI q (A1) (U1) (b1) (e1) (A2) (U2) (b2) (e2) (L) (R))) (cC cI q (A1 - A2) (U1) (b1) (e1) (A2) (U2) (b2) (e2) (A1 - A2) (R)) := hD
        refine W.eq (g2 := F0 m 113 ls [.int (iv ((bl (A1 - A2) : Int)))]) rfl ?_
        exact ef_iret hx hb hr hlocks hP hD hS dX2_move_113 (⟨_, _, rfl, rfl, by omega, hR⟩)
    ·
      exact absurd c2 hd

set_option maxRecDepth 100000 in
set_option maxHeartbeats 4000000 in
/-- move -/
theorem c_move0lt (l : Launch) (dC : Nat → ClassId) (dI : Nat → Nat → Nat) {cI : ClassId} {tys : List (ClassId × FieldType)} (ht : tys[0]? = some (cI, .int)) (q : Nat → Nat) {A1 U1 A2 U2 L R : Nat} {b1 e1 b2 e2 : Int} (hA1 : wl A1 ≤ 150) (hU1 : wl U1 ≤ 150) (hA2 : wl A2 ≤ 150) (hU2 : wl U2 ≤ 150) (hL : wl L ≤ 301) (hR : wl R ≤ 301) (hba : bl A1 ≤ 4800) (hbb : bl A2 ≤ 4800) (dn : Int) (hdn : dn = 0 ∨ dn = 1) (hbo : b1 = 0 ∨ b1 = 1) (hd : b1 ≠ dn) (hle : A1 < A2) : ef_C l yX2_move wsX2_move ({ frames := 4, cells := 0, slots := 0, locals := 88 } : Room) [.ref (q 0), .int (iv (0)), .int (iv (dn))] (dC, dI) vwCl tys (cC cI q (A1) (U1) (b1) (e1) (A2) (U2) (b2) (e2) (L) (R)) (fun o w1 => ∃ L2 R2 : Nat, o = some (.int (iv (bl (A2 - A1) : Int))) ∧ w1 = cC cI q (A2 - A1) (U1) (dn) (e1) (A2) (U2) (b2) (e2) (L2) (R2) ∧ wl L2 ≤ 301 ∧ wl R2 ≤ 301) := by
  refine ef_C.of (cc := cX2_move) (maxL := 5) (ret := (some .int)) (by decide) rfl (Nat.le_of_ble_eq_true rfl) ?_
  intro p e s m below meth c ls hx hb hml hr hts hown hlocks hK hNX hP hD hS hl
  have hl : lv_has ls 5 [(0, .ref (q 0)), (1, .int (iv (0))), (2, .int (iv (dn)))] := hl
  have hown : s.vm.findClass RX2 = some m.cls := hown
  generalize hH : s.heap = H at hP ⊢
  have hS : va_S (ef_A (cC cI q (A1) (U1) (b1) (e1) (A2) (U2) (b2) (e2) (L) (R))) s.heap H [] := by rw [← hH]; exact hS
  generalize ([] : List Loc) = locs at hS ⊢
  have hdr : ir dn := by rcases hdn with h | h <;> rw [h] <;> exact ⟨by decide, by decide⟩
  have hbr : ir b1 := by rcases hbo with h | h <;> rw [h] <;> exact ⟨by decide, by decide⟩
  have hb4 : bl (A2 - A1) ≤ 4800 := Nat.le_trans (bl_mono (Nat.sub_le _ _)) hbb
  have hwl : wl (A2 - A1) ≤ 151 := Nat.le_succ_of_le (wl_bl (k := 150) (by omega))
  refine lv_aload_n hx hb dX2_move_0 rfl (lv_at hl 0 rfl) ?_
  refine lv_iload_n hx hb dX2_move_1 rfl (lv_at hl 1 rfl) ?_
  refine ef_callV (As := [.int (iv (0))]) (rest := []) ⟨hx, hb, hml, hown, hts⟩ (c_numberOf0 l dC dI ht q) (cwV 1 hts gX2_move_X2_numberOf rfl rfl rfl (by decide +kernel) ⟨Nat.le_of_ble_eq_true rfl, Nat.le_of_ble_eq_true rfl⟩) hK hNX hP hD hS 0 rfl rfl rfl rfl hl.1 rfl (Nat.le_of_ble_eq_true rfl) dX2_move_2 ⟨Nat.zero_le _, Nat.zero_le _⟩ (fun o w1 H locs hq hP hD hS => ?_)
  obtain ⟨rfl, e9⟩ := hq
  rw [e9] at hP hD
  refine W.eq (g2 := F0 m 5 ls [.ref (q 1)]) rfl ?_
  refine lv_astore_n (lv' := [(3, .ref (q 1)), (0, .ref (q 0)), (1, .int (iv (0))), (2, .int (iv (dn)))]) hx hb dX2_move_5 rfl hl (by decide) rfl (fun ls hl => ?_)
  refine lv_aload_n hx hb dX2_move_6 rfl (lv_at hl 0 rfl) ?_
  refine lv_ifnonnull (tgt := 12) hx hb dX2_move_7 (by decide) ?_
  refine lv_iload_n hx hb dX2_move_12 rfl (lv_at hl 2 rfl) ?_
  refine iw_if_ne (tgt := 26) hx hb dX2_move_13 (by decide) ⟨by omega, by omega⟩ (fun c1 => ?_) (fun c1 => ?_)
  ·
    exact absurd rfl c1
  ·
    refine lv_aload_n hx hb dX2_move_16 rfl (lv_at hl 1 rfl) ?_
    refine va_get (D := (dC, dI)) (ci := 2) (v := .ref (q 2)) (C := RX2) (T := TX2) (N := 4) hx hb hts (by decide +kernel) hown hK hP 0 rfl rfl 1 (by decide) (hts (.fieldLink RX2 16 "ExactFractions" "second" "LExactFractions$Fraction;") (by decide +kernel)) (fun _ h9 => h9) rfl dX2_move_17 ?_
    refine va_get (D := (dC, dI)) (ci := 0) (v := .ref (q 7)) (C := RX0) (T := TX0) (N := 4) hx hb hts (by decide +kernel) hown hK hP 2 rfl rfl 0 (by decide) (hts (.fieldLink RX2 65 "ExactFractions$Fraction" "above" "LExactFractions$Whole;") (by decide +kernel)) (fun _ h9 => h9) rfl dX2_move_20 ?_
    refine lv_goto (tgt := 33) hx hb dX2_move_23 (by decide) ?_
    refine lv_astore (lv' := [(4, .ref (q 7)), (3, .ref (q 1)), (0, .ref (q 0)), (1, .int (iv (0))), (2, .int (iv (dn)))]) hx hb dX2_move_33 hl (by decide) rfl (fun ls hl => ?_)
    refine lv_aload_n hx hb dX2_move_35 rfl (lv_at hl 1 rfl) ?_
    refine va_get (D := (dC, dI)) (ci := 0) (v := .int (iv (b1))) (C := RX0) (T := TX0) (N := 4) hx hb hts (by decide +kernel) hown hK hP 1 rfl rfl 2 (by decide) (hts (.fieldLink RX2 57 "ExactFractions$Fraction" "below" "Z") (by decide +kernel)) (fun _ h9 => h9) rfl dX2_move_36 ?_
    refine lv_iload_n hx hb dX2_move_39 rfl (lv_at hl 4 rfl) ?_
    refine iw_icmp_ne (tgt := 59) hx hb dX2_move_40 (by decide) (hbr) (hdr) (fun c2 => ?_) (fun c2 => ?_)
    ·
      refine lv_aload_n hx hb dX2_move_59 rfl (lv_at hl 1 rfl) ?_
      refine va_get (D := (dC, dI)) (ci := 0) (v := .ref (q 3)) (C := RX0) (T := TX0) (N := 4) hx hb hts (by decide +kernel) hown hK hP 1 rfl rfl 0 (by decide) (hts (.fieldLink RX2 65 "ExactFractions$Fraction" "above" "LExactFractions$Whole;") (by decide +kernel)) (fun _ h9 => h9) rfl dX2_move_60 ?_
      refine lv_aload hx hb dX2_move_63 (lv_at hl 0 rfl) ?_
      refine ef_callV (As := [.ref (q 7)]) (rest := []) ⟨hx, hb, hml, hown, hts⟩ (c_order l dC dI ht (isW_c (X := A1) (ws := cC cI q (A1) (U1) (b1) (e1) (A2) (U2) (b2) (e2) (L) (R)) (k0 := 3) (k1 := 4) (by decide) rfl rfl) (by omega) (isW_c (X := A2) (ws := cC cI q (A1) (U1) (b1) (e1) (A2) (U2) (b2) (e2) (L) (R)) (k0 := 7) (k1 := 8) (by decide) rfl rfl) (by omega)) (cwV 1 hts gX2_move_X1_order rfl rfl rfl (by decide +kernel) ⟨Nat.le_of_ble_eq_true rfl, Nat.le_of_ble_eq_true rfl⟩) hK hNX hP hD hS 3 rfl rfl rfl rfl hl.1 rfl (Nat.le_of_ble_eq_true rfl) dX2_move_65 ⟨Nat.zero_le _, Nat.zero_le _⟩ (fun o w1 H locs hq hP hD hS => ?_)
      obtain ⟨rfl, e9⟩ := hq
      rw [e9] at hP hD
      refine W.eq (g2 := F0 m 68 ls [.int (iv (zc A1 A2))]) rfl ?_
      refine iw_if_lt (tgt := 87) hx hb dX2_move_68 (by decide) (ir_zc _ _) (fun c3 => ?_) (fun c3 => ?_)
      ·
        refine lv_aload_n hx hb dX2_move_87 rfl (lv_at hl 2 rfl) ?_
        refine va_get (D := (dC, dI)) (ci := 2) (v := .ref (q 11)) (C := RX2) (T := TX2) (N := 4) hx hb hts (by decide +kernel) hown hK hP 0 rfl rfl 2 (by decide) (hts (.fieldLink RX2 22 "ExactFractions" "left" "LExactFractions$Whole;") (by decide +kernel)) (fun _ h9 => h9) rfl dX2_move_88 ?_
        refine lv_aload hx hb dX2_move_91 (lv_at hl 0 rfl) ?_
        refine lv_aload_n hx hb dX2_move_93 rfl (lv_at hl 1 rfl) ?_
        refine va_get (D := (dC, dI)) (ci := 0) (v := .ref (q 3)) (C := RX0) (T := TX0) (N := 4) hx hb hts (by decide +kernel) hown hK hP 1 rfl rfl 0 (by decide) (hts (.fieldLink RX2 65 "ExactFractions$Fraction" "above" "LExactFractions$Whole;") (by decide +kernel)) (fun _ h9 => h9) rfl dX2_move_94 ?_
        refine ef_callV (As := [.ref (q 7), .ref (q 3)]) (rest := []) ⟨hx, hb, hml, hown, hts⟩ (c_diff l dC dI ht (isW_c (X := L) (ws := cC cI q (A1) (U1) (b1) (e1) (A2) (U2) (b2) (e2) (L) (R)) (k0 := 11) (k1 := 12) (by decide) rfl rfl) hL (wd_lt _) wd_z (isW_c (X := A2) (ws := cC cI q (A1) (U1) (b1) (e1) (A2) (U2) (b2) (e2) (L) (R)) (k0 := 7) (k1 := 8) (by decide) rfl rfl) (by omega) (apt_c (k0 := 11) (k1 := 12) (j0 := 7) (j1 := 8) rfl) (isW_c (X := A1) (ws := cC cI q (A1) (U1) (b1) (e1) (A2) (U2) (b2) (e2) (L) (R)) (k0 := 3) (k1 := 4) (by decide) rfl rfl) (by omega) (apt_c (k0 := 11) (k1 := 12) (j0 := 3) (j1 := 4) rfl) (by omega)) (cwV 2 hts gX2_move_X1_becomeDifference rfl rfl rfl (by decide +kernel) ⟨Nat.le_of_ble_eq_true rfl, Nat.le_of_ble_eq_true rfl⟩) hK hNX hP hD hS 11 rfl rfl rfl rfl hl.1 rfl (Nat.le_of_ble_eq_true rfl) dX2_move_97 ⟨Nat.zero_le _, Nat.zero_le _⟩ (fun o w1 H locs hq hP hD hS => ?_)
        obtain ⟨rfl, rfl⟩ := hq
        have hP : va_P (dC, dI) vwCl (cC cI q (A1) (U1) (b1) (e1) (A2) (U2) (b2) (e2) (A2 - A1) (R)) H := hP
        have hD : va_D (ef_A (cC cI q (A1) (U1) (b1) (e1) (A2) (U2) (b2) (e2) (L) (R))) (cC cI q (A1) (U1) (b1) (e1) (A2) (U2) (b2) (e2) (A2 - A1) (R)) := hD
        refine W.eq (g2 := F0 m 100 ls []) rfl ?_
        refine lv_aload_n hx hb dX2_move_100 rfl (lv_at hl 1 rfl) ?_
        refine lv_iload_n hx hb dX2_move_101 rfl (lv_at hl 4 rfl) ?_
        refine va_put (D := (dC, dI)) (ci := 0) (v := .int (iv (dn))) (ty := .boolean) (C := RX0) (T := TX0) (N := 4) hx hb hts (by decide +kernel) tyX0 tyX0_ok nmX0 hown hK hP hD hS 1 rfl rfl 2 (by decide) (hts (.fieldLink RX2 57 "ExactFractions$Fraction" "below" "Z") (by decide +kernel)) (fun _ h9 => h9) rfl (by decide +kernel) (by rcases hdn with h9 | h9 <;> rw [h9] <;> rfl) (by rcases hdn with h9 | h9 <;> rw [h9] <;> rfl) (Nat.le_of_ble_eq_true rfl) dX2_move_102 (fun H locs hP hD hS => ?_)
        have hP : va_P (dC, dI) vwCl (cC cI q (A1) (U1) (dn) (e1) (A2) (U2) (b2) (e2) (A2 - A1) (R)) H := hP
        have hD : va_D (ef_A (cC cI q (A1) (U1) (b1) (e1) (A2) (U2) (b2) (e2) (L) (R))) (cC cI q (A1) (U1) (dn) (e1) (A2) (U2) (b2) (e2) (A2 - A1) (R)) := hD
        refine lv_aload_n hx hb dX2_move_105 rfl (lv_at hl 2 rfl) ?_
        refine lv_aload_n hx hb dX2_move_106 rfl (lv_at hl 1 rfl) ?_
        refine va_get (D := (dC, dI)) (ci := 0) (v := .ref (q 3)) (C := RX0) (T := TX0) (N := 4) hx hb hts (by decide +kernel) hown hK hP 1 rfl rfl 0 (by decide) (hts (.fieldLink RX2 65 "ExactFractions$Fraction" "above" "LExactFractions$Whole;") (by decide +kernel)) (fun _ h9 => h9) rfl dX2_move_107 ?_
        refine ef_callV (As := [.ref (q 3)]) (rest := []) ⟨hx, hb, hml, hown, hts⟩ (c_keep00K l dC dI ht q hA1 hU1 hA2 hU2 (by omega) hR hb4) (cwV 1 hts gX2_move_X2_keepLeftIn rfl rfl rfl (by decide +kernel) ⟨Nat.le_of_ble_eq_true rfl, Nat.le_of_ble_eq_true rfl⟩) hK hNX hP hD hS 0 rfl rfl rfl rfl hl.1 rfl (Nat.le_of_ble_eq_true rfl) dX2_move_110 ⟨Nat.zero_le _, Nat.zero_le _⟩ (fun o w1 H locs hq hP hD hS => ?_)
        obtain ⟨rfl, rfl⟩ := hq
        have hP : va_P (dC, dI) vwCl (cC cI q (A2 - A1) (U1) (dn) (e1) (A2) (U2) (b2) (e2) (A2 - A1) (R)) H := hP
        have hD : va_D (ef_A (cC cI q (A1) (U1) (b1) (e1) (A2) (U2) (b2) (e2) (L) (R))) (cC cI q (A2 - A1) (U1) (dn) (e1) (A2) (U2) (b2) (e2) (A2 - A1) (R)) := hD
        refine W.eq (g2 := F0 m 113 ls [.int (iv ((bl (A2 - A1) : Int)))]) rfl ?_
        exact ef_iret hx hb hr hlocks hP hD hS dX2_move_113 (⟨_, _, rfl, rfl, by omega, hR⟩)
      ·
        exact absurd ((zc_ge _ _).1 c3) (by omega)
    ·
      exact absurd c2 hd

set_option maxRecDepth 100000 in
set_option maxHeartbeats 4000000 in
/-- move -/
theorem c_move1sumF (l : Launch) (dC : Nat → ClassId) (dI : Nat → Nat → Nat) {cI : ClassId} {tys : List (ClassId × FieldType)} (ht : tys[0]? = some (cI, .int)) (q : Nat → Nat) {A1 U1 A2 U2 L R : Nat} {b1 e1 b2 e2 : Int} (hA1 : wl A1 ≤ 150) (hU1 : wl U1 ≤ 150) (hA2 : wl A2 ≤ 150) (hU2 : wl U2 ≤ 150) (hL : wl L ≤ 301) (hR : wl R ≤ 301) (hba : bl A1 ≤ 4800) (hbb : bl A2 ≤ 4800) (dn : Int) (hdn : dn = 0 ∨ dn = 1) (hbo : b2 = 0 ∨ b2 = 1) (hd : b2 = dn) (hb4 : 4800 < bl (A2 + A1)) : ef_C l yX2_move wsX2_move ({ frames := 4, cells := 0, slots := 0, locals := 88 } : Room) [.ref (q 0), .int (iv (1)), .int (iv (dn))] (dC, dI) vwCl tys (cC cI q (A1) (U1) (b1) (e1) (A2) (U2) (b2) (e2) (L) (R)) (fun o w1 => ∃ L2 R2 : Nat, o = some (.int (iv (-2))) ∧ w1 = cC cI q (A1) (U1) (b1) (e1) (A2) (U2) (b2) (e2) (L2) (R2) ∧ wl L2 ≤ 301 ∧ wl R2 ≤ 301) := by
  refine ef_C.of (cc := cX2_move) (maxL := 5) (ret := (some .int)) (by decide) rfl (Nat.le_of_ble_eq_true rfl) ?_
  intro p e s m below meth c ls hx hb hml hr hts hown hlocks hK hNX hP hD hS hl
  have hl : lv_has ls 5 [(0, .ref (q 0)), (1, .int (iv (1))), (2, .int (iv (dn)))] := hl
  have hown : s.vm.findClass RX2 = some m.cls := hown
  generalize hH : s.heap = H at hP ⊢
  have hS : va_S (ef_A (cC cI q (A1) (U1) (b1) (e1) (A2) (U2) (b2) (e2) (L) (R))) s.heap H [] := by rw [← hH]; exact hS
  generalize ([] : List Loc) = locs at hS ⊢
  have hdr : ir dn := by rcases hdn with h | h <;> rw [h] <;> exact ⟨by decide, by decide⟩
  have hbr : ir b2 := by rcases hbo with h | h <;> rw [h] <;> exact ⟨by decide, by decide⟩
  have hwl : wl (A2 + A1) ≤ 151 := wl_add hA2 hA1
  refine lv_aload_n hx hb dX2_move_0 rfl (lv_at hl 0 rfl) ?_
  refine lv_iload_n hx hb dX2_move_1 rfl (lv_at hl 1 rfl) ?_
  refine ef_callV (As := [.int (iv (1))]) (rest := []) ⟨hx, hb, hml, hown, hts⟩ (c_numberOf1 l dC dI ht q) (cwV 1 hts gX2_move_X2_numberOf rfl rfl rfl (by decide +kernel) ⟨Nat.le_of_ble_eq_true rfl, Nat.le_of_ble_eq_true rfl⟩) hK hNX hP hD hS 0 rfl rfl rfl rfl hl.1 rfl (Nat.le_of_ble_eq_true rfl) dX2_move_2 ⟨Nat.zero_le _, Nat.zero_le _⟩ (fun o w1 H locs hq hP hD hS => ?_)
  obtain ⟨rfl, e9⟩ := hq
  rw [e9] at hP hD
  refine W.eq (g2 := F0 m 5 ls [.ref (q 2)]) rfl ?_
  refine lv_astore_n (lv' := [(3, .ref (q 2)), (0, .ref (q 0)), (1, .int (iv (1))), (2, .int (iv (dn)))]) hx hb dX2_move_5 rfl hl (by decide) rfl (fun ls hl => ?_)
  refine lv_aload_n hx hb dX2_move_6 rfl (lv_at hl 0 rfl) ?_
  refine lv_ifnonnull (tgt := 12) hx hb dX2_move_7 (by decide) ?_
  refine lv_iload_n hx hb dX2_move_12 rfl (lv_at hl 2 rfl) ?_
  refine iw_if_ne (tgt := 26) hx hb dX2_move_13 (by decide) ⟨by omega, by omega⟩ (fun c1 => ?_) (fun c1 => ?_)
  ·
    refine lv_aload_n hx hb dX2_move_26 rfl (lv_at hl 1 rfl) ?_
    refine va_get (D := (dC, dI)) (ci := 2) (v := .ref (q 1)) (C := RX2) (T := TX2) (N := 4) hx hb hts (by decide +kernel) hown hK hP 0 rfl rfl 0 (by decide) (hts (.fieldLink RX2 12 "ExactFractions" "first" "LExactFractions$Fraction;") (by decide +kernel)) (fun _ h9 => h9) rfl dX2_move_27 ?_
    refine va_get (D := (dC, dI)) (ci := 0) (v := .ref (q 3)) (C := RX0) (T := TX0) (N := 4) hx hb hts (by decide +kernel) hown hK hP 1 rfl rfl 0 (by decide) (hts (.fieldLink RX2 65 "ExactFractions$Fraction" "above" "LExactFractions$Whole;") (by decide +kernel)) (fun _ h9 => h9) rfl dX2_move_30 ?_
    refine lv_astore (lv' := [(4, .ref (q 3)), (3, .ref (q 2)), (0, .ref (q 0)), (1, .int (iv (1))), (2, .int (iv (dn)))]) hx hb dX2_move_33 hl (by decide) rfl (fun ls hl => ?_)
    refine lv_aload_n hx hb dX2_move_35 rfl (lv_at hl 1 rfl) ?_
    refine va_get (D := (dC, dI)) (ci := 0) (v := .int (iv (b2))) (C := RX0) (T := TX0) (N := 4) hx hb hts (by decide +kernel) hown hK hP 2 rfl rfl 2 (by decide) (hts (.fieldLink RX2 57 "ExactFractions$Fraction" "below" "Z") (by decide +kernel)) (fun _ h9 => h9) rfl dX2_move_36 ?_
    refine lv_iload_n hx hb dX2_move_39 rfl (lv_at hl 4 rfl) ?_
    refine iw_icmp_ne (tgt := 59) hx hb dX2_move_40 (by decide) (hbr) (hdr) (fun c2 => ?_) (fun c2 => ?_)
    ·
      exact absurd hd c2
    ·
      refine lv_aload_n hx hb dX2_move_43 rfl (lv_at hl 2 rfl) ?_
      refine va_get (D := (dC, dI)) (ci := 2) (v := .ref (q 11)) (C := RX2) (T := TX2) (N := 4) hx hb hts (by decide +kernel) hown hK hP 0 rfl rfl 2 (by decide) (hts (.fieldLink RX2 22 "ExactFractions" "left" "LExactFractions$Whole;") (by decide +kernel)) (fun _ h9 => h9) rfl dX2_move_44 ?_
      refine lv_aload_n hx hb dX2_move_47 rfl (lv_at hl 1 rfl) ?_
      refine va_get (D := (dC, dI)) (ci := 0) (v := .ref (q 7)) (C := RX0) (T := TX0) (N := 4) hx hb hts (by decide +kernel) hown hK hP 2 rfl rfl 0 (by decide) (hts (.fieldLink RX2 65 "ExactFractions$Fraction" "above" "LExactFractions$Whole;") (by decide +kernel)) (fun _ h9 => h9) rfl dX2_move_48 ?_
      refine lv_aload hx hb dX2_move_51 (lv_at hl 0 rfl) ?_
      refine ef_callV (As := [.ref (q 7), .ref (q 3)]) (rest := []) ⟨hx, hb, hml, hown, hts⟩ (c_sum l dC dI ht (isW_c (X := L) (ws := cC cI q (A1) (U1) (b1) (e1) (A2) (U2) (b2) (e2) (L) (R)) (k0 := 11) (k1 := 12) (by decide) rfl rfl) hL (wd_lt _) wd_z (isW_c (X := A2) (ws := cC cI q (A1) (U1) (b1) (e1) (A2) (U2) (b2) (e2) (L) (R)) (k0 := 7) (k1 := 8) (by decide) rfl rfl) (by omega) (apt_c (k0 := 11) (k1 := 12) (j0 := 7) (j1 := 8) rfl) (isW_c (X := A1) (ws := cC cI q (A1) (U1) (b1) (e1) (A2) (U2) (b2) (e2) (L) (R)) (k0 := 3) (k1 := 4) (by decide) rfl rfl) (by omega) (apt_c (k0 := 11) (k1 := 12) (j0 := 3) (j1 := 4) rfl)) (cwV 2 hts gX2_move_X1_becomeSum rfl rfl rfl (by decide +kernel) ⟨Nat.le_of_ble_eq_true rfl, Nat.le_of_ble_eq_true rfl⟩) hK hNX hP hD hS 11 rfl rfl rfl rfl hl.1 rfl (Nat.le_of_ble_eq_true rfl) dX2_move_53 ⟨Nat.zero_le _, Nat.zero_le _⟩ (fun o w1 H locs hq hP hD hS => ?_)
      obtain ⟨rfl, rfl⟩ := hq
      have hP : va_P (dC, dI) vwCl (cC cI q (A1) (U1) (b1) (e1) (A2) (U2) (b2) (e2) (A2 + A1) (R)) H := hP
      have hD : va_D (ef_A (cC cI q (A1) (U1) (b1) (e1) (A2) (U2) (b2) (e2) (L) (R))) (cC cI q (A1) (U1) (b1) (e1) (A2) (U2) (b2) (e2) (A2 + A1) (R)) := hD
      refine W.eq (g2 := F0 m 56 ls []) rfl ?_
      refine lv_goto (tgt := 105) hx hb dX2_move_56 (by decide) ?_
      refine lv_aload_n hx hb dX2_move_105 rfl (lv_at hl 2 rfl) ?_
      refine lv_aload_n hx hb dX2_move_106 rfl (lv_at hl 1 rfl) ?_
      refine va_get (D := (dC, dI)) (ci := 0) (v := .ref (q 7)) (C := RX0) (T := TX0) (N := 4) hx hb hts (by decide +kernel) hown hK hP 2 rfl rfl 0 (by decide) (hts (.fieldLink RX2 65 "ExactFractions$Fraction" "above" "LExactFractions$Whole;") (by decide +kernel)) (fun _ h9 => h9) rfl dX2_move_107 ?_
      refine ef_callV (As := [.ref (q 7)]) (rest := []) ⟨hx, hb, hml, hown, hts⟩ (c_keep10F l dC dI ht q hA1 hU1 hA2 hU2 (by omega) hR hb4) (cwV 1 hts gX2_move_X2_keepLeftIn rfl rfl rfl (by decide +kernel) ⟨Nat.le_of_ble_eq_true rfl, Nat.le_of_ble_eq_true rfl⟩) hK hNX hP hD hS 0 rfl rfl rfl rfl hl.1 rfl (Nat.le_of_ble_eq_true rfl) dX2_move_110 ⟨Nat.zero_le _, Nat.zero_le _⟩ (fun o w1 H locs hq hP hD hS => ?_)
      obtain ⟨rfl, rfl⟩ := hq
      have hP : va_P (dC, dI) vwCl (cC cI q (A1) (U1) (b1) (e1) (A2) (U2) (b2) (e2) (A2 + A1) (R)) H := hP
      have hD : va_D (ef_A (cC cI q (A1) (U1) (b1) (e1) (A2) (U2) (b2) (e2) (L) (R))) (cC cI q (A1) (U1) (b1) (e1) (A2) (U2) (b2) (e2) (A2 + A1) (R)) := hD
      refine W.eq (g2 := F0 m 113 ls [.int (iv (-2))]) rfl ?_
      exact ef_iret hx hb hr hlocks hP hD hS dX2_move_113 (⟨_, _, rfl, rfl, by omega, hR⟩)
  ·
    exact absurd c1 (by decide)

set_option maxRecDepth 100000 in
set_option maxHeartbeats 4000000 in
/-- move -/
theorem c_move1sumK (l : Launch) (dC : Nat → ClassId) (dI : Nat → Nat → Nat) {cI : ClassId} {tys : List (ClassId × FieldType)} (ht : tys[0]? = some (cI, .int)) (q : Nat → Nat) {A1 U1 A2 U2 L R : Nat} {b1 e1 b2 e2 : Int} (hA1 : wl A1 ≤ 150) (hU1 : wl U1 ≤ 150) (hA2 : wl A2 ≤ 150) (hU2 : wl U2 ≤ 150) (hL : wl L ≤ 301) (hR : wl R ≤ 301) (hba : bl A1 ≤ 4800) (hbb : bl A2 ≤ 4800) (dn : Int) (hdn : dn = 0 ∨ dn = 1) (hbo : b2 = 0 ∨ b2 = 1) (hd : b2 = dn) (hb4 : bl (A2 + A1) ≤ 4800) : ef_C l yX2_move wsX2_move ({ frames := 4, cells := 0, slots := 0, locals := 88 } : Room) [.ref (q 0), .int (iv (1)), .int (iv (dn))] (dC, dI) vwCl tys (cC cI q (A1) (U1) (b1) (e1) (A2) (U2) (b2) (e2) (L) (R)) (fun o w1 => ∃ L2 R2 : Nat, o = some (.int (iv (bl (A2 + A1) : Int))) ∧ w1 = cC cI q (A1) (U1) (b1) (e1) (A2 + A1) (U2) (b2) (e2) (L2) (R2) ∧ wl L2 ≤ 301 ∧ wl R2 ≤ 301) := by
  refine ef_C.of (cc := cX2_move) (maxL := 5) (ret := (some .int)) (by decide) rfl (Nat.le_of_ble_eq_true rfl) ?_
  intro p e s m below meth c ls hx hb hml hr hts hown hlocks hK hNX hP hD hS hl
  have hl : lv_has ls 5 [(0, .ref (q 0)), (1, .int (iv (1))), (2, .int (iv (dn)))] := hl
  have hown : s.vm.findClass RX2 = some m.cls := hown
  generalize hH : s.heap = H at hP ⊢
  have hS : va_S (ef_A (cC cI q (A1) (U1) (b1) (e1) (A2) (U2) (b2) (e2) (L) (R))) s.heap H [] := by rw [← hH]; exact hS
  generalize ([] : List Loc) = locs at hS ⊢
  have hdr : ir dn := by rcases hdn with h | h <;> rw [h] <;> exact ⟨by decide, by decide⟩
  have hbr : ir b2 := by rcases hbo with h | h <;> rw [h] <;> exact ⟨by decide, by decide⟩
  have hwl : wl (A2 + A1) ≤ 151 := wl_add hA2 hA1
  refine lv_aload_n hx hb dX2_move_0 rfl (lv_at hl 0 rfl) ?_
  refine lv_iload_n hx hb dX2_move_1 rfl (lv_at hl 1 rfl) ?_
  refine ef_callV (As := [.int (iv (1))]) (rest := []) ⟨hx, hb, hml, hown, hts⟩ (c_numberOf1 l dC dI ht q) (cwV 1 hts gX2_move_X2_numberOf rfl rfl rfl (by decide +kernel) ⟨Nat.le_of_ble_eq_true rfl, Nat.le_of_ble_eq_true rfl⟩) hK hNX hP hD hS 0 rfl rfl rfl rfl hl.1 rfl (Nat.le_of_ble_eq_true rfl) dX2_move_2 ⟨Nat.zero_le _, Nat.zero_le _⟩ (fun o w1 H locs hq hP hD hS => ?_)
  obtain ⟨rfl, e9⟩ := hq
  rw [e9] at hP hD
  refine W.eq (g2 := F0 m 5 ls [.ref (q 2)]) rfl ?_
  refine lv_astore_n (lv' := [(3, .ref (q 2)), (0, .ref (q 0)), (1, .int (iv (1))), (2, .int (iv (dn)))]) hx hb dX2_move_5 rfl hl (by decide) rfl (fun ls hl => ?_)
  refine lv_aload_n hx hb dX2_move_6 rfl (lv_at hl 0 rfl) ?_
  refine lv_ifnonnull (tgt := 12) hx hb dX2_move_7 (by decide) ?_
  refine lv_iload_n hx hb dX2_move_12 rfl (lv_at hl 2 rfl) ?_
  refine iw_if_ne (tgt := 26) hx hb dX2_move_13 (by decide) ⟨by omega, by omega⟩ (fun c1 => ?_) (fun c1 => ?_)
  ·
    refine lv_aload_n hx hb dX2_move_26 rfl (lv_at hl 1 rfl) ?_
    refine va_get (D := (dC, dI)) (ci := 2) (v := .ref (q 1)) (C := RX2) (T := TX2) (N := 4) hx hb hts (by decide +kernel) hown hK hP 0 rfl rfl 0 (by decide) (hts (.fieldLink RX2 12 "ExactFractions" "first" "LExactFractions$Fraction;") (by decide +kernel)) (fun _ h9 => h9) rfl dX2_move_27 ?_
    refine va_get (D := (dC, dI)) (ci := 0) (v := .ref (q 3)) (C := RX0) (T := TX0) (N := 4) hx hb hts (by decide +kernel) hown hK hP 1 rfl rfl 0 (by decide) (hts (.fieldLink RX2 65 "ExactFractions$Fraction" "above" "LExactFractions$Whole;") (by decide +kernel)) (fun _ h9 => h9) rfl dX2_move_30 ?_
    refine lv_astore (lv' := [(4, .ref (q 3)), (3, .ref (q 2)), (0, .ref (q 0)), (1, .int (iv (1))), (2, .int (iv (dn)))]) hx hb dX2_move_33 hl (by decide) rfl (fun ls hl => ?_)
    refine lv_aload_n hx hb dX2_move_35 rfl (lv_at hl 1 rfl) ?_
    refine va_get (D := (dC, dI)) (ci := 0) (v := .int (iv (b2))) (C := RX0) (T := TX0) (N := 4) hx hb hts (by decide +kernel) hown hK hP 2 rfl rfl 2 (by decide) (hts (.fieldLink RX2 57 "ExactFractions$Fraction" "below" "Z") (by decide +kernel)) (fun _ h9 => h9) rfl dX2_move_36 ?_
    refine lv_iload_n hx hb dX2_move_39 rfl (lv_at hl 4 rfl) ?_
    refine iw_icmp_ne (tgt := 59) hx hb dX2_move_40 (by decide) (hbr) (hdr) (fun c2 => ?_) (fun c2 => ?_)
    ·
      exact absurd hd c2
    ·
      refine lv_aload_n hx hb dX2_move_43 rfl (lv_at hl 2 rfl) ?_
      refine va_get (D := (dC, dI)) (ci := 2) (v := .ref (q 11)) (C := RX2) (T := TX2) (N := 4) hx hb hts (by decide +kernel) hown hK hP 0 rfl rfl 2 (by decide) (hts (.fieldLink RX2 22 "ExactFractions" "left" "LExactFractions$Whole;") (by decide +kernel)) (fun _ h9 => h9) rfl dX2_move_44 ?_
      refine lv_aload_n hx hb dX2_move_47 rfl (lv_at hl 1 rfl) ?_
      refine va_get (D := (dC, dI)) (ci := 0) (v := .ref (q 7)) (C := RX0) (T := TX0) (N := 4) hx hb hts (by decide +kernel) hown hK hP 2 rfl rfl 0 (by decide) (hts (.fieldLink RX2 65 "ExactFractions$Fraction" "above" "LExactFractions$Whole;") (by decide +kernel)) (fun _ h9 => h9) rfl dX2_move_48 ?_
      refine lv_aload hx hb dX2_move_51 (lv_at hl 0 rfl) ?_
      refine ef_callV (As := [.ref (q 7), .ref (q 3)]) (rest := []) ⟨hx, hb, hml, hown, hts⟩ (c_sum l dC dI ht (isW_c (X := L) (ws := cC cI q (A1) (U1) (b1) (e1) (A2) (U2) (b2) (e2) (L) (R)) (k0 := 11) (k1 := 12) (by decide) rfl rfl) hL (wd_lt _) wd_z (isW_c (X := A2) (ws := cC cI q (A1) (U1) (b1) (e1) (A2) (U2) (b2) (e2) (L) (R)) (k0 := 7) (k1 := 8) (by decide) rfl rfl) (by omega) (apt_c (k0 := 11) (k1 := 12) (j0 := 7) (j1 := 8) rfl) (isW_c (X := A1) (ws := cC cI q (A1) (U1) (b1) (e1) (A2) (U2) (b2) (e2) (L) (R)) (k0 := 3) (k1 := 4) (by decide) rfl rfl) (by omega) (apt_c (k0 := 11) (k1 := 12) (j0 := 3) (j1 := 4) rfl)) (cwV 2 hts gX2_move_X1_becomeSum rfl rfl rfl (by decide +kernel) ⟨Nat.le_of_ble_eq_true rfl, Nat.le_of_ble_eq_true rfl⟩) hK hNX hP hD hS 11 rfl rfl rfl rfl hl.1 rfl (Nat.le_of_ble_eq_true rfl) dX2_move_53 ⟨Nat.zero_le _, Nat.zero_le _⟩ (fun o w1 H locs hq hP hD hS => ?_)
      obtain ⟨rfl, rfl⟩ := hq
      have hP : va_P (dC, dI) vwCl (cC cI q (A1) (U1) (b1) (e1) (A2) (U2) (b2) (e2) (A2 + A1) (R)) H := hP
      have hD : va_D (ef_A (cC cI q (A1) (U1) (b1) (e1) (A2) (U2) (b2) (e2) (L) (R))) (cC cI q (A1) (U1) (b1) (e1) (A2) (U2) (b2) (e2) (A2 + A1) (R)) := hD
      refine W.eq (g2 := F0 m 56 ls []) rfl ?_
      refine lv_goto (tgt := 105) hx hb dX2_move_56 (by decide) ?_
      refine lv_aload_n hx hb dX2_move_105 rfl (lv_at hl 2 rfl) ?_
      refine lv_aload_n hx hb dX2_move_106 rfl (lv_at hl 1 rfl) ?_
      refine va_get (D := (dC, dI)) (ci := 0) (v := .ref (q 7)) (C := RX0) (T := TX0) (N := 4) hx hb hts (by decide +kernel) hown hK hP 2 rfl rfl 0 (by decide) (hts (.fieldLink RX2 65 "ExactFractions$Fraction" "above" "LExactFractions$Whole;") (by decide +kernel)) (fun _ h9 => h9) rfl dX2_move_107 ?_
      refine ef_callV (As := [.ref (q 7)]) (rest := []) ⟨hx, hb, hml, hown, hts⟩ (c_keep10K l dC dI ht q hA1 hU1 hA2 hU2 (by omega) hR hb4) (cwV 1 hts gX2_move_X2_keepLeftIn rfl rfl rfl (by decide +kernel) ⟨Nat.le_of_ble_eq_true rfl, Nat.le_of_ble_eq_true rfl⟩) hK hNX hP hD hS 0 rfl rfl rfl rfl hl.1 rfl (Nat.le_of_ble_eq_true rfl) dX2_move_110 ⟨Nat.zero_le _, Nat.zero_le _⟩ (fun o w1 H locs hq hP hD hS => ?_)
      obtain ⟨rfl, rfl⟩ := hq
      have hP : va_P (dC, dI) vwCl (cC cI q (A1) (U1) (b1) (e1) (A2 + A1) (U2) (b2) (e2) (A2 + A1) (R)) H := hP
      have hD : va_D (ef_A (cC cI q (A1) (U1) (b1) (e1) (A2) (U2) (b2) (e2) (L) (R))) (cC cI q (A1) (U1) (b1) (e1) (A2 + A1) (U2) (b2) (e2) (A2 + A1) (R)) := hD
      refine W.eq (g2 := F0 m 113 ls [.int (iv ((bl (A2 + A1) : Int)))]) rfl ?_
      exact ef_iret hx hb hr hlocks hP hD hS dX2_move_113 (⟨_, _, rfl, rfl, by omega, hR⟩)
  ·
    exact absurd c1 (by decide)

set_option maxRecDepth 100000 in
set_option maxHeartbeats 4000000 in
/-- move -/
theorem c_move1ge (l : Launch) (dC : Nat → ClassId) (dI : Nat → Nat → Nat) {cI : ClassId} {tys : List (ClassId × FieldType)} (ht : tys[0]? = some (cI, .int)) (q : Nat → Nat) {A1 U1 A2 U2 L R : Nat} {b1 e1 b2 e2 : Int} (hA1 : wl A1 ≤ 150) (hU1 : wl U1 ≤ 150) (hA2 : wl A2 ≤ 150) (hU2 : wl U2 ≤ 150) (hL : wl L ≤ 301) (hR : wl R ≤ 301) (hba : bl A1 ≤ 4800) (hbb : bl A2 ≤ 4800) (dn : Int) (hdn : dn = 0 ∨ dn = 1) (hbo : b2 = 0 ∨ b2 = 1) (hd : b2 ≠ dn) (hle : A1 ≤ A2) : ef_C l yX2_move wsX2_move ({ frames := 4, cells := 0, slots := 0, locals := 88 } : Room) [.ref (q 0), .int (iv (1)), .int (iv (dn))] (dC, dI) vwCl tys (cC cI q (A1) (U1) (b1) (e1) (A2) (U2) (b2) (e2) (L) (R)) (fun o w1 => ∃ L2 R2 : Nat, o = some (.int (iv (bl (A2 - A1) : Int))) ∧ w1 = cC cI q (A1) (U1) (b1) (e1) (A2 - A1) (U2) (b2) (e2) (L2) (R2) ∧ wl L2 ≤ 301 ∧ wl R2 ≤ 301) := by
  refine ef_C.of (cc := cX2_move) (maxL := 5) (ret := (some .int)) (by decide) rfl (Nat.le_of_ble_eq_true rfl) ?_
  intro p e s m below meth c ls hx hb hml hr hts hown hlocks hK hNX hP hD hS hl
  have hl : lv_has ls 5 [(0, .ref (q 0)), (1, .int (iv (1))), (2, .int (iv (dn)))] := hl
  have hown : s.vm.findClass RX2 = some m.cls := hown
  generalize hH : s.heap = H at hP ⊢
  have hS : va_S (ef_A (cC cI q (A1) (U1) (b1) (e1) (A2) (U2) (b2) (e2) (L) (R))) s.heap H [] := by rw [← hH]; exact hS
  generalize ([] : List Loc) = locs at hS ⊢
  have hdr : ir dn := by rcases hdn with h | h <;> rw [h] <;> exact ⟨by decide, by decide⟩
  have hbr : ir b2 := by rcases hbo with h | h <;> rw [h] <;> exact ⟨by decide, by decide⟩
  have hb4 : bl (A2 - A1) ≤ 4800 := Nat.le_trans (bl_mono (Nat.sub_le _ _)) hbb
  have hwl : wl (A2 - A1) ≤ 151 := Nat.le_succ_of_le (wl_bl (k := 150) (by omega))
  refine lv_aload_n hx hb dX2_move_0 rfl (lv_at hl 0 rfl) ?_
  refine lv_iload_n hx hb dX2_move_1 rfl (lv_at hl 1 rfl) ?_
  refine ef_callV (As := [.int (iv (1))]) (rest := []) ⟨hx, hb, hml, hown, hts⟩ (c_numberOf1 l dC dI ht q) (cwV 1 hts gX2_move_X2_numberOf rfl rfl rfl (by decide +kernel) ⟨Nat.le_of_ble_eq_true rfl, Nat.le_of_ble_eq_true rfl⟩) hK hNX hP hD hS 0 rfl rfl rfl rfl hl.1 rfl (Nat.le_of_ble_eq_true rfl) dX2_move_2 ⟨Nat.zero_le _, Nat.zero_le _⟩ (fun o w1 H locs hq hP hD hS => ?_)
  obtain ⟨rfl, e9⟩ := hq
  rw [e9] at hP hD
  refine W.eq (g2 := F0 m 5 ls [.ref (q 2)]) rfl ?_
  refine lv_astore_n (lv' := [(3, .ref (q 2)), (0, .ref (q 0)), (1, .int (iv (1))), (2, .int (iv (dn)))]) hx hb dX2_move_5 rfl hl (by decide) rfl (fun ls hl => ?_)
  refine lv_aload_n hx hb dX2_move_6 rfl (lv_at hl 0 rfl) ?_
  refine lv_ifnonnull (tgt := 12) hx hb dX2_move_7 (by decide) ?_
  refine lv_iload_n hx hb dX2_move_12 rfl (lv_at hl 2 rfl) ?_
  refine iw_if_ne (tgt := 26) hx hb dX2_move_13 (by decide) ⟨by omega, by omega⟩ (fun c1 => ?_) (fun c1 => ?_)
  ·
    refine lv_aload_n hx hb dX2_move_26 rfl (lv_at hl 1 rfl) ?_
    refine va_get (D := (dC, dI)) (ci := 2) (v := .ref (q 1)) (C := RX2) (T := TX2) (N := 4) hx hb hts (by decide +kernel) hown hK hP 0 rfl rfl 0 (by decide) (hts (.fieldLink RX2 12 "ExactFractions" "first" "LExactFractions$Fraction;") (by decide +kernel)) (fun _ h9 => h9) rfl dX2_move_27 ?_
    refine va_get (D := (dC, dI)) (ci := 0) (v := .ref (q 3)) (C := RX0) (T := TX0) (N := 4) hx hb hts (by decide +kernel) hown hK hP 1 rfl rfl 0 (by decide) (hts (.fieldLink RX2 65 "ExactFractions$Fraction" "above" "LExactFractions$Whole;") (by decide +kernel)) (fun _ h9 => h9) rfl dX2_move_30 ?_
    refine lv_astore (lv' := [(4, .ref (q 3)), (3, .ref (q 2)), (0, .ref (q 0)), (1, .int (iv (1))), (2, .int (iv (dn)))]) hx hb dX2_move_33 hl (by decide) rfl (fun ls hl => ?_)
    refine lv_aload_n hx hb dX2_move_35 rfl (lv_at hl 1 rfl) ?_
    refine va_get (D := (dC, dI)) (ci := 0) (v := .int (iv (b2))) (C := RX0) (T := TX0) (N := 4) hx hb hts (by decide +kernel) hown hK hP 2 rfl rfl 2 (by decide) (hts (.fieldLink RX2 57 "ExactFractions$Fraction" "below" "Z") (by decide +kernel)) (fun _ h9 => h9) rfl dX2_move_36 ?_
    refine lv_iload_n hx hb dX2_move_39 rfl (lv_at hl 4 rfl) ?_
    refine iw_icmp_ne (tgt := 59) hx hb dX2_move_40 (by decide) (hbr) (hdr) (fun c2 => ?_) (fun c2 => ?_)
    ·
      refine lv_aload_n hx hb dX2_move_59 rfl (lv_at hl 1 rfl) ?_
      refine va_get (D := (dC, dI)) (ci := 0) (v := .ref (q 7)) (C := RX0) (T := TX0) (N := 4) hx hb hts (by decide +kernel) hown hK hP 2 rfl rfl 0 (by decide) (hts (.fieldLink RX2 65 "ExactFractions$Fraction" "above" "LExactFractions$Whole;") (by decide +kernel)) (fun _ h9 => h9) rfl dX2_move_60 ?_
      refine lv_aload hx hb dX2_move_63 (lv_at hl 0 rfl) ?_
      refine ef_callV (As := [.ref (q 3)]) (rest := []) ⟨hx, hb, hml, hown, hts⟩ (c_order l dC dI ht (isW_c (X := A2) (ws := cC cI q (A1) (U1) (b1) (e1) (A2) (U2) (b2) (e2) (L) (R)) (k0 := 7) (k1 := 8) (by decide) rfl rfl) (by omega) (isW_c (X := A1) (ws := cC cI q (A1) (U1) (b1) (e1) (A2) (U2) (b2) (e2) (L) (R)) (k0 := 3) (k1 := 4) (by decide) rfl rfl) (by omega)) (cwV 1 hts gX2_move_X1_order rfl rfl rfl (by decide +kernel) ⟨Nat.le_of_ble_eq_true rfl, Nat.le_of_ble_eq_true rfl⟩) hK hNX hP hD hS 7 rfl rfl rfl rfl hl.1 rfl (Nat.le_of_ble_eq_true rfl) dX2_move_65 ⟨Nat.zero_le _, Nat.zero_le _⟩ (fun o w1 H locs hq hP hD hS => ?_)
      obtain ⟨rfl, e9⟩ := hq
      rw [e9] at hP hD
      refine W.eq (g2 := F0 m 68 ls [.int (iv (zc A2 A1))]) rfl ?_
      refine iw_if_lt (tgt := 87) hx hb dX2_move_68 (by decide) (ir_zc _ _) (fun c3 => ?_) (fun c3 => ?_)
      ·
        exact absurd ((zc_ge _ _).2 (by omega : ((A1 : Nat) : Int) ≤ ((A2 : Nat) : Int))) (by omega)
      ·
        refine lv_aload_n hx hb dX2_move_71 rfl (lv_at hl 2 rfl) ?_
        refine va_get (D := (dC, dI)) (ci := 2) (v := .ref (q 11)) (C := RX2) (T := TX2) (N := 4) hx hb hts (by decide +kernel) hown hK hP 0 rfl rfl 2 (by decide) (hts (.fieldLink RX2 22 "ExactFractions" "left" "LExactFractions$Whole;") (by decide +kernel)) (fun _ h9 => h9) rfl dX2_move_72 ?_
        refine lv_aload_n hx hb dX2_move_75 rfl (lv_at hl 1 rfl) ?_
        refine va_get (D := (dC, dI)) (ci := 0) (v := .ref (q 7)) (C := RX0) (T := TX0) (N := 4) hx hb hts (by decide +kernel) hown hK hP 2 rfl rfl 0 (by decide) (hts (.fieldLink RX2 65 "ExactFractions$Fraction" "above" "LExactFractions$Whole;") (by decide +kernel)) (fun _ h9 => h9) rfl dX2_move_76 ?_
        refine lv_aload hx hb dX2_move_79 (lv_at hl 0 rfl) ?_
        refine ef_callV (As := [.ref (q 7), .ref (q 3)]) (rest := []) ⟨hx, hb, hml, hown, hts⟩ (c_diff l dC dI ht (isW_c (X := L) (ws := cC cI q (A1) (U1) (b1) (e1) (A2) (U2) (b2) (e2) (L) (R)) (k0 := 11) (k1 := 12) (by decide) rfl rfl) hL (wd_lt _) wd_z (isW_c (X := A2) (ws := cC cI q (A1) (U1) (b1) (e1) (A2) (U2) (b2) (e2) (L) (R)) (k0 := 7) (k1 := 8) (by decide) rfl rfl) (by omega) (apt_c (k0 := 11) (k1 := 12) (j0 := 7) (j1 := 8) rfl) (isW_c (X := A1) (ws := cC cI q (A1) (U1) (b1) (e1) (A2) (U2) (b2) (e2) (L) (R)) (k0 := 3) (k1 := 4) (by decide) rfl rfl) (by omega) (apt_c (k0 := 11) (k1 := 12) (j0 := 3) (j1 := 4) rfl) (by omega)) (cwV 2 hts gX2_move_X1_becomeDifference rfl rfl rfl (by decide +kernel) ⟨Nat.le_of_ble_eq_true rfl, Nat.le_of_ble_eq_true rfl⟩) hK hNX hP hD hS 11 rfl rfl rfl rfl hl.1 rfl (Nat.le_of_ble_eq_true rfl) dX2_move_81 ⟨Nat.zero_le _, Nat.zero_le _⟩ (fun o w1 H locs hq hP hD hS => ?_)
        obtain ⟨rfl, rfl⟩ := hq
        have hP : va_P (dC, dI) vwCl (cC cI q (A1) (U1) (b1) (e1) (A2) (U2) (b2) (e2) (A2 - A1) (R)) H := hP
        have hD : va_D (ef_A (cC cI q (A1) (U1) (b1) (e1) (A2) (U2) (b2) (e2) (L) (R))) (cC cI q (A1) (U1) (b1) (e1) (A2) (U2) (b2) (e2) (A2 - A1) (R)) := hD
        refine W.eq (g2 := F0 m 84 ls []) rfl ?_
        refine lv_goto (tgt := 105) hx hb dX2_move_84 (by decide) ?_
        refine lv_aload_n hx hb dX2_move_105 rfl (lv_at hl 2 rfl) ?_
        refine lv_aload_n hx hb dX2_move_106 rfl (lv_at hl 1 rfl) ?_
        refine va_get (D := (dC, dI)) (ci := 0) (v := .ref (q 7)) (C := RX0) (T := TX0) (N := 4) hx hb hts (by decide +kernel) hown hK hP 2 rfl rfl 0 (by decide) (hts (.fieldLink RX2 65 "ExactFractions$Fraction" "above" "LExactFractions$Whole;") (by decide +kernel)) (fun _ h9 => h9) rfl dX2_move_107 ?_
        refine ef_callV (As := [.ref (q 7)]) (rest := []) ⟨hx, hb, hml, hown, hts⟩ (c_keep10K l dC dI ht q hA1 hU1 hA2 hU2 (by omega) hR hb4) (cwV 1 hts gX2_move_X2_keepLeftIn rfl rfl rfl (by decide +kernel) ⟨Nat.le_of_ble_eq_true rfl, Nat.le_of_ble_eq_true rfl⟩) hK hNX hP hD hS 0 rfl rfl rfl rfl hl.1 rfl (Nat.le_of_ble_eq_true rfl) dX2_move_110 ⟨Nat.zero_le _, Nat.zero_le _⟩ (fun o w1 H locs hq hP hD hS => ?_)
        obtain ⟨rfl, rfl⟩ := hq
        have hP : va_P (dC, dI) vwCl (cC cI q (A1) (U1) (b1) (e1) (A2 - A1) (U2) (b2) (e2) (A2 - A1) (R)) H := hP
        have hD : va_D (ef_A (cC cI q (A1) (U1) (b1) (e1) (A2) (U2) (b2) (e2) (L) (R))) (cC cI q (A1) (U1) (b1) (e1) (A2 - A1) (U2) (b2) (e2) (A2 - A1) (R)) := hD
        refine W.eq (g2 := F0 m 113 ls [.int (iv ((bl (A2 - A1) : Int)))]) rfl ?_
        exact ef_iret hx hb hr hlocks hP hD hS dX2_move_113 (⟨_, _, rfl, rfl, by omega, hR⟩)
    ·
      exact absurd c2 hd
  ·
    exact absurd c1 (by decide)

set_option maxRecDepth 100000 in
set_option maxHeartbeats 4000000 in
/-- move -/
theorem c_move1lt (l : Launch) (dC : Nat → ClassId) (dI : Nat → Nat → Nat) {cI : ClassId} {tys : List (ClassId × FieldType)} (ht : tys[0]? = some (cI, .int)) (q : Nat → Nat) {A1 U1 A2 U2 L R : Nat} {b1 e1 b2 e2 : Int} (hA1 : wl A1 ≤ 150) (hU1 : wl U1 ≤ 150) (hA2 : wl A2 ≤ 150) (hU2 : wl U2 ≤ 150) (hL : wl L ≤ 301) (hR : wl R ≤ 301) (hba : bl A1 ≤ 4800) (hbb : bl A2 ≤ 4800) (dn : Int) (hdn : dn = 0 ∨ dn = 1) (hbo : b2 = 0 ∨ b2 = 1) (hd : b2 ≠ dn) (hle : A2 < A1) : ef_C l yX2_move wsX2_move ({ frames := 4, cells := 0, slots := 0, locals := 88 } : Room) [.ref (q 0), .int (iv (1)), .int (iv (dn))] (dC, dI) vwCl tys (cC cI q (A1) (U1) (b1) (e1) (A2) (U2) (b2) (e2) (L) (R)) (fun o w1 => ∃ L2 R2 : Nat, o = some (.int (iv (bl (A1 - A2) : Int))) ∧ w1 = cC cI q (A1) (U1) (b1) (e1) (A1 - A2) (U2) (dn) (e2) (L2) (R2) ∧ wl L2 ≤ 301 ∧ wl R2 ≤ 301) := by
  refine ef_C.of (cc := cX2_move) (maxL := 5) (ret := (some .int)) (by decide) rfl (Nat.le_of_ble_eq_true rfl) ?_
  intro p e s m below meth c ls hx hb hml hr hts hown hlocks hK hNX hP hD hS hl
  have hl : lv_has ls 5 [(0, .ref (q 0)), (1, .int (iv (1))), (2, .int (iv (dn)))] := hl
  have hown : s.vm.findClass RX2 = some m.cls := hown
  generalize hH : s.heap = H at hP ⊢
  have hS : va_S (ef_A (cC cI q (A1) (U1) (b1) (e1) (A2) (U2) (b2) (e2) (L) (R))) s.heap H [] := by rw [← hH]; exact hS
  generalize ([] : List Loc) = locs at hS ⊢
  have hdr : ir dn := by rcases hdn with h | h <;> rw [h] <;> exact ⟨by decide, by decide⟩
  have hbr : ir b2 := by rcases hbo with h | h <;> rw [h] <;> exact ⟨by decide, by decide⟩
  have hb4 : bl (A1 - A2) ≤ 4800 := Nat.le_trans (bl_mono (Nat.sub_le _ _)) hba
  have hwl : wl (A1 - A2) ≤ 151 := Nat.le_succ_of_le (wl_bl (k := 150) (by omega))
  refine lv_aload_n hx hb dX2_move_0 rfl (lv_at hl 0 rfl) ?_
  refine lv_iload_n hx hb dX2_move_1 rfl (lv_at hl 1 rfl) ?_
  refine ef_callV (As := [.int (iv (1))]) (rest := []) ⟨hx, hb, hml, hown, hts⟩ (c_numberOf1 l dC dI ht q) (cwV 1 hts gX2_move_X2_numberOf rfl rfl rfl (by decide +kernel) ⟨Nat.le_of_ble_eq_true rfl, Nat.le_of_ble_eq_true rfl⟩) hK hNX hP hD hS 0 rfl rfl rfl rfl hl.1 rfl (Nat.le_of_ble_eq_true rfl) dX2_move_2 ⟨Nat.zero_le _, Nat.zero_le _⟩ (fun o w1 H locs hq hP hD hS => ?_)
  obtain ⟨rfl, e9⟩ := hq
  rw [e9] at hP hD
  refine W.eq (g2 := F0 m 5 ls [.ref (q 2)]) rfl ?_
  refine lv_astore_n (lv' := [(3, .ref (q 2)), (0, .ref (q 0)), (1, .int (iv (1))), (2, .int (iv (dn)))]) hx hb dX2_move_5 rfl hl (by decide) rfl (fun ls hl => ?_)
  refine lv_aload_n hx hb dX2_move_6 rfl (lv_at hl 0 rfl) ?_
  refine lv_ifnonnull (tgt := 12) hx hb dX2_move_7 (by decide) ?_
  refine lv_iload_n hx hb dX2_move_12 rfl (lv_at hl 2 rfl) ?_
  refine iw_if_ne (tgt := 26) hx hb dX2_move_13 (by decide) ⟨by omega, by omega⟩ (fun c1 => ?_) (fun c1 => ?_)
  ·
    refine lv_aload_n hx hb dX2_move_26 rfl (lv_at hl 1 rfl) ?_
    refine va_get (D := (dC, dI)) (ci := 2) (v := .ref (q 1)) (C := RX2) (T := TX2) (N := 4) hx hb hts (by decide +kernel) hown hK hP 0 rfl rfl 0 (by decide) (hts (.fieldLink RX2 12 "ExactFractions" "first" "LExactFractions$Fraction;") (by decide +kernel)) (fun _ h9 => h9) rfl dX2_move_27 ?_
    refine va_get (D := (dC, dI)) (ci := 0) (v := .ref (q 3)) (C := RX0) (T := TX0) (N := 4) hx hb hts (by decide +kernel) hown hK hP 1 rfl rfl 0 (by decide) (hts (.fieldLink RX2 65 "ExactFractions$Fraction" "above" "LExactFractions$Whole;") (by decide +kernel)) (fun _ h9 => h9) rfl dX2_move_30 ?_
    refine lv_astore (lv' := [(4, .ref (q 3)), (3, .ref (q 2)), (0, .ref (q 0)), (1, .int (iv (1))), (2, .int (iv (dn)))]) hx hb dX2_move_33 hl (by decide) rfl (fun ls hl => ?_)
    refine lv_aload_n hx hb dX2_move_35 rfl (lv_at hl 1 rfl) ?_
    refine va_get (D := (dC, dI)) (ci := 0) (v := .int (iv (b2))) (C := RX0) (T := TX0) (N := 4) hx hb hts (by decide +kernel) hown hK hP 2 rfl rfl 2 (by decide) (hts (.fieldLink RX2 57 "ExactFractions$Fraction" "below" "Z") (by decide +kernel)) (fun _ h9 => h9) rfl dX2_move_36 ?_
    refine lv_iload_n hx hb dX2_move_39 rfl (lv_at hl 4 rfl) ?_
    refine iw_icmp_ne (tgt := 59) hx hb dX2_move_40 (by decide) (hbr) (hdr) (fun c2 => ?_) (fun c2 => ?_)
    ·
      refine lv_aload_n hx hb dX2_move_59 rfl (lv_at hl 1 rfl) ?_
      refine va_get (D := (dC, dI)) (ci := 0) (v := .ref (q 7)) (C := RX0) (T := TX0) (N := 4) hx hb hts (by decide +kernel) hown hK hP 2 rfl rfl 0 (by decide) (hts (.fieldLink RX2 65 "ExactFractions$Fraction" "above" "LExactFractions$Whole;") (by decide +kernel)) (fun _ h9 => h9) rfl dX2_move_60 ?_
      refine lv_aload hx hb dX2_move_63 (lv_at hl 0 rfl) ?_
      refine ef_callV (As := [.ref (q 3)]) (rest := []) ⟨hx, hb, hml, hown, hts⟩ (c_order l dC dI ht (isW_c (X := A2) (ws := cC cI q (A1) (U1) (b1) (e1) (A2) (U2) (b2) (e2) (L) (R)) (k0 := 7) (k1 := 8) (by decide) rfl rfl) (by omega) (isW_c (X := A1) (ws := cC cI q (A1) (U1) (b1) (e1) (A2) (U2) (b2) (e2) (L) (R)) (k0 := 3) (k1 := 4) (by decide) rfl rfl) (by omega)) (cwV 1 hts gX2_move_X1_order rfl rfl rfl (by decide +kernel) ⟨Nat.le_of_ble_eq_true rfl, Nat.le_of_ble_eq_true rfl⟩) hK hNX hP hD hS 7 rfl rfl rfl rfl hl.1 rfl (Nat.le_of_ble_eq_true rfl) dX2_move_65 ⟨Nat.zero_le _, Nat.zero_le _⟩ (fun o w1 H locs hq hP hD hS => ?_)
      obtain ⟨rfl, e9⟩ := hq
      rw [e9] at hP hD
      refine W.eq (g2 := F0 m 68 ls [.int (iv (zc A2 A1))]) rfl ?_
      refine iw_if_lt (tgt := 87) hx hb dX2_move_68 (by decide) (ir_zc _ _) (fun c3 => ?_) (fun c3 => ?_)
      ·
        refine lv_aload_n hx hb dX2_move_87 rfl (lv_at hl 2 rfl) ?_
        refine va_get (D := (dC, dI)) (ci := 2) (v := .ref (q 11)) (C := RX2) (T := TX2) (N := 4) hx hb hts (by decide +kernel) hown hK hP 0 rfl rfl 2 (by decide) (hts (.fieldLink RX2 22 "ExactFractions" "left" "LExactFractions$Whole;") (by decide +kernel)) (fun _ h9 => h9) rfl dX2_move_88 ?_
        refine lv_aload hx hb dX2_move_91 (lv_at hl 0 rfl) ?_
        refine lv_aload_n hx hb dX2_move_93 rfl (lv_at hl 1 rfl) ?_
        refine va_get (D := (dC, dI)) (ci := 0) (v := .ref (q 7)) (C := RX0) (T := TX0) (N := 4) hx hb hts (by decide +kernel) hown hK hP 2 rfl rfl 0 (by decide) (hts (.fieldLink RX2 65 "ExactFractions$Fraction" "above" "LExactFractions$Whole;") (by decide +kernel)) (fun _ h9 => h9) rfl dX2_move_94 ?_
        refine ef_callV (As := [.ref (q 3), .ref (q 7)]) (rest := []) ⟨hx, hb, hml, hown, hts⟩ (c_diff l dC dI ht (isW_c (X := L) (ws := cC cI q (A1) (U1) (b1) (e1) (A2) (U2) (b2) (e2) (L) (R)) (k0 := 11) (k1 := 12) (by decide) rfl rfl) hL (wd_lt _) wd_z (isW_c (X := A1) (ws := cC cI q (A1) (U1) (b1) (e1) (A2) (U2) (b2) (e2) (L) (R)) (k0 := 3) (k1 := 4) (by decide) rfl rfl) (by omega) (apt_c (k0 := 11) (k1 := 12) (j0 := 3) (j1 := 4) rfl) (isW_c (X := A2) (ws := cC cI q (A1) (U1) (b1) (e1) (A2) (U2) (b2) (e2) (L) (R)) (k0 := 7) (k1 := 8) (by decide) rfl rfl) (by omega) (apt_c (k0 := 11) (k1 := 12) (j0 := 7) (j1 := 8) rfl) (by omega)) (cwV 2 hts gX2_move_X1_becomeDifference rfl rfl rfl (by decide +kernel) ⟨Nat.le_of_ble_eq_true rfl, Nat.le_of_ble_eq_true rfl⟩) hK hNX hP hD hS 11 rfl rfl rfl rfl hl.1 rfl (Nat.le_of_ble_eq_true rfl) dX2_move_97 ⟨Nat.zero_le _, Nat.zero_le _⟩ (fun o w1 H locs hq hP hD hS => ?_)
        obtain ⟨rfl, rfl⟩ := hq
        have hP : va_P (dC, dI) vwCl (cC cI q (A1) (U1) (b1) (e1) (A2) (U2) (b2) (e2) (A1 - A2) (R)) H := hP
        have hD : va_D (ef_A (cC cI q (A1) (U1) (b1) (e1) (A2) (U2) (b2) (e2) (L) (R))) (cC cI q (A1) (U1) (b1) (e1) (A2) (U2) (b2) (e2) (A1 - A2) (R)) := hD
        refine W.eq (g2 := F0 m 100 ls []) rfl ?_
        refine lv_aload_n hx hb dX2_move_100 rfl (lv_at hl 1 rfl) ?_
        refine lv_iload_n hx hb dX2_move_101 rfl (lv_at hl 4 rfl) ?_
        refine va_put (D := (dC, dI)) (ci := 0) (v := .int (iv (dn))) (ty := .boolean) (C := RX0) (T := TX0) (N := 4) hx hb hts (by decide +kernel) tyX0 tyX0_ok nmX0 hown hK hP hD hS 2 rfl rfl 2 (by decide) (hts (.fieldLink RX2 57 "ExactFractions$Fraction" "below" "Z") (by decide +kernel)) (fun _ h9 => h9) rfl (by decide +kernel) (by rcases hdn with h9 | h9 <;> rw [h9] <;> rfl) (by rcases hdn with h9 | h9 <;> rw [h9] <;> rfl) (Nat.le_of_ble_eq_true rfl) dX2_move_102 (fun H locs hP hD hS => ?_)
        have hP : va_P (dC, dI) vwCl (cC cI q (A1) (U1) (b1) (e1) (A2) (U2) (dn) (e2) (A1 - A2) (R)) H := hP
        have hD : va_D (ef_A (cC cI q (A1) (U1) (b1) (e1) (A2) (U2) (b2) (e2) (L) (R))) (cC cI q (A1) (U1) (b1) (e1) (A2) (U2) (dn) (e2) (A1 - A2) (R)) := hD
        refine lv_aload_n hx hb dX2_move_105 rfl (lv_at hl 2 rfl) ?_
        refine lv_aload_n hx hb dX2_move_106 rfl (lv_at hl 1 rfl) ?_
        refine va_get (D := (dC, dI)) (ci := 0) (v := .ref (q 7)) (C := RX0) (T := TX0) (N := 4) hx hb hts (by decide +kernel) hown hK hP 2 rfl rfl 0 (by decide) (hts (.fieldLink RX2 65 "ExactFractions$Fraction" "above" "LExactFractions$Whole;") (by decide +kernel)) (fun _ h9 => h9) rfl dX2_move_107 ?_
        refine ef_callV (As := [.ref (q 7)]) (rest := []) ⟨hx, hb, hml, hown, hts⟩ (c_keep10K l dC dI ht q hA1 hU1 hA2 hU2 (by omega) hR hb4) (cwV 1 hts gX2_move_X2_keepLeftIn rfl rfl rfl (by decide +kernel) ⟨Nat.le_of_ble_eq_true rfl, Nat.le_of_ble_eq_true rfl⟩) hK hNX hP hD hS 0 rfl rfl rfl rfl hl.1 rfl (Nat.le_of_ble_eq_true rfl) dX2_move_110 ⟨Nat.zero_le _, Nat.zero_le _⟩ (fun o w1 H locs hq hP hD hS => ?_)
        obtain ⟨rfl, rfl⟩ := hq
        have hP : va_P (dC, dI) vwCl (cC cI q (A1) (U1) (b1) (e1) (A1 - A2) (U2) (dn) (e2) (A1 - A2) (R)) H := hP
        have hD : va_D (ef_A (cC cI q (A1) (U1) (b1) (e1) (A2) (U2) (b2) (e2) (L) (R))) (cC cI q (A1) (U1) (b1) (e1) (A1 - A2) (U2) (dn) (e2) (A1 - A2) (R)) := hD
        refine W.eq (g2 := F0 m 113 ls [.int (iv ((bl (A1 - A2) : Int)))]) rfl ?_
        exact ef_iret hx hb hr hlocks hP hD hS dX2_move_113 (⟨_, _, rfl, rfl, by omega, hR⟩)
      ·
        exact absurd ((zc_ge _ _).1 c3) (by omega)
    ·
      exact absurd c2 hd
  ·
    exact absurd c1 (by decide)

set_option maxRecDepth 100000 in
set_option maxHeartbeats 4000000 in
/-- move of no number -/
theorem c_movex (l : Launch) (dC : Nat → ClassId) (dI : Nat → Nat → Nat) {cI : ClassId} {tys : List (ClassId × FieldType)} (ht : tys[0]? = some (cI, .int)) (q : Nat → Nat) {A1 U1 A2 U2 L R : Nat} {b1 e1 b2 e2 : Int} (hA1 : wl A1 ≤ 150) (hU1 : wl U1 ≤ 150) (hA2 : wl A2 ≤ 150) (hU2 : wl U2 ≤ 150) (hL : wl L ≤ 301) (hR : wl R ≤ 301) (z : Int) (hz : ir z) (hz0 : z ≠ 0) (hz1 : z ≠ 1) (dn : Int) : ef_C l yX2_move wsX2_move ({ frames := 4, cells := 0, slots := 0, locals := 88 } : Room) [.ref (q 0), .int (iv (z)), .int (iv (dn))] (dC, dI) vwCl tys (cC cI q (A1) (U1) (b1) (e1) (A2) (U2) (b2) (e2) (L) (R)) (fun o w1 => ∃ L2 R2 : Nat, o = some (.int (iv (-1))) ∧ w1 = cC cI q (A1) (U1) (b1) (e1) (A2) (U2) (b2) (e2) (L2) (R2) ∧ wl L2 ≤ 301 ∧ wl R2 ≤ 301) := by
  refine ef_C.of (cc := cX2_move) (maxL := 5) (ret := (some .int)) (by decide) rfl (Nat.le_of_ble_eq_true rfl) ?_
  intro p e s m below meth c ls hx hb hml hr hts hown hlocks hK hNX hP hD hS hl
  have hl : lv_has ls 5 [(0, .ref (q 0)), (1, .int (iv (z))), (2, .int (iv (dn)))] := hl
  have hown : s.vm.findClass RX2 = some m.cls := hown
  generalize hH : s.heap = H at hP ⊢
  have hS : va_S (ef_A (cC cI q (A1) (U1) (b1) (e1) (A2) (U2) (b2) (e2) (L) (R))) s.heap H [] := by rw [← hH]; exact hS
  generalize ([] : List Loc) = locs at hS ⊢
  refine lv_aload_n hx hb dX2_move_0 rfl (lv_at hl 0 rfl) ?_
  refine lv_iload_n hx hb dX2_move_1 rfl (lv_at hl 1 rfl) ?_
  refine ef_callV (As := [.int (iv (z))]) (rest := []) ⟨hx, hb, hml, hown, hts⟩ (c_numberOfx l dC dI ht q z hz hz0 hz1) (cwV 1 hts gX2_move_X2_numberOf rfl rfl rfl (by decide +kernel) ⟨Nat.le_of_ble_eq_true rfl, Nat.le_of_ble_eq_true rfl⟩) hK hNX hP hD hS 0 rfl rfl rfl rfl hl.1 rfl (Nat.le_of_ble_eq_true rfl) dX2_move_2 ⟨Nat.zero_le _, Nat.zero_le _⟩ (fun o w1 H locs hq hP hD hS => ?_)
  obtain ⟨rfl, e9⟩ := hq
  rw [e9] at hP hD
  refine W.eq (g2 := F0 m 5 ls [.null]) rfl ?_
  refine lv_astore_nN (lv' := [(3, .null), (0, .ref (q 0)), (1, .int (iv (z))), (2, .int (iv (dn)))]) hx hb dX2_move_5 rfl hl (by decide) rfl (fun ls hl => ?_)
  refine lv_aload_nN hx hb dX2_move_6 rfl (lv_at hl 0 rfl) ?_
  refine lv_ifnonnullN hx hb dX2_move_7 ?_
  refine lv_iconst (v := iv (-1)) hx hb dX2_move_10 (by decide) ?_
  exact ef_iret hx hb hr hlocks hP hD hS dX2_move_11 (⟨_, _, rfl, rfl, hL, hR⟩)
end
section
/-! Fractions compared: sizes A / U * 2 ^ e by their products -/
def pw (z : Int) : Nat := 2 ^ (z + 20000).toNat
theorem pw_pos (z : Int) : 0 < pw z := Nat.pow_pos (by decide)
theorem pw_add {z : Int} (h : -20000 ≤ z) (k : Nat) : pw (z + (k : Int)) = pw z * 2 ^ k := by
  unfold pw
  rw [← Nat.pow_add]
  congr 1
  omega
def scmp (A1 U1 : Nat) (e1 : Int) (A2 U2 : Nat) (e2 : Int) : Int := zc ((A1 * U2 * pw e1 : Nat) : Int) ((A2 * U1 * pw e2 : Nat) : Int)
def ccmp (A1 U1 : Nat) (b1 e1 : Int) (A2 U2 : Nat) (b2 e2 : Int) : Int := if sgn A1 b1 < sgn A2 b2 then -1 else if sgn A2 b2 < sgn A1 b1 then 1 else if sgn A1 b1 = 0 then 0 else sgn A1 b1 * scmp A1 U1 e1 A2 U2 e2
theorem wl_of_bl (X : Nat) : wl X = (bl X + 31) / 32 := by
  unfold wl bl
  by_cases h : X = 0
  · rw [if_pos h, if_pos h]
  · rw [if_neg h, if_neg h]; omega
theorem zc_mul {a b c : Nat} (h : 0 < c) : zc ((a * c : Nat) : Int) ((b * c : Nat) : Int) = zc (a : Int) (b : Int) := by
  rcases Nat.lt_trichotomy a b with h1 | h1 | h1
  · have h2 : a * c < b * c := Nat.mul_lt_mul_of_pos_right h1 h
    rw [zc_lt (by omega), zc_lt (by omega)]
  · rw [h1, zc_eq, zc_eq]
  · have h2 : b * c < a * c := Nat.mul_lt_mul_of_pos_right h1 h
    rw [zc_gt (by omega), zc_gt (by omega)]
theorem cmp_bl {X Y : Nat} {x y : Int} (hY : Y ≠ 0) (hx : -20000 ≤ x) (hy : -20000 ≤ y) (h : (bl X : Int) + x < (bl Y : Int) + y) : X * pw x < Y * pw y := by
  have h1 : X * pw x < 2 ^ bl X * pw x := Nat.mul_lt_mul_of_pos_right (bl_lt X) (pw_pos x)
  have h2 : 2 ^ (bl Y - 1) * pw y ≤ Y * pw y := Nat.mul_le_mul_right _ (bl_ge hY)
  have h3 : bl Y ≠ 0 := fun q => hY (bl_0.1 q)
  have h4 : 2 ^ bl X * pw x ≤ 2 ^ (bl Y - 1) * pw y := by
    unfold pw
    rw [← Nat.pow_add, ← Nat.pow_add]
    exact Nat.pow_le_pow_right (by decide) (by omega)
  omega
theorem bl_mul_le (X Y : Nat) : bl (X * Y) ≤ bl X + bl Y := by
  apply bl_le
  rw [Nat.pow_add]
  have h1 := bl_lt X
  have h2 := bl_lt Y
  have h3 : 0 < 2 ^ bl X := Nat.pow_pos (by decide)
  rcases Nat.eq_zero_or_pos Y with h | h
  · rw [h, Nat.mul_zero]; exact Nat.mul_pos h3 (Nat.pow_pos (by decide))
  · exact Nat.mul_lt_mul_of_lt_of_le h1 (Nat.le_of_lt h2) (Nat.pow_pos (by decide))
theorem bl_mul_ge {X Y : Nat} (hX : X ≠ 0) (hY : Y ≠ 0) : bl X + bl Y ≤ bl (X * Y) + 1 := by
  have h1 := bl_ge hX
  have h2 := bl_ge hY
  have h3 : 2 ^ (bl X - 1) * 2 ^ (bl Y - 1) ≤ X * Y := Nat.mul_le_mul h1 h2
  rw [← Nat.pow_add] at h3
  have h4 := Nat.lt_of_le_of_lt h3 (bl_lt (X * Y))
  have h5 := (Nat.pow_lt_pow_iff_right (show 1 < 2 by decide)).1 h4
  omega
theorem scmp_gt {A1 U1 A2 U2 : Nat} {e1 e2 : Int} (hA : A1 ≠ 0) (hU : U2 ≠ 0) (h1 : -20000 ≤ e1) (h2 : -20000 ≤ e2) (h : (bl A2 : Int) - bl U2 + e2 + 1 < (bl A1 : Int) - bl U1 + e1) : scmp A1 U1 e1 A2 U2 e2 = 1 := by
  have q1 := bl_mul_le A2 U1
  have q2 := bl_mul_ge hA hU
  have q3 := cmp_bl (X := A2 * U1) (Y := A1 * U2) (Nat.mul_ne_zero hA hU) h2 h1 (by omega)
  exact zc_gt (by omega)
theorem scmp_lt {A1 U1 A2 U2 : Nat} {e1 e2 : Int} (hA : A2 ≠ 0) (hU : U1 ≠ 0) (h1 : -20000 ≤ e1) (h2 : -20000 ≤ e2) (h : (bl A1 : Int) - bl U1 + e1 + 1 < (bl A2 : Int) - bl U2 + e2) : scmp A1 U1 e1 A2 U2 e2 = -1 := by
  have q1 := bl_mul_le A1 U2
  have q2 := bl_mul_ge hA hU
  have q3 := cmp_bl (X := A1 * U2) (Y := A2 * U1) (Nat.mul_ne_zero hA hU) h1 h2 (by omega)
  exact zc_lt (by omega)
theorem sgn_r (A : Nat) (b : Int) : -1 ≤ sgn A b ∧ sgn A b ≤ 1 := by unfold sgn; (repeat split) <;> omega
theorem sgn_ir (A : Nat) (b : Int) : ir (sgn A b) := by have := sgn_r A b; exact ⟨by omega, by omega⟩

set_option maxRecDepth 100000 in
set_option maxHeartbeats 4000000 in
/-- alignTops -/
theorem c_alignN (l : Launch) (dC : Nat → ClassId) (dI : Nat → Nat → Nat) {cI : ClassId} {tys : List (ClassId × FieldType)} (ht : tys[0]? = some (cI, .int)) (q : Nat → Nat) {A1 U1 A2 U2 L R : Nat} {b1 e1 b2 e2 : Int} (hA1 : wl A1 ≤ 150) (hU1 : wl U1 ≤ 150) (hA2 : wl A2 ≤ 150) (hU2 : wl U2 ≤ 150) (hL : wl L ≤ 301) (hR : wl R ≤ 301) (k : Nat) (hk0 : k ≠ 0) (hk : wl L + k / 32 + 1 ≤ 301) : ef_C l yX2_alignTops wsX2_alignTops ({ frames := 3, cells := 0, slots := 0, locals := 72 } : Room) [.ref (q 0), .int (iv (-(k : Int)))] (dC, dI) vwCl tys (cC cI q (A1) (U1) (b1) (e1) (A2) (U2) (b2) (e2) (L) (R)) (fun o w1 => o = none ∧ w1 = cC cI q (A1) (U1) (b1) (e1) (A2) (U2) (b2) (e2) (L * 2 ^ k) (R)) := by
  refine ef_C.of (cc := cX2_alignTops) (maxL := 2) (ret := none) (by decide) rfl (Nat.le_of_ble_eq_true rfl) ?_
  intro p e s m below meth c ls hx hb hml hr hts hown hlocks hK hNX hP hD hS hl
  have hl : lv_has ls 2 [(0, .ref (q 0)), (1, .int (iv (-(k : Int))))] := hl
  have hown : s.vm.findClass RX2 = some m.cls := hown
  generalize hH : s.heap = H at hP ⊢
  have hS : va_S (ef_A (cC cI q (A1) (U1) (b1) (e1) (A2) (U2) (b2) (e2) (L) (R))) s.heap H [] := by rw [← hH]; exact hS
  generalize ([] : List Loc) = locs at hS ⊢
  refine lv_iload_n hx hb dX2_alignTops_0 rfl (lv_at hl 1 rfl) ?_
  refine iw_if_ge (tgt := 16) hx hb dX2_alignTops_1 (by decide) ⟨by omega, by omega⟩ (fun c1 => ?_) (fun c1 => ?_)
  ·
    exact absurd c1 (by omega)
  ·
    refine lv_aload_n hx hb dX2_alignTops_4 rfl (lv_at hl 0 rfl) ?_
    refine va_get (D := (dC, dI)) (ci := 2) (v := .ref (q 11)) (C := RX2) (T := TX2) (N := 4) hx hb hts (by decide +kernel) hown hK hP 0 rfl rfl 2 (by decide) (hts (.fieldLink RX2 22 "ExactFractions" "left" "LExactFractions$Whole;") (by decide +kernel)) (fun _ h9 => h9) rfl dX2_alignTops_5 ?_
    refine lv_iload_n hx hb dX2_alignTops_8 rfl (lv_at hl 1 rfl) ?_
    refine iw_ineg hx hb dX2_alignTops_9 ?_
    refine iw_topi (y := iv ((k : Int))) (congrArg iv (by omega : ((-(-(k : Int))) : Int) = ((k : Int)))) ?_
    refine ef_callV (As := [.int (iv ((k : Int)))]) (rest := []) ⟨hx, hb, hml, hown, hts⟩ (c_shiftUp l dC dI ht (isW_c (X := L) (ws := cC cI q (A1) (U1) (b1) (e1) (A2) (U2) (b2) (e2) (L) (R)) (k0 := 11) (k1 := 12) (by decide) rfl rfl) hL k hk) (cwV 1 hts gX2_alignTops_X1_shiftUp rfl rfl rfl (by decide +kernel) ⟨Nat.le_of_ble_eq_true rfl, Nat.le_of_ble_eq_true rfl⟩) hK hNX hP hD hS 11 rfl rfl rfl rfl hl.1 rfl (Nat.le_of_ble_eq_true rfl) dX2_alignTops_10 ⟨Nat.zero_le _, Nat.zero_le _⟩ (fun o w1 H locs hq hP hD hS => ?_)
    obtain ⟨rfl, rfl⟩ := hq
    have hP : va_P (dC, dI) vwCl (cC cI q (A1) (U1) (b1) (e1) (A2) (U2) (b2) (e2) (L * 2 ^ k) (R)) H := hP
    have hD : va_D (ef_A (cC cI q (A1) (U1) (b1) (e1) (A2) (U2) (b2) (e2) (L) (R))) (cC cI q (A1) (U1) (b1) (e1) (A2) (U2) (b2) (e2) (L * 2 ^ k) (R)) := hD
    refine W.eq (g2 := F0 m 13 ls []) rfl ?_
    refine lv_goto (tgt := 24) hx hb dX2_alignTops_13 (by decide) ?_
    exact ef_vret hx hb hr hlocks hP hD hS dX2_alignTops_24 (⟨rfl, rfl⟩)

set_option maxRecDepth 100000 in
set_option maxHeartbeats 4000000 in
/-- alignTops -/
theorem c_alignP (l : Launch) (dC : Nat → ClassId) (dI : Nat → Nat → Nat) {cI : ClassId} {tys : List (ClassId × FieldType)} (ht : tys[0]? = some (cI, .int)) (q : Nat → Nat) {A1 U1 A2 U2 L R : Nat} {b1 e1 b2 e2 : Int} (hA1 : wl A1 ≤ 150) (hU1 : wl U1 ≤ 150) (hA2 : wl A2 ≤ 150) (hU2 : wl U2 ≤ 150) (hL : wl L ≤ 301) (hR : wl R ≤ 301) (k : Nat) (hk : wl R + k / 32 + 1 ≤ 301) : ef_C l yX2_alignTops wsX2_alignTops ({ frames := 3, cells := 0, slots := 0, locals := 72 } : Room) [.ref (q 0), .int (iv ((k : Int)))] (dC, dI) vwCl tys (cC cI q (A1) (U1) (b1) (e1) (A2) (U2) (b2) (e2) (L) (R)) (fun o w1 => o = none ∧ w1 = cC cI q (A1) (U1) (b1) (e1) (A2) (U2) (b2) (e2) (L) (R * 2 ^ k)) := by
  refine ef_C.of (cc := cX2_alignTops) (maxL := 2) (ret := none) (by decide) rfl (Nat.le_of_ble_eq_true rfl) ?_
  intro p e s m below meth c ls hx hb hml hr hts hown hlocks hK hNX hP hD hS hl
  have hl : lv_has ls 2 [(0, .ref (q 0)), (1, .int (iv ((k : Int))))] := hl
  have hown : s.vm.findClass RX2 = some m.cls := hown
  generalize hH : s.heap = H at hP ⊢
  have hS : va_S (ef_A (cC cI q (A1) (U1) (b1) (e1) (A2) (U2) (b2) (e2) (L) (R))) s.heap H [] := by rw [← hH]; exact hS
  generalize ([] : List Loc) = locs at hS ⊢
  refine lv_iload_n hx hb dX2_alignTops_0 rfl (lv_at hl 1 rfl) ?_
  refine iw_if_ge (tgt := 16) hx hb dX2_alignTops_1 (by decide) ⟨by omega, by omega⟩ (fun c1 => ?_) (fun c1 => ?_)
  ·
    refine lv_aload_n hx hb dX2_alignTops_16 rfl (lv_at hl 0 rfl) ?_
    refine va_get (D := (dC, dI)) (ci := 2) (v := .ref (q 13)) (C := RX2) (T := TX2) (N := 4) hx hb hts (by decide +kernel) hown hK hP 0 rfl rfl 3 (by decide) (hts (.fieldLink RX2 26 "ExactFractions" "right" "LExactFractions$Whole;") (by decide +kernel)) (fun _ h9 => h9) rfl dX2_alignTops_17 ?_
    refine lv_iload_n hx hb dX2_alignTops_20 rfl (lv_at hl 1 rfl) ?_
    refine ef_callV (As := [.int (iv ((k : Int)))]) (rest := []) ⟨hx, hb, hml, hown, hts⟩ (c_shiftUp l dC dI ht (isW_c (X := R) (ws := cC cI q (A1) (U1) (b1) (e1) (A2) (U2) (b2) (e2) (L) (R)) (k0 := 13) (k1 := 14) (by decide) rfl rfl) hR k hk) (cwV 1 hts gX2_alignTops_X1_shiftUp rfl rfl rfl (by decide +kernel) ⟨Nat.le_of_ble_eq_true rfl, Nat.le_of_ble_eq_true rfl⟩) hK hNX hP hD hS 13 rfl rfl rfl rfl hl.1 rfl (Nat.le_of_ble_eq_true rfl) dX2_alignTops_21 ⟨Nat.zero_le _, Nat.zero_le _⟩ (fun o w1 H locs hq hP hD hS => ?_)
    obtain ⟨rfl, rfl⟩ := hq
    have hP : va_P (dC, dI) vwCl (cC cI q (A1) (U1) (b1) (e1) (A2) (U2) (b2) (e2) (L) (R * 2 ^ k)) H := hP
    have hD : va_D (ef_A (cC cI q (A1) (U1) (b1) (e1) (A2) (U2) (b2) (e2) (L) (R))) (cC cI q (A1) (U1) (b1) (e1) (A2) (U2) (b2) (e2) (L) (R * 2 ^ k)) := hD
    refine W.eq (g2 := F0 m 24 ls []) rfl ?_
    exact ef_vret hx hb hr hlocks hP hD hS dX2_alignTops_24 (⟨rfl, rfl⟩)
  ·
    exact absurd c1 (by omega)

set_option maxRecDepth 100000 in
set_option maxHeartbeats 4000000 in
/-- orderOfSizes -/
theorem c_orderOfSizes (l : Launch) (dC : Nat → ClassId) (dI : Nat → Nat → Nat) {cI : ClassId} {tys : List (ClassId × FieldType)} (ht : tys[0]? = some (cI, .int)) (q : Nat → Nat) {A1 U1 A2 U2 L R : Nat} {b1 e1 b2 e2 : Int} (hA1 : wl A1 ≤ 150) (hU1 : wl U1 ≤ 150) (hA2 : wl A2 ≤ 150) (hU2 : wl U2 ≤ 150) (hL : wl L ≤ 301) (hR : wl R ≤ 301) (bA1 : bl A1 ≤ 4800) (bU1 : bl U1 ≤ 4800) (bA2 : bl A2 ≤ 4800) (bU2 : bl U2 ≤ 4800) (le1 : -12000 ≤ e1) (ge1 : e1 ≤ 12000) (le2 : -12000 ≤ e2) (ge2 : e2 ≤ 12000) (nA1 : A1 ≠ 0) (nU1 : U1 ≠ 0) (nA2 : A2 ≠ 0) (nU2 : U2 ≠ 0) : ef_C l yX2_orderOfSizes wsX2_orderOfSizes ({ frames := 4, cells := 0, slots := 0, locals := 93 } : Room) [.ref (q 0)] (dC, dI) vwCl tys (cC cI q (A1) (U1) (b1) (e1) (A2) (U2) (b2) (e2) (L) (R)) (fun o w1 => ∃ L2 R2 : Nat, o = some (.int (iv (scmp A1 U1 e1 A2 U2 e2))) ∧ w1 = cC cI q (A1) (U1) (b1) (e1) (A2) (U2) (b2) (e2) (L2) (R2) ∧ wl L2 ≤ 301 ∧ wl R2 ≤ 301) := by
  refine ef_C.of (cc := cX2_orderOfSizes) (maxL := 3) (ret := (some .int)) (by decide) rfl (Nat.le_of_ble_eq_true rfl) ?_
  intro p e s m below meth c ls hx hb hml hr hts hown hlocks hK hNX hP hD hS hl
  have hl : lv_has ls 3 [(0, .ref (q 0))] := hl
  have hown : s.vm.findClass RX2 = some m.cls := hown
  generalize hH : s.heap = H at hP ⊢
  have hS : va_S (ef_A (cC cI q (A1) (U1) (b1) (e1) (A2) (U2) (b2) (e2) (L) (R))) s.heap H [] := by rw [← hH]; exact hS
  generalize ([] : List Loc) = locs at hS ⊢
  refine lv_aload_n hx hb dX2_orderOfSizes_0 rfl (lv_at hl 0 rfl) ?_
  refine va_get (D := (dC, dI)) (ci := 2) (v := .ref (q 1)) (C := RX2) (T := TX2) (N := 4) hx hb hts (by decide +kernel) hown hK hP 0 rfl rfl 0 (by decide) (hts (.fieldLink RX2 12 "ExactFractions" "first" "LExactFractions$Fraction;") (by decide +kernel)) (fun _ h9 => h9) rfl dX2_orderOfSizes_1 ?_
  refine ef_callV (As := []) (rest := []) ⟨hx, hb, hml, hown, hts⟩ (c_rank0 l dC dI ht q hA1 hU1 hA2 hU2 hL hR) (cwV 0 hts gX2_orderOfSizes_X0_rank rfl rfl rfl (by decide +kernel) ⟨Nat.le_of_ble_eq_true rfl, Nat.le_of_ble_eq_true rfl⟩) hK hNX hP hD hS 1 rfl rfl rfl rfl hl.1 rfl (Nat.le_of_ble_eq_true rfl) dX2_orderOfSizes_4 ⟨Nat.zero_le _, Nat.zero_le _⟩ (fun o w1 H locs hq hP hD hS => ?_)
  obtain ⟨rfl, e9⟩ := hq
  rw [e9] at hP hD
  refine W.eq (g2 := F0 m 7 ls [.int (iv ((bl A1 : Int) - (bl U1 : Int) + e1))]) rfl ?_
  refine lv_aload_n hx hb dX2_orderOfSizes_7 rfl (lv_at hl 0 rfl) ?_
  refine va_get (D := (dC, dI)) (ci := 2) (v := .ref (q 2)) (C := RX2) (T := TX2) (N := 4) hx hb hts (by decide +kernel) hown hK hP 0 rfl rfl 1 (by decide) (hts (.fieldLink RX2 16 "ExactFractions" "second" "LExactFractions$Fraction;") (by decide +kernel)) (fun _ h9 => h9) rfl dX2_orderOfSizes_8 ?_
  refine ef_callV (As := []) (rest := [.int (iv ((bl A1 : Int) - (bl U1 : Int) + e1))]) ⟨hx, hb, hml, hown, hts⟩ (c_rank1 l dC dI ht q hA1 hU1 hA2 hU2 hL hR) (cwV 0 hts gX2_orderOfSizes_X0_rank rfl rfl rfl (by decide +kernel) ⟨Nat.le_of_ble_eq_true rfl, Nat.le_of_ble_eq_true rfl⟩) hK hNX hP hD hS 2 rfl rfl rfl rfl hl.1 rfl (Nat.le_of_ble_eq_true rfl) dX2_orderOfSizes_11 ⟨Nat.zero_le _, Nat.zero_le _⟩ (fun o w1 H locs hq hP hD hS => ?_)
  obtain ⟨rfl, e9⟩ := hq
  rw [e9] at hP hD
  refine W.eq (g2 := F0 m 14 ls [.int (iv ((bl A2 : Int) - (bl U2 : Int) + e2)), .int (iv ((bl A1 : Int) - (bl U1 : Int) + e1))]) rfl ?_
  refine iw_isub hx hb dX2_orderOfSizes_14 ?_
  obtain ⟨ld, hld⟩ : ∃ z, z = (bl A1 : Int) - (bl U1 : Int) + e1 - ((bl A2 : Int) - (bl U2 : Int) + e2) := ⟨_, rfl⟩
  refine iw_topi (y := iv (ld)) (congrArg iv (by omega : ((((bl A1 : Int) - (bl U1 : Int) + e1) - ((bl A2 : Int) - (bl U2 : Int) + e2)) : Int) = (ld))) ?_
  refine lv_istore_n (lv' := [(1, .int (iv (ld))), (0, .ref (q 0))]) hx hb dX2_orderOfSizes_15 rfl hl (by decide) rfl (fun ls hl => ?_)
  refine lv_iload_n hx hb dX2_orderOfSizes_16 rfl (lv_at hl 0 rfl) ?_
  refine lv_iconst (v := iv (1)) hx hb dX2_orderOfSizes_17 (by decide) ?_
  refine iw_icmp_gt (tgt := 26) hx hb dX2_orderOfSizes_18 (by decide) ⟨by omega, by omega⟩ ⟨by omega, by omega⟩ (fun c1 => ?_) (fun c1 => ?_)
  ·
    refine lv_iload_n hx hb dX2_orderOfSizes_26 rfl (lv_at hl 0 rfl) ?_
    refine iw_if_ge (tgt := 34) hx hb dX2_orderOfSizes_27 (by decide) ⟨by omega, by omega⟩ (fun c2 => ?_) (fun c2 => ?_)
    ·
      refine lv_iconst (v := iv (1)) hx hb dX2_orderOfSizes_34 (by decide) ?_
      exact ef_iret hx hb hr hlocks hP hD hS dX2_orderOfSizes_35 (by rw [scmp_gt nA1 nU2 (by omega) (by omega) (by omega)]; exact ⟨_, _, rfl, rfl, hL, hR⟩)
    ·
      exact absurd c2 (by omega)
  ·
    refine lv_iload_n hx hb dX2_orderOfSizes_21 rfl (lv_at hl 0 rfl) ?_
    refine lv_iconst (v := iv (-1)) hx hb dX2_orderOfSizes_22 (by decide) ?_
    refine iw_icmp_ge (tgt := 36) hx hb dX2_orderOfSizes_23 (by decide) ⟨by omega, by omega⟩ ⟨by omega, by omega⟩ (fun c3 => ?_) (fun c3 => ?_)
    ·
      refine lv_aload_n hx hb dX2_orderOfSizes_36 rfl (lv_at hl 1 rfl) ?_
      refine va_get (D := (dC, dI)) (ci := 2) (v := .ref (q 11)) (C := RX2) (T := TX2) (N := 4) hx hb hts (by decide +kernel) hown hK hP 0 rfl rfl 2 (by decide) (hts (.fieldLink RX2 22 "ExactFractions" "left" "LExactFractions$Whole;") (by decide +kernel)) (fun _ h9 => h9) rfl dX2_orderOfSizes_37 ?_
      refine lv_aload_n hx hb dX2_orderOfSizes_40 rfl (lv_at hl 1 rfl) ?_
      refine va_get (D := (dC, dI)) (ci := 2) (v := .ref (q 1)) (C := RX2) (T := TX2) (N := 4) hx hb hts (by decide +kernel) hown hK hP 0 rfl rfl 0 (by decide) (hts (.fieldLink RX2 12 "ExactFractions" "first" "LExactFractions$Fraction;") (by decide +kernel)) (fun _ h9 => h9) rfl dX2_orderOfSizes_41 ?_
      refine va_get (D := (dC, dI)) (ci := 0) (v := .ref (q 3)) (C := RX0) (T := TX0) (N := 4) hx hb hts (by decide +kernel) hown hK hP 1 rfl rfl 0 (by decide) (hts (.fieldLink RX2 65 "ExactFractions$Fraction" "above" "LExactFractions$Whole;") (by decide +kernel)) (fun _ h9 => h9) rfl dX2_orderOfSizes_44 ?_
      refine lv_aload_n hx hb dX2_orderOfSizes_47 rfl (lv_at hl 1 rfl) ?_
      refine va_get (D := (dC, dI)) (ci := 2) (v := .ref (q 2)) (C := RX2) (T := TX2) (N := 4) hx hb hts (by decide +kernel) hown hK hP 0 rfl rfl 1 (by decide) (hts (.fieldLink RX2 16 "ExactFractions" "second" "LExactFractions$Fraction;") (by decide +kernel)) (fun _ h9 => h9) rfl dX2_orderOfSizes_48 ?_
      refine va_get (D := (dC, dI)) (ci := 0) (v := .ref (q 9)) (C := RX0) (T := TX0) (N := 4) hx hb hts (by decide +kernel) hown hK hP 2 rfl rfl 1 (by decide) (hts (.fieldLink RX2 103 "ExactFractions$Fraction" "under" "LExactFractions$Whole;") (by decide +kernel)) (fun _ h9 => h9) rfl dX2_orderOfSizes_51 ?_
      refine ef_callV (As := [.ref (q 3), .ref (q 9)]) (rest := []) ⟨hx, hb, hml, hown, hts⟩ (c_product l dC dI ht (isW_c (X := L) (ws := cC cI q (A1) (U1) (b1) (e1) (A2) (U2) (b2) (e2) (L) (R)) (k0 := 11) (k1 := 12) (by decide) rfl rfl) hL (wd_lt _) wd_z (isW_c (X := A1) (ws := cC cI q (A1) (U1) (b1) (e1) (A2) (U2) (b2) (e2) (L) (R)) (k0 := 3) (k1 := 4) (by decide) rfl rfl) (by omega) (apt_c (k0 := 11) (k1 := 12) (j0 := 3) (j1 := 4) rfl) (isW_c (X := U2) (ws := cC cI q (A1) (U1) (b1) (e1) (A2) (U2) (b2) (e2) (L) (R)) (k0 := 9) (k1 := 10) (by decide) rfl rfl) (by omega) (apt_c (k0 := 11) (k1 := 12) (j0 := 9) (j1 := 10) rfl) (by omega)) (cwV 2 hts gX2_orderOfSizes_X1_becomeProduct rfl rfl rfl (by decide +kernel) ⟨Nat.le_of_ble_eq_true rfl, Nat.le_of_ble_eq_true rfl⟩) hK hNX hP hD hS 11 rfl rfl rfl rfl hl.1 rfl (Nat.le_of_ble_eq_true rfl) dX2_orderOfSizes_54 ⟨Nat.zero_le _, Nat.zero_le _⟩ (fun o w1 H locs hq hP hD hS => ?_)
      obtain ⟨rfl, rfl⟩ := hq
      have hP : va_P (dC, dI) vwCl (cC cI q (A1) (U1) (b1) (e1) (A2) (U2) (b2) (e2) (A1 * U2) (R)) H := hP
      have hD : va_D (ef_A (cC cI q (A1) (U1) (b1) (e1) (A2) (U2) (b2) (e2) (L) (R))) (cC cI q (A1) (U1) (b1) (e1) (A2) (U2) (b2) (e2) (A1 * U2) (R)) := hD
      refine W.eq (g2 := F0 m 57 ls []) rfl ?_
      refine lv_aload_n hx hb dX2_orderOfSizes_57 rfl (lv_at hl 1 rfl) ?_
      refine va_get (D := (dC, dI)) (ci := 2) (v := .ref (q 13)) (C := RX2) (T := TX2) (N := 4) hx hb hts (by decide +kernel) hown hK hP 0 rfl rfl 3 (by decide) (hts (.fieldLink RX2 26 "ExactFractions" "right" "LExactFractions$Whole;") (by decide +kernel)) (fun _ h9 => h9) rfl dX2_orderOfSizes_58 ?_
      refine lv_aload_n hx hb dX2_orderOfSizes_61 rfl (lv_at hl 1 rfl) ?_
      refine va_get (D := (dC, dI)) (ci := 2) (v := .ref (q 2)) (C := RX2) (T := TX2) (N := 4) hx hb hts (by decide +kernel) hown hK hP 0 rfl rfl 1 (by decide) (hts (.fieldLink RX2 16 "ExactFractions" "second" "LExactFractions$Fraction;") (by decide +kernel)) (fun _ h9 => h9) rfl dX2_orderOfSizes_62 ?_
      refine va_get (D := (dC, dI)) (ci := 0) (v := .ref (q 7)) (C := RX0) (T := TX0) (N := 4) hx hb hts (by decide +kernel) hown hK hP 2 rfl rfl 0 (by decide) (hts (.fieldLink RX2 65 "ExactFractions$Fraction" "above" "LExactFractions$Whole;") (by decide +kernel)) (fun _ h9 => h9) rfl dX2_orderOfSizes_65 ?_
      refine lv_aload_n hx hb dX2_orderOfSizes_68 rfl (lv_at hl 1 rfl) ?_
      refine va_get (D := (dC, dI)) (ci := 2) (v := .ref (q 1)) (C := RX2) (T := TX2) (N := 4) hx hb hts (by decide +kernel) hown hK hP 0 rfl rfl 0 (by decide) (hts (.fieldLink RX2 12 "ExactFractions" "first" "LExactFractions$Fraction;") (by decide +kernel)) (fun _ h9 => h9) rfl dX2_orderOfSizes_69 ?_
      refine va_get (D := (dC, dI)) (ci := 0) (v := .ref (q 5)) (C := RX0) (T := TX0) (N := 4) hx hb hts (by decide +kernel) hown hK hP 1 rfl rfl 1 (by decide) (hts (.fieldLink RX2 103 "ExactFractions$Fraction" "under" "LExactFractions$Whole;") (by decide +kernel)) (fun _ h9 => h9) rfl dX2_orderOfSizes_72 ?_
      refine ef_callV (As := [.ref (q 7), .ref (q 5)]) (rest := []) ⟨hx, hb, hml, hown, hts⟩ (c_product l dC dI ht (isW_c (X := R) (ws := cC cI q (A1) (U1) (b1) (e1) (A2) (U2) (b2) (e2) (A1 * U2) (R)) (k0 := 13) (k1 := 14) (by decide) rfl rfl) hR (wd_lt _) wd_z (isW_c (X := A2) (ws := cC cI q (A1) (U1) (b1) (e1) (A2) (U2) (b2) (e2) (A1 * U2) (R)) (k0 := 7) (k1 := 8) (by decide) rfl rfl) (by omega) (apt_c (k0 := 13) (k1 := 14) (j0 := 7) (j1 := 8) rfl) (isW_c (X := U1) (ws := cC cI q (A1) (U1) (b1) (e1) (A2) (U2) (b2) (e2) (A1 * U2) (R)) (k0 := 5) (k1 := 6) (by decide) rfl rfl) (by omega) (apt_c (k0 := 13) (k1 := 14) (j0 := 5) (j1 := 6) rfl) (by omega)) (cwV 2 hts gX2_orderOfSizes_X1_becomeProduct rfl rfl rfl (by decide +kernel) ⟨Nat.le_of_ble_eq_true rfl, Nat.le_of_ble_eq_true rfl⟩) hK hNX hP hD hS 13 rfl rfl rfl rfl hl.1 rfl (Nat.le_of_ble_eq_true rfl) dX2_orderOfSizes_75 ⟨Nat.zero_le _, Nat.zero_le _⟩ (fun o w1 H locs hq hP hD hS => ?_)
      obtain ⟨rfl, rfl⟩ := hq
      have hP : va_P (dC, dI) vwCl (cC cI q (A1) (U1) (b1) (e1) (A2) (U2) (b2) (e2) (A1 * U2) (A2 * U1)) H := hP
      have hD : va_D (ef_A (cC cI q (A1) (U1) (b1) (e1) (A2) (U2) (b2) (e2) (L) (R))) (cC cI q (A1) (U1) (b1) (e1) (A2) (U2) (b2) (e2) (A1 * U2) (A2 * U1)) := hD
      refine W.eq (g2 := F0 m 78 ls []) rfl ?_
      have bL := bl_mul_le A1 U2
      have bR := bl_mul_le A2 U1
      have nL : A1 * U2 ≠ 0 := Nat.mul_ne_zero nA1 nU2
      have nR : A2 * U1 ≠ 0 := Nat.mul_ne_zero nA2 nU1
      have wL := wl_of_bl (A1 * U2)
      have wR := wl_of_bl (A2 * U1)
      have hs : scmp A1 U1 e1 A2 U2 e2 = zc ((A1 * U2 * pw e1 : Nat) : Int) ((A2 * U1 * pw e2 : Nat) : Int) := rfl
      rw [hs]
      generalize A1 * U2 = P1 at hP hD bL nL wL ⊢
      generalize A2 * U1 = P2 at hP hD bR nR wR ⊢
      refine lv_aload_n hx hb dX2_orderOfSizes_78 rfl (lv_at hl 1 rfl) ?_
      refine va_get (D := (dC, dI)) (ci := 2) (v := .ref (q 11)) (C := RX2) (T := TX2) (N := 4) hx hb hts (by decide +kernel) hown hK hP 0 rfl rfl 2 (by decide) (hts (.fieldLink RX2 22 "ExactFractions" "left" "LExactFractions$Whole;") (by decide +kernel)) (fun _ h9 => h9) rfl dX2_orderOfSizes_79 ?_
      refine ef_callV (As := []) (rest := []) ⟨hx, hb, hml, hown, hts⟩ (c_length l dC dI ht (isW_c (X := P1) (ws := cC cI q (A1) (U1) (b1) (e1) (A2) (U2) (b2) (e2) (P1) (P2)) (k0 := 11) (k1 := 12) (by decide) rfl rfl) (by omega)) (cwV 0 hts gX2_orderOfSizes_X1_length rfl rfl rfl (by decide +kernel) ⟨Nat.le_of_ble_eq_true rfl, Nat.le_of_ble_eq_true rfl⟩) hK hNX hP hD hS 11 rfl rfl rfl rfl hl.1 rfl (Nat.le_of_ble_eq_true rfl) dX2_orderOfSizes_82 ⟨Nat.zero_le _, Nat.zero_le _⟩ (fun o w1 H locs hq hP hD hS => ?_)
      obtain ⟨rfl, e9⟩ := hq
      rw [e9] at hP hD
      refine W.eq (g2 := F0 m 85 ls [.int (iv ((bl P1 : Int)))]) rfl ?_
      refine lv_aload_n hx hb dX2_orderOfSizes_85 rfl (lv_at hl 1 rfl) ?_
      refine va_get (D := (dC, dI)) (ci := 2) (v := .ref (q 13)) (C := RX2) (T := TX2) (N := 4) hx hb hts (by decide +kernel) hown hK hP 0 rfl rfl 3 (by decide) (hts (.fieldLink RX2 26 "ExactFractions" "right" "LExactFractions$Whole;") (by decide +kernel)) (fun _ h9 => h9) rfl dX2_orderOfSizes_86 ?_
      refine ef_callV (As := []) (rest := [.int (iv ((bl P1 : Int)))]) ⟨hx, hb, hml, hown, hts⟩ (c_length l dC dI ht (isW_c (X := P2) (ws := cC cI q (A1) (U1) (b1) (e1) (A2) (U2) (b2) (e2) (P1) (P2)) (k0 := 13) (k1 := 14) (by decide) rfl rfl) (by omega)) (cwV 0 hts gX2_orderOfSizes_X1_length rfl rfl rfl (by decide +kernel) ⟨Nat.le_of_ble_eq_true rfl, Nat.le_of_ble_eq_true rfl⟩) hK hNX hP hD hS 13 rfl rfl rfl rfl hl.1 rfl (Nat.le_of_ble_eq_true rfl) dX2_orderOfSizes_89 ⟨Nat.zero_le _, Nat.zero_le _⟩ (fun o w1 H locs hq hP hD hS => ?_)
      obtain ⟨rfl, e9⟩ := hq
      rw [e9] at hP hD
      refine W.eq (g2 := F0 m 92 ls [.int (iv ((bl P2 : Int))), .int (iv ((bl P1 : Int)))]) rfl ?_
      refine iw_isub hx hb dX2_orderOfSizes_92 ?_
      obtain ⟨gp, hgp⟩ : ∃ z, z = (bl P1 : Int) - (bl P2 : Int) := ⟨_, rfl⟩
      refine iw_topi (y := iv (gp)) (congrArg iv (by omega : ((((bl P1 : Int)) - ((bl P2 : Int))) : Int) = (gp))) ?_
      refine lv_istore_n (lv' := [(2, .int (iv (gp))), (1, .int (iv (ld))), (0, .ref (q 0))]) hx hb dX2_orderOfSizes_93 rfl hl (by decide) rfl (fun ls hl => ?_)
      refine lv_iload_n hx hb dX2_orderOfSizes_94 rfl (lv_at hl 0 rfl) ?_
      refine lv_aload_n hx hb dX2_orderOfSizes_95 rfl (lv_at hl 2 rfl) ?_
      refine va_get (D := (dC, dI)) (ci := 2) (v := .ref (q 1)) (C := RX2) (T := TX2) (N := 4) hx hb hts (by decide +kernel) hown hK hP 0 rfl rfl 0 (by decide) (hts (.fieldLink RX2 12 "ExactFractions" "first" "LExactFractions$Fraction;") (by decide +kernel)) (fun _ h9 => h9) rfl dX2_orderOfSizes_96 ?_
      refine va_get (D := (dC, dI)) (ci := 0) (v := .int (iv (e1))) (C := RX0) (T := TX0) (N := 4) hx hb hts (by decide +kernel) hown hK hP 1 rfl rfl 3 (by decide) (hts (.fieldLink RX2 61 "ExactFractions$Fraction" "exponent" "I") (by decide +kernel)) (fun _ h9 => h9) rfl dX2_orderOfSizes_99 ?_
      refine iw_iadd hx hb dX2_orderOfSizes_102 ?_
      refine lv_aload_n hx hb dX2_orderOfSizes_103 rfl (lv_at hl 2 rfl) ?_
      refine va_get (D := (dC, dI)) (ci := 2) (v := .ref (q 2)) (C := RX2) (T := TX2) (N := 4) hx hb hts (by decide +kernel) hown hK hP 0 rfl rfl 1 (by decide) (hts (.fieldLink RX2 16 "ExactFractions" "second" "LExactFractions$Fraction;") (by decide +kernel)) (fun _ h9 => h9) rfl dX2_orderOfSizes_104 ?_
      refine va_get (D := (dC, dI)) (ci := 0) (v := .int (iv (e2))) (C := RX0) (T := TX0) (N := 4) hx hb hts (by decide +kernel) hown hK hP 2 rfl rfl 3 (by decide) (hts (.fieldLink RX2 61 "ExactFractions$Fraction" "exponent" "I") (by decide +kernel)) (fun _ h9 => h9) rfl dX2_orderOfSizes_107 ?_
      refine iw_isub hx hb dX2_orderOfSizes_110 ?_
      refine lv_istore_n (lv' := [(1, .int (iv (((gp) + (e1)) - (e2)))), (2, .int (iv (gp))), (0, .ref (q 0))]) hx hb dX2_orderOfSizes_111 rfl hl (by decide) rfl (fun ls hl => ?_)
      refine lv_iload_n hx hb dX2_orderOfSizes_112 rfl (lv_at hl 0 rfl) ?_
      refine iw_if_eq (tgt := 126) hx hb dX2_orderOfSizes_113 (by decide) ⟨by omega, by omega⟩ (fun c4 => ?_) (fun c4 => ?_)
      ·
        have hgp2 : gp = e2 - e1 := by omega
        have hdone : ∀ P Q : Nat, zc ((P1 * pw e1 : Nat) : Int) ((P2 * pw e2 : Nat) : Int) = zc (P : Int) (Q : Int) → True := fun _ _ _ => trivial
        rcases Int.lt_or_le gp 0 with hg | hg
        ·
          obtain ⟨k, hk⟩ : ∃ k : Nat, gp = -(k : Int) := ⟨(-gp).toNat, by omega⟩
          subst hk
          refine lv_aload_n hx hb dX2_orderOfSizes_126 rfl (lv_at hl 2 rfl) ?_
          refine lv_iload_n hx hb dX2_orderOfSizes_127 rfl (lv_at hl 1 rfl) ?_
          refine ef_callV (As := [.int (iv (-(k : Int)))]) (rest := []) ⟨hx, hb, hml, hown, hts⟩ (c_alignN l dC dI ht q hA1 hU1 hA2 hU2 (by omega) (by omega) k (by omega) (by omega)) (cwV 1 hts gX2_orderOfSizes_X2_alignTops rfl rfl rfl (by decide +kernel) ⟨Nat.le_of_ble_eq_true rfl, Nat.le_of_ble_eq_true rfl⟩) hK hNX hP hD hS 0 rfl rfl rfl rfl hl.1 rfl (Nat.le_of_ble_eq_true rfl) dX2_orderOfSizes_128 ⟨Nat.zero_le _, Nat.zero_le _⟩ (fun o w1 H locs hq hP hD hS => ?_)
          obtain ⟨rfl, rfl⟩ := hq
          have hP : va_P (dC, dI) vwCl (cC cI q (A1) (U1) (b1) (e1) (A2) (U2) (b2) (e2) (P1 * 2 ^ k) (P2)) H := hP
          have hD : va_D (ef_A (cC cI q (A1) (U1) (b1) (e1) (A2) (U2) (b2) (e2) (L) (R))) (cC cI q (A1) (U1) (b1) (e1) (A2) (U2) (b2) (e2) (P1 * 2 ^ k) (P2)) := hD
          refine W.eq (g2 := F0 m 131 ls []) rfl ?_
          have hw9 : wl (P1 * 2 ^ k) ≤ 301 := wl_le (by
            have h1 := bl_lt P1
            have h2 : P1 * 2 ^ k < 2 ^ (bl P1 + k) := by rw [Nat.pow_add]; exact Nat.mul_lt_mul_of_pos_right h1 (Nat.pow_pos (by decide))
            exact Nat.lt_of_lt_of_le h2 (Nat.pow_le_pow_right (by decide) (by omega)))
          have hz9 : zc ((P1 * pw e1 : Nat) : Int) ((P2 * pw e2 : Nat) : Int) = zc ((P1 * 2 ^ k : Nat) : Int) (P2 : Int) := by
            rw [show e1 = e2 + (k : Int) by omega, pw_add (by omega), Nat.mul_comm (pw e2), ← Nat.mul_assoc, zc_mul (pw_pos e2)]
          refine lv_aload_n hx hb dX2_orderOfSizes_131 rfl (lv_at hl 2 rfl) ?_
          refine va_get (D := (dC, dI)) (ci := 2) (v := .ref (q 11)) (C := RX2) (T := TX2) (N := 4) hx hb hts (by decide +kernel) hown hK hP 0 rfl rfl 2 (by decide) (hts (.fieldLink RX2 22 "ExactFractions" "left" "LExactFractions$Whole;") (by decide +kernel)) (fun _ h9 => h9) rfl dX2_orderOfSizes_132 ?_
          refine lv_aload_n hx hb dX2_orderOfSizes_135 rfl (lv_at hl 2 rfl) ?_
          refine va_get (D := (dC, dI)) (ci := 2) (v := .ref (q 13)) (C := RX2) (T := TX2) (N := 4) hx hb hts (by decide +kernel) hown hK hP 0 rfl rfl 3 (by decide) (hts (.fieldLink RX2 26 "ExactFractions" "right" "LExactFractions$Whole;") (by decide +kernel)) (fun _ h9 => h9) rfl dX2_orderOfSizes_136 ?_
          refine ef_callV (As := [.ref (q 13)]) (rest := []) ⟨hx, hb, hml, hown, hts⟩ (c_order l dC dI ht (isW_c (X := P1 * 2 ^ k) (ws := cC cI q (A1) (U1) (b1) (e1) (A2) (U2) (b2) (e2) (P1 * 2 ^ k) (P2)) (k0 := 11) (k1 := 12) (by decide) rfl rfl) hw9 (isW_c (X := P2) (ws := cC cI q (A1) (U1) (b1) (e1) (A2) (U2) (b2) (e2) (P1 * 2 ^ k) (P2)) (k0 := 13) (k1 := 14) (by decide) rfl rfl) (by omega)) (cwV 1 hts gX2_orderOfSizes_X1_order rfl rfl rfl (by decide +kernel) ⟨Nat.le_of_ble_eq_true rfl, Nat.le_of_ble_eq_true rfl⟩) hK hNX hP hD hS 11 rfl rfl rfl rfl hl.1 rfl (Nat.le_of_ble_eq_true rfl) dX2_orderOfSizes_139 ⟨Nat.zero_le _, Nat.zero_le _⟩ (fun o w1 H locs hq hP hD hS => ?_)
          obtain ⟨rfl, e9⟩ := hq
          rw [e9] at hP hD
          refine W.eq (g2 := F0 m 142 ls [.int (iv (zc ((P1 * 2 ^ k : Nat) : Int) ((P2 : Nat) : Int)))]) rfl ?_
          exact ef_iret hx hb hr hlocks hP hD hS dX2_orderOfSizes_142 (by rw [hz9]; exact ⟨_, _, rfl, rfl, hw9, by omega⟩)
        ·
          obtain ⟨k, hk⟩ : ∃ k : Nat, gp = (k : Int) := ⟨gp.toNat, by omega⟩
          subst hk
          refine lv_aload_n hx hb dX2_orderOfSizes_126 rfl (lv_at hl 2 rfl) ?_
          refine lv_iload_n hx hb dX2_orderOfSizes_127 rfl (lv_at hl 1 rfl) ?_
          refine ef_callV (As := [.int (iv ((k : Int)))]) (rest := []) ⟨hx, hb, hml, hown, hts⟩ (c_alignP l dC dI ht q hA1 hU1 hA2 hU2 (by omega) (by omega) k (by omega)) (cwV 1 hts gX2_orderOfSizes_X2_alignTops rfl rfl rfl (by decide +kernel) ⟨Nat.le_of_ble_eq_true rfl, Nat.le_of_ble_eq_true rfl⟩) hK hNX hP hD hS 0 rfl rfl rfl rfl hl.1 rfl (Nat.le_of_ble_eq_true rfl) dX2_orderOfSizes_128 ⟨Nat.zero_le _, Nat.zero_le _⟩ (fun o w1 H locs hq hP hD hS => ?_)
          obtain ⟨rfl, rfl⟩ := hq
          have hP : va_P (dC, dI) vwCl (cC cI q (A1) (U1) (b1) (e1) (A2) (U2) (b2) (e2) (P1) (P2 * 2 ^ k)) H := hP
          have hD : va_D (ef_A (cC cI q (A1) (U1) (b1) (e1) (A2) (U2) (b2) (e2) (L) (R))) (cC cI q (A1) (U1) (b1) (e1) (A2) (U2) (b2) (e2) (P1) (P2 * 2 ^ k)) := hD
          refine W.eq (g2 := F0 m 131 ls []) rfl ?_
          have hw9 : wl (P2 * 2 ^ k) ≤ 301 := wl_le (by
            have h1 := bl_lt P2
            have h2 : P2 * 2 ^ k < 2 ^ (bl P2 + k) := by rw [Nat.pow_add]; exact Nat.mul_lt_mul_of_pos_right h1 (Nat.pow_pos (by decide))
            exact Nat.lt_of_lt_of_le h2 (Nat.pow_le_pow_right (by decide) (by omega)))
          have hz9 : zc ((P1 * pw e1 : Nat) : Int) ((P2 * pw e2 : Nat) : Int) = zc (P1 : Int) ((P2 * 2 ^ k : Nat) : Int) := by
            rw [show e2 = e1 + (k : Int) by omega, pw_add (by omega), Nat.mul_comm (pw e1), ← Nat.mul_assoc, zc_mul (pw_pos e1)]
          refine lv_aload_n hx hb dX2_orderOfSizes_131 rfl (lv_at hl 2 rfl) ?_
          refine va_get (D := (dC, dI)) (ci := 2) (v := .ref (q 11)) (C := RX2) (T := TX2) (N := 4) hx hb hts (by decide +kernel) hown hK hP 0 rfl rfl 2 (by decide) (hts (.fieldLink RX2 22 "ExactFractions" "left" "LExactFractions$Whole;") (by decide +kernel)) (fun _ h9 => h9) rfl dX2_orderOfSizes_132 ?_
          refine lv_aload_n hx hb dX2_orderOfSizes_135 rfl (lv_at hl 2 rfl) ?_
          refine va_get (D := (dC, dI)) (ci := 2) (v := .ref (q 13)) (C := RX2) (T := TX2) (N := 4) hx hb hts (by decide +kernel) hown hK hP 0 rfl rfl 3 (by decide) (hts (.fieldLink RX2 26 "ExactFractions" "right" "LExactFractions$Whole;") (by decide +kernel)) (fun _ h9 => h9) rfl dX2_orderOfSizes_136 ?_
          refine ef_callV (As := [.ref (q 13)]) (rest := []) ⟨hx, hb, hml, hown, hts⟩ (c_order l dC dI ht (isW_c (X := P1) (ws := cC cI q (A1) (U1) (b1) (e1) (A2) (U2) (b2) (e2) (P1) (P2 * 2 ^ k)) (k0 := 11) (k1 := 12) (by decide) rfl rfl) (by omega) (isW_c (X := P2 * 2 ^ k) (ws := cC cI q (A1) (U1) (b1) (e1) (A2) (U2) (b2) (e2) (P1) (P2 * 2 ^ k)) (k0 := 13) (k1 := 14) (by decide) rfl rfl) hw9) (cwV 1 hts gX2_orderOfSizes_X1_order rfl rfl rfl (by decide +kernel) ⟨Nat.le_of_ble_eq_true rfl, Nat.le_of_ble_eq_true rfl⟩) hK hNX hP hD hS 11 rfl rfl rfl rfl hl.1 rfl (Nat.le_of_ble_eq_true rfl) dX2_orderOfSizes_139 ⟨Nat.zero_le _, Nat.zero_le _⟩ (fun o w1 H locs hq hP hD hS => ?_)
          obtain ⟨rfl, e9⟩ := hq
          rw [e9] at hP hD
          refine W.eq (g2 := F0 m 142 ls [.int (iv (zc ((P1 : Nat) : Int) ((P2 * 2 ^ k : Nat) : Int)))]) rfl ?_
          exact ef_iret hx hb hr hlocks hP hD hS dX2_orderOfSizes_142 (by rw [hz9]; exact ⟨_, _, rfl, rfl, by omega, hw9⟩)
      ·
        refine lv_iload_n hx hb dX2_orderOfSizes_116 rfl (lv_at hl 0 rfl) ?_
        refine iw_if_ge (tgt := 124) hx hb dX2_orderOfSizes_117 (by decide) ⟨by omega, by omega⟩ (fun c5 => ?_) (fun c5 => ?_)
        ·
          have q3 := cmp_bl (X := P2) (Y := P1) nL (by omega : -20000 ≤ e2) (by omega : -20000 ≤ e1) (by omega)
          refine lv_iconst (v := iv (1)) hx hb dX2_orderOfSizes_124 (by decide) ?_
          exact ef_iret hx hb hr hlocks hP hD hS dX2_orderOfSizes_125 (by rw [zc_gt (by omega)]; exact ⟨_, _, rfl, rfl, by omega, by omega⟩)
        ·
          have q3 := cmp_bl (X := P1) (Y := P2) nR (by omega : -20000 ≤ e1) (by omega : -20000 ≤ e2) (by omega)
          refine lv_iconst (v := iv (-1)) hx hb dX2_orderOfSizes_120 (by decide) ?_
          refine lv_goto (tgt := 125) hx hb dX2_orderOfSizes_121 (by decide) ?_
          exact ef_iret hx hb hr hlocks hP hD hS dX2_orderOfSizes_125 (by rw [zc_lt (by omega)]; exact ⟨_, _, rfl, rfl, by omega, by omega⟩)
    ·
      refine lv_iload_n hx hb dX2_orderOfSizes_26 rfl (lv_at hl 0 rfl) ?_
      refine iw_if_ge (tgt := 34) hx hb dX2_orderOfSizes_27 (by decide) ⟨by omega, by omega⟩ (fun c6 => ?_) (fun c6 => ?_)
      ·
        exact absurd c6 (by omega)
      ·
        refine lv_iconst (v := iv (-1)) hx hb dX2_orderOfSizes_30 (by decide) ?_
        refine lv_goto (tgt := 35) hx hb dX2_orderOfSizes_31 (by decide) ?_
        exact ef_iret hx hb hr hlocks hP hD hS dX2_orderOfSizes_35 (by rw [scmp_lt nA2 nU1 (by omega) (by omega) (by omega)]; exact ⟨_, _, rfl, rfl, hL, hR⟩)

set_option maxRecDepth 100000 in
set_option maxHeartbeats 4000000 in
/-- compare -/
theorem c_compare (l : Launch) (dC : Nat → ClassId) (dI : Nat → Nat → Nat) {cI : ClassId} {tys : List (ClassId × FieldType)} (ht : tys[0]? = some (cI, .int)) (q : Nat → Nat) {A1 U1 A2 U2 L R : Nat} {b1 e1 b2 e2 : Int} (hA1 : wl A1 ≤ 150) (hU1 : wl U1 ≤ 150) (hA2 : wl A2 ≤ 150) (hU2 : wl U2 ≤ 150) (hL : wl L ≤ 301) (hR : wl R ≤ 301) (bA1 : bl A1 ≤ 4800) (bU1 : bl U1 ≤ 4800) (bA2 : bl A2 ≤ 4800) (bU2 : bl U2 ≤ 4800) (le1 : -12000 ≤ e1) (ge1 : e1 ≤ 12000) (le2 : -12000 ≤ e2) (ge2 : e2 ≤ 12000) (nU1 : U1 ≠ 0) (nU2 : U2 ≠ 0) (hb1 : b1 = 0 ∨ b1 = 1) (hb2 : b2 = 0 ∨ b2 = 1) : ef_C l yX2_compare wsX2_compare ({ frames := 5, cells := 0, slots := 0, locals := 115 } : Room) [.ref (q 0)] (dC, dI) vwCl tys (cC cI q (A1) (U1) (b1) (e1) (A2) (U2) (b2) (e2) (L) (R)) (fun o w1 => ∃ L2 R2 : Nat, o = some (.int (iv (ccmp A1 U1 b1 e1 A2 U2 b2 e2))) ∧ w1 = cC cI q (A1) (U1) (b1) (e1) (A2) (U2) (b2) (e2) (L2) (R2) ∧ wl L2 ≤ 301 ∧ wl R2 ≤ 301) := by
  refine ef_C.of (cc := cX2_compare) (maxL := 3) (ret := (some .int)) (by decide) rfl (Nat.le_of_ble_eq_true rfl) ?_
  intro p e s m below meth c ls hx hb hml hr hts hown hlocks hK hNX hP hD hS hl
  have hl : lv_has ls 3 [(0, .ref (q 0))] := hl
  have hown : s.vm.findClass RX2 = some m.cls := hown
  generalize hH : s.heap = H at hP ⊢
  have hS : va_S (ef_A (cC cI q (A1) (U1) (b1) (e1) (A2) (U2) (b2) (e2) (L) (R))) s.heap H [] := by rw [← hH]; exact hS
  generalize ([] : List Loc) = locs at hS ⊢
  refine lv_aload_n hx hb dX2_compare_0 rfl (lv_at hl 0 rfl) ?_
  refine va_get (D := (dC, dI)) (ci := 2) (v := .ref (q 1)) (C := RX2) (T := TX2) (N := 4) hx hb hts (by decide +kernel) hown hK hP 0 rfl rfl 0 (by decide) (hts (.fieldLink RX2 12 "ExactFractions" "first" "LExactFractions$Fraction;") (by decide +kernel)) (fun _ h9 => h9) rfl dX2_compare_1 ?_
  refine ef_callV (As := []) (rest := []) ⟨hx, hb, hml, hown, hts⟩ (c_sign0 l dC dI ht q hA1 hU1 hA2 hU2 hL hR hb1) (cwV 0 hts gX2_compare_X0_sign rfl rfl rfl (by decide +kernel) ⟨Nat.le_of_ble_eq_true rfl, Nat.le_of_ble_eq_true rfl⟩) hK hNX hP hD hS 1 rfl rfl rfl rfl hl.1 rfl (Nat.le_of_ble_eq_true rfl) dX2_compare_4 ⟨Nat.zero_le _, Nat.zero_le _⟩ (fun o w1 H locs hq hP hD hS => ?_)
  obtain ⟨rfl, e9⟩ := hq
  rw [e9] at hP hD
  refine W.eq (g2 := F0 m 7 ls [.int (iv (sgn A1 b1))]) rfl ?_
  refine lv_istore_n (lv' := [(1, .int (iv (sgn A1 b1))), (0, .ref (q 0))]) hx hb dX2_compare_7 rfl hl (by decide) rfl (fun ls hl => ?_)
  refine lv_aload_n hx hb dX2_compare_8 rfl (lv_at hl 1 rfl) ?_
  refine va_get (D := (dC, dI)) (ci := 2) (v := .ref (q 2)) (C := RX2) (T := TX2) (N := 4) hx hb hts (by decide +kernel) hown hK hP 0 rfl rfl 1 (by decide) (hts (.fieldLink RX2 16 "ExactFractions" "second" "LExactFractions$Fraction;") (by decide +kernel)) (fun _ h9 => h9) rfl dX2_compare_9 ?_
  refine ef_callV (As := []) (rest := []) ⟨hx, hb, hml, hown, hts⟩ (c_sign1 l dC dI ht q hA1 hU1 hA2 hU2 hL hR hb2) (cwV 0 hts gX2_compare_X0_sign rfl rfl rfl (by decide +kernel) ⟨Nat.le_of_ble_eq_true rfl, Nat.le_of_ble_eq_true rfl⟩) hK hNX hP hD hS 2 rfl rfl rfl rfl hl.1 rfl (Nat.le_of_ble_eq_true rfl) dX2_compare_12 ⟨Nat.zero_le _, Nat.zero_le _⟩ (fun o w1 H locs hq hP hD hS => ?_)
  obtain ⟨rfl, e9⟩ := hq
  rw [e9] at hP hD
  refine W.eq (g2 := F0 m 15 ls [.int (iv (sgn A2 b2))]) rfl ?_
  have r1 := sgn_r A1 b1
  have r2 := sgn_r A2 b2
  refine lv_istore_n (lv' := [(2, .int (iv (sgn A2 b2))), (1, .int (iv (sgn A1 b1))), (0, .ref (q 0))]) hx hb dX2_compare_15 rfl hl (by decide) rfl (fun ls hl => ?_)
  refine lv_iload_n hx hb dX2_compare_16 rfl (lv_at hl 1 rfl) ?_
  refine lv_iload_n hx hb dX2_compare_17 rfl (lv_at hl 0 rfl) ?_
  refine iw_icmp_eq (tgt := 32) hx hb dX2_compare_18 (by decide) (sgn_ir A1 b1) (sgn_ir A2 b2) (fun c1 => ?_) (fun c1 => ?_)
  ·
    refine lv_iload_n hx hb dX2_compare_32 rfl (lv_at hl 1 rfl) ?_
    refine iw_if_ne (tgt := 40) hx hb dX2_compare_33 (by decide) (sgn_ir A1 b1) (fun c2 => ?_) (fun c2 => ?_)
    ·
      have nA1 : A1 ≠ 0 := fun q => c2 (by unfold sgn; rw [if_pos q])
      have nA2 : A2 ≠ 0 := fun q => c2 (by rw [c1]; unfold sgn; rw [if_pos q])
      refine lv_iload_n hx hb dX2_compare_40 rfl (lv_at hl 1 rfl) ?_
      refine lv_aload_n hx hb dX2_compare_41 rfl (lv_at hl 2 rfl) ?_
      refine ef_callV (As := []) (rest := [.int (iv (sgn A1 b1))]) ⟨hx, hb, hml, hown, hts⟩ (c_orderOfSizes l dC dI ht q hA1 hU1 hA2 hU2 hL hR bA1 bU1 bA2 bU2 le1 ge1 le2 ge2 nA1 nU1 nA2 nU2) (cwV 0 hts gX2_compare_X2_orderOfSizes rfl rfl rfl (by decide +kernel) ⟨Nat.le_of_ble_eq_true rfl, Nat.le_of_ble_eq_true rfl⟩) hK hNX hP hD hS 0 rfl rfl rfl rfl hl.1 rfl (Nat.le_of_ble_eq_true rfl) dX2_compare_42 ⟨Nat.zero_le _, Nat.zero_le _⟩ (fun o w1 H locs hq hP hD hS => ?_)
      obtain ⟨L2, R2, rfl, rfl, hL2, hR2⟩ := hq
      have hP : va_P (dC, dI) vwCl (cC cI q (A1) (U1) (b1) (e1) (A2) (U2) (b2) (e2) (L2) (R2)) H := hP
      have hD : va_D (ef_A (cC cI q (A1) (U1) (b1) (e1) (A2) (U2) (b2) (e2) (L) (R))) (cC cI q (A1) (U1) (b1) (e1) (A2) (U2) (b2) (e2) (L2) (R2)) := hD
      refine W.eq (g2 := F0 m 45 ls [.int (iv (scmp A1 U1 e1 A2 U2 e2)), .int (iv (sgn A1 b1))]) rfl ?_
      refine iw_imul hx hb dX2_compare_45 ?_
      exact ef_iret hx hb hr hlocks hP hD hS dX2_compare_46 (by unfold ccmp; rw [if_neg (by omega), if_neg (by omega), if_neg c2]; exact ⟨_, _, rfl, rfl, hL2, hR2⟩)
    ·
      refine lv_iconst (v := iv (0)) hx hb dX2_compare_36 (by decide) ?_
      refine lv_goto (tgt := 46) hx hb dX2_compare_37 (by decide) ?_
      exact ef_iret hx hb hr hlocks hP hD hS dX2_compare_46 (by unfold ccmp; rw [if_neg (by omega), if_neg (by omega), if_pos c2]; exact ⟨_, _, rfl, rfl, hL, hR⟩)
  ·
    refine lv_iload_n hx hb dX2_compare_21 rfl (lv_at hl 1 rfl) ?_
    refine lv_iload_n hx hb dX2_compare_22 rfl (lv_at hl 0 rfl) ?_
    refine iw_icmp_ge (tgt := 30) hx hb dX2_compare_23 (by decide) (sgn_ir A1 b1) (sgn_ir A2 b2) (fun c3 => ?_) (fun c3 => ?_)
    ·
      refine lv_iconst (v := iv (1)) hx hb dX2_compare_30 (by decide) ?_
      exact ef_iret hx hb hr hlocks hP hD hS dX2_compare_31 (by unfold ccmp; rw [if_neg (by omega), if_pos (by omega)]; exact ⟨_, _, rfl, rfl, hL, hR⟩)
    ·
      refine lv_iconst (v := iv (-1)) hx hb dX2_compare_26 (by decide) ?_
      refine lv_goto (tgt := 31) hx hb dX2_compare_27 (by decide) ?_
      exact ef_iret hx hb hr hlocks hP hD hS dX2_compare_31 (by unfold ccmp; rw [if_pos (by omega)]; exact ⟨_, _, rfl, rfl, hL, hR⟩)
end
section
/-! Floats of 64 bits by their order m (sign aside): fv m is the float's value times 2 ^ 1074 -/
def fv (m : Nat) : Nat := if m / 4503599627370496 = 0 then m else (4503599627370496 + m % 4503599627370496) * 2 ^ (m / 4503599627370496 - 1)
def fle (m A U : Nat) (e : Int) : Prop := fv m * U * pw (-1074) ≤ A * pw e
def feq (m A U : Nat) (e : Int) : Prop := fv m * U * pw (-1074) = A * pw e
def isFl (s A U : Nat) (e : Int) : Prop := s ≤ 9218868437227405311 ∧ fle s A U e ∧ (s < 9218868437227405311 → ¬ fle (s + 1) A U e)
def rsz (A U : Nat) (e aw : Int) (z : Nat) : Prop := ∃ s, isFl s A U e ∧ ((aw = 0 ∨ feq s A U e) ∧ z = s ∨ (aw ≠ 0 ∧ ¬ feq s A U e) ∧ z = s + 1)
/-- in the normal range: f from 2 ^ 52 to 2 ^ 53, scaled -/
theorem fv_norm {f t : Nat} (h1 : 4503599627370496 ≤ f) (h2 : f ≤ 9007199254740992) : fv (f + t * 4503599627370496) = f * 2 ^ t := by
  unfold fv
  rcases Nat.lt_or_ge f 9007199254740992 with h3 | h3
  · have e1 : (f + t * 4503599627370496) / 4503599627370496 = t + 1 := by omega
    have e2 : (f + t * 4503599627370496) % 4503599627370496 = f - 4503599627370496 := by omega
    rw [e1, e2, if_neg (by omega), show t + 1 - 1 = t by omega, show 4503599627370496 + (f - 4503599627370496) = f by omega]
  · have e0 : f = 9007199254740992 := by omega
    have e1 : (f + t * 4503599627370496) / 4503599627370496 = t + 2 := by omega
    have e2 : (f + t * 4503599627370496) % 4503599627370496 = 0 := by omega
    rw [e1, e2, if_neg (by omega), show t + 2 - 1 = t + 1 by omega, e0, Nat.pow_succ]
    omega
theorem fv_small {f : Nat} (h : f ≤ 9007199254740992) : fv f = f := by
  rcases Nat.lt_or_ge f 4503599627370496 with h1 | h1
  · unfold fv
    rw [if_pos (by omega)]
  · have := fv_norm (t := 0) h1 h
    rw [Nat.zero_mul, Nat.add_zero, Nat.pow_zero, Nat.mul_one] at this
    exact this
theorem fv_succ (m : Nat) : fv m < fv (m + 1) := by
  rcases Nat.lt_or_ge m 4503599627370496 with h | h
  · rw [fv_small (by omega), fv_small (by omega)]; omega
  · obtain ⟨f, t, hf1, hf2, e⟩ : ∃ f t, 4503599627370496 ≤ f ∧ f < 9007199254740992 ∧ m = f + t * 4503599627370496 := ⟨4503599627370496 + m % 4503599627370496, m / 4503599627370496 - 1, by omega, by omega, by omega⟩
    have e2 : m + 1 = (f + 1) + t * 4503599627370496 := by omega
    rw [e2, e, fv_norm hf1 (by omega), fv_norm (by omega) (by omega)]
    exact Nat.mul_lt_mul_of_pos_right (by omega) (Nat.pow_pos (by decide))
theorem fv_mono {m n : Nat} (h : m ≤ n) : fv m ≤ fv n := by
  induction n with
  | zero => rw [show m = 0 by omega]; exact Nat.le_refl _
  | succ n ih =>
    rcases Nat.lt_or_ge n m with h1 | h1
    · rw [show m = n + 1 by omega]; exact Nat.le_refl _
    · exact Nat.le_trans (ih h1) (Nat.le_of_lt (fv_succ n))
theorem fle_mono {m n A U : Nat} {e : Int} (h : m ≤ n) (hn : fle n A U e) : fle m A U e := Nat.le_trans (Nat.mul_le_mul_right _ (Nat.mul_le_mul_right _ (fv_mono h))) hn
theorem isFl_uniq {s t A U : Nat} {e : Int} (hs : isFl s A U e) (ht : isFl t A U e) : s = t := by
  rcases Nat.lt_trichotomy s t with h | h | h
  · exact absurd (fle_mono (show s + 1 ≤ t by omega) ht.2.1) (hs.2.2 (by have := ht.1; omega))
  · exact h
  · exact absurd (fle_mono (show t + 1 ≤ s by omega) hs.2.1) (ht.2.2 (by have := hs.1; omega))
theorem rsz_uniq {A U : Nat} {e aw : Int} {z y : Nat} (hz : rsz A U e aw z) (hy : rsz A U e aw y) : z = y := by
  obtain ⟨s, h1, h2⟩ := hz
  obtain ⟨t, h3, h4⟩ := hy
  have := isFl_uniq h1 h3
  subst this
  rcases h2 with ⟨ha, rfl⟩ | ⟨ha, rfl⟩ <;> rcases h4 with ⟨hb, rfl⟩ | ⟨hb, rfl⟩
  · rfl
  · rcases ha with h | h
    · exact absurd h hb.1
    · exact absurd h hb.2
  · rcases hb with h | h
    · exact absurd h ha.1
    · exact absurd h ha.2
  · rfl
/-- the size is laid out as L / R * 2 ^ P: then g * 2 ^ t is compared by g * R and L * 2 ^ (P - t) -/
theorem lay_le {A U L R : Nat} {e P t : Int} {d : Nat} (hU : U ≠ 0) (hR : R ≠ 0) (hrel : A * R * pw e = L * U * pw P) (ht : -20000 ≤ t) (hP : P = t + (d : Int)) (g : Nat) : (g * U * pw t ≤ A * pw e ↔ g * R ≤ L * 2 ^ d) ∧ (g * U * pw t = A * pw e ↔ g * R = L * 2 ^ d) := by
  have hpw : pw P = pw t * 2 ^ d := by rw [hP, pw_add ht]
  have hc : 0 < U * pw t := Nat.mul_pos (by omega) (pw_pos t)
  have e1 : g * U * pw t * R = (g * R) * (U * pw t) := by
    rw [Nat.mul_assoc g, Nat.mul_right_comm]
  have e2 : A * pw e * R = (L * 2 ^ d) * (U * pw t) := by
    rw [Nat.mul_right_comm, hrel, hpw, Nat.mul_assoc L U, ← Nat.mul_assoc U, Nat.mul_assoc L (2 ^ d), Nat.mul_comm (2 ^ d)]
  have hR0 : 0 < R := by omega
  constructor
  · rw [← Nat.mul_le_mul_right_iff hR0, e1, e2, Nat.mul_le_mul_right_iff hc]
  · rw [← Nat.mul_left_inj (a := R) (by omega), e1, e2, Nat.mul_left_inj (by omega)]
end
section
theorem bl_shift {X : Nat} (h : X ≠ 0) (k : Nat) : bl (X * 2 ^ k) = bl X + k := by
  have h0 : bl X ≠ 0 := fun q => h (bl_0.1 q)
  apply bl_eq
  · rw [Nat.pow_add]
    exact Nat.mul_lt_mul_of_pos_right (bl_lt X) (Nat.pow_pos (by decide))
  · right
    rw [show bl X + k - 1 = bl X - 1 + k by omega, Nat.pow_add]
    exact Nat.mul_le_mul_right _ (bl_ge h)
theorem bl_same {X Y : Nat} (hX : X ≠ 0) (h : bl X = bl Y) : Y < 2 * X := by
  have h0 : bl X ≠ 0 := fun q => hX (bl_0.1 q)
  have h1 := bl_ge hX
  have h2 := bl_lt Y
  rw [← h, show bl X = bl X - 1 + 1 by omega, Nat.pow_succ] at h2
  omega
theorem jv_or1 {f : Nat} (h : f < 4611686018427387904) : jv ((f * 2 : Nat) : Int) ||| jv 1 = jv ((f * 2 + 1 : Nat) : Int) := by
  have e : jv 1 = jv ((1 : Nat) : Int) := rfl
  rw [e, jv_nat, jv_nat, jv_nat]
  exact g_or (k := 1) (p := 2) rfl (by decide) (by omega)
theorem jv_sign {z : Nat} (h : z < 9223372036854775808) : jv (z : Int) ||| jv (-9223372036854775808) = jv ((z : Int) - 9223372036854775808) := by
  have e : jv (-9223372036854775808) = jv ((1 * 9223372036854775808 : Nat) : Int) := jv_cong (by decide)
  have e2 : jv ((z : Int) - 9223372036854775808) = jv ((z + 1 * 9223372036854775808 : Nat) : Int) := jv_cong (by omega)
  rw [e, e2, jv_nat, jv_nat, jv_nat]
  exact g_or' (k := 63) (p := 9223372036854775808) rfl h (by omega)
section SROWS
variable {p : Program} {l : Launch} {e : Env} {R : Room} {s : State} {m : MethodId} {args : Array Value} {below : List Frame} {meth : Method} {c : Code} {H : Heap} {locs : List Loc} {cells slots : Nat} {Q : State → Prop} {cc : ByteArray} {pc : Nat} {ls : Array Slot} {rest : List Value}
theorem iw_lor1 (hx : p.tables.exec = Jvm.exec) (hb : c.code = cc) {f : Nat} (h : f < 4611686018427387904) (hdg : decode cc pc = .ok (.lor, 1)) (kk : W p l e R s m args below meth c H locs cells slots Q (F0 m (pc + 1) ls (.long (jv ((f * 2 + 1 : Nat) : Int)) :: rest))) : W p l e R s m args below meth c H locs cells slots Q (F0 m pc ls (.long (jv 1) :: .long (jv ((f * 2 : Nat) : Int)) :: rest)) := lv_lor hx hb hdg (by rw [jv_or1 h]; exact kk)
theorem iw_lorS (hx : p.tables.exec = Jvm.exec) (hb : c.code = cc) {z : Nat} (h : z < 9223372036854775808) (hdg : decode cc pc = .ok (.lor, 1)) (kk : W p l e R s m args below meth c H locs cells slots Q (F0 m (pc + 1) ls (.long (jv ((z : Int) - 9223372036854775808)) :: rest))) : W p l e R s m args below meth c H locs cells slots Q (F0 m pc ls (.long (jv (-9223372036854775808)) :: .long (jv (z : Int)) :: rest)) := lv_lor hx hb hdg (by rw [jv_sign h]; exact kk)
end SROWS

set_option maxRecDepth 100000 in
set_option maxHeartbeats 4000000 in
/-- layOut -/
theorem c_layOut0 (l : Launch) (dC : Nat → ClassId) (dI : Nat → Nat → Nat) {cI : ClassId} {tys : List (ClassId × FieldType)} (ht : tys[0]? = some (cI, .int)) (q : Nat → Nat) {A1 U1 A2 U2 L R : Nat} {b1 e1 b2 e2 : Int} (hA1 : wl A1 ≤ 150) (hU1 : wl U1 ≤ 150) (hA2 : wl A2 ≤ 150) (hU2 : wl U2 ≤ 150) (hL : wl L ≤ 301) (hR : wl R ≤ 301) (bA1 : bl A1 ≤ 4800) (bU1 : bl U1 ≤ 4800) (bA2 : bl A2 ≤ 4800) (bU2 : bl U2 ≤ 4800) (le1 : -12000 ≤ e1) (ge1 : e1 ≤ 12000) (le2 : -12000 ≤ e2) (ge2 : e2 ≤ 12000) (nA : A1 ≠ 0) (nU : U1 ≠ 0) : ef_C l yX2_layOut wsX2_layOut ({ frames := 4, cells := 0, slots := 0, locals := 93 } : Room) [.ref (q 0), .ref (q 1)] (dC, dI) vwCl tys (cC cI q (A1) (U1) (b1) (e1) (A2) (U2) (b2) (e2) (L) (R)) (fun o w1 => ∃ (L2 R2 : Nat) (P : Int), o = some (.int (iv P)) ∧ w1 = cC cI q (A1) (U1) (b1) (e1) (A2) (U2) (b2) (e2) (L2) (R2) ∧ R2 ≤ L2 ∧ L2 < 2 * R2 ∧ A1 * R2 * pw e1 = L2 * U1 * pw P ∧ -17000 ≤ P ∧ P ≤ 17000 ∧ bl R2 ≤ 4800) := by
  refine ef_C.of (cc := cX2_layOut) (maxL := 2) (ret := (some .int)) (by decide) rfl (Nat.le_of_ble_eq_true rfl) ?_
  intro p e s m below meth c ls hx hb hml hr hts hown hlocks hK hNX hP hD hS hl
  have hl : lv_has ls 2 [(0, .ref (q 0)), (1, .ref (q 1))] := hl
  have hown : s.vm.findClass RX2 = some m.cls := hown
  generalize hH : s.heap = H at hP ⊢
  have hS : va_S (ef_A (cC cI q (A1) (U1) (b1) (e1) (A2) (U2) (b2) (e2) (L) (R))) s.heap H [] := by rw [← hH]; exact hS
  generalize ([] : List Loc) = locs at hS ⊢
  have b1A : bl A1 ≠ 0 := fun q => nA (bl_0.1 q)
  have b1U : bl U1 ≠ 0 := fun q => nU (bl_0.1 q)
  have wA9 := wl_of_bl A1
  have wU9 := wl_of_bl U1
  refine lv_aload_n hx hb dX2_layOut_0 rfl (lv_at hl 0 rfl) ?_
  refine va_get (D := (dC, dI)) (ci := 2) (v := .ref (q 11)) (C := RX2) (T := TX2) (N := 4) hx hb hts (by decide +kernel) hown hK hP 0 rfl rfl 2 (by decide) (hts (.fieldLink RX2 22 "ExactFractions" "left" "LExactFractions$Whole;") (by decide +kernel)) (fun _ h9 => h9) rfl dX2_layOut_1 ?_
  refine lv_aload_n hx hb dX2_layOut_4 rfl (lv_at hl 1 rfl) ?_
  refine va_get (D := (dC, dI)) (ci := 0) (v := .ref (q 3)) (C := RX0) (T := TX0) (N := 4) hx hb hts (by decide +kernel) hown hK hP 1 rfl rfl 0 (by decide) (hts (.fieldLink RX2 65 "ExactFractions$Fraction" "above" "LExactFractions$Whole;") (by decide +kernel)) (fun _ h9 => h9) rfl dX2_layOut_5 ?_
  refine ef_callV (As := [.ref (q 3)]) (rest := []) ⟨hx, hb, hml, hown, hts⟩ (c_copy l dC dI ht (isW_c (X := L) (ws := cC cI q (A1) (U1) (b1) (e1) (A2) (U2) (b2) (e2) (L) (R)) (k0 := 11) (k1 := 12) (by decide) rfl rfl) hL (wd_lt _) wd_z (isW_c (X := A1) (ws := cC cI q (A1) (U1) (b1) (e1) (A2) (U2) (b2) (e2) (L) (R)) (k0 := 3) (k1 := 4) (by decide) rfl rfl) (by omega) (apt_c (k0 := 11) (k1 := 12) (j0 := 3) (j1 := 4) rfl)) (cwV 1 hts gX2_layOut_X1_copy rfl rfl rfl (by decide +kernel) ⟨Nat.le_of_ble_eq_true rfl, Nat.le_of_ble_eq_true rfl⟩) hK hNX hP hD hS 11 rfl rfl rfl rfl hl.1 rfl (Nat.le_of_ble_eq_true rfl) dX2_layOut_8 ⟨Nat.zero_le _, Nat.zero_le _⟩ (fun o w1 H locs hq hP hD hS => ?_)
  obtain ⟨rfl, rfl⟩ := hq
  have hP : va_P (dC, dI) vwCl (cC cI q (A1) (U1) (b1) (e1) (A2) (U2) (b2) (e2) (A1) (R)) H := hP
  have hD : va_D (ef_A (cC cI q (A1) (U1) (b1) (e1) (A2) (U2) (b2) (e2) (L) (R))) (cC cI q (A1) (U1) (b1) (e1) (A2) (U2) (b2) (e2) (A1) (R)) := hD
  refine W.eq (g2 := F0 m 11 ls []) rfl ?_
  refine lv_aload_n hx hb dX2_layOut_11 rfl (lv_at hl 0 rfl) ?_
  refine va_get (D := (dC, dI)) (ci := 2) (v := .ref (q 13)) (C := RX2) (T := TX2) (N := 4) hx hb hts (by decide +kernel) hown hK hP 0 rfl rfl 3 (by decide) (hts (.fieldLink RX2 26 "ExactFractions" "right" "LExactFractions$Whole;") (by decide +kernel)) (fun _ h9 => h9) rfl dX2_layOut_12 ?_
  refine lv_aload_n hx hb dX2_layOut_15 rfl (lv_at hl 1 rfl) ?_
  refine va_get (D := (dC, dI)) (ci := 0) (v := .ref (q 5)) (C := RX0) (T := TX0) (N := 4) hx hb hts (by decide +kernel) hown hK hP 1 rfl rfl 1 (by decide) (hts (.fieldLink RX2 103 "ExactFractions$Fraction" "under" "LExactFractions$Whole;") (by decide +kernel)) (fun _ h9 => h9) rfl dX2_layOut_16 ?_
  refine ef_callV (As := [.ref (q 5)]) (rest := []) ⟨hx, hb, hml, hown, hts⟩ (c_copy l dC dI ht (isW_c (X := R) (ws := cC cI q (A1) (U1) (b1) (e1) (A2) (U2) (b2) (e2) (A1) (R)) (k0 := 13) (k1 := 14) (by decide) rfl rfl) hR (wd_lt _) wd_z (isW_c (X := U1) (ws := cC cI q (A1) (U1) (b1) (e1) (A2) (U2) (b2) (e2) (A1) (R)) (k0 := 5) (k1 := 6) (by decide) rfl rfl) (by omega) (apt_c (k0 := 13) (k1 := 14) (j0 := 5) (j1 := 6) rfl)) (cwV 1 hts gX2_layOut_X1_copy rfl rfl rfl (by decide +kernel) ⟨Nat.le_of_ble_eq_true rfl, Nat.le_of_ble_eq_true rfl⟩) hK hNX hP hD hS 13 rfl rfl rfl rfl hl.1 rfl (Nat.le_of_ble_eq_true rfl) dX2_layOut_19 ⟨Nat.zero_le _, Nat.zero_le _⟩ (fun o w1 H locs hq hP hD hS => ?_)
  obtain ⟨rfl, rfl⟩ := hq
  have hP : va_P (dC, dI) vwCl (cC cI q (A1) (U1) (b1) (e1) (A2) (U2) (b2) (e2) (A1) (U1)) H := hP
  have hD : va_D (ef_A (cC cI q (A1) (U1) (b1) (e1) (A2) (U2) (b2) (e2) (L) (R))) (cC cI q (A1) (U1) (b1) (e1) (A2) (U2) (b2) (e2) (A1) (U1)) := hD
  refine W.eq (g2 := F0 m 22 ls []) rfl ?_
  refine lv_aload_n hx hb dX2_layOut_22 rfl (lv_at hl 0 rfl) ?_
  refine lv_aload_n hx hb dX2_layOut_23 rfl (lv_at hl 0 rfl) ?_
  refine va_get (D := (dC, dI)) (ci := 2) (v := .ref (q 11)) (C := RX2) (T := TX2) (N := 4) hx hb hts (by decide +kernel) hown hK hP 0 rfl rfl 2 (by decide) (hts (.fieldLink RX2 22 "ExactFractions" "left" "LExactFractions$Whole;") (by decide +kernel)) (fun _ h9 => h9) rfl dX2_layOut_24 ?_
  refine ef_callV (As := []) (rest := [.ref (q 0)]) ⟨hx, hb, hml, hown, hts⟩ (c_length l dC dI ht (isW_c (X := A1) (ws := cC cI q (A1) (U1) (b1) (e1) (A2) (U2) (b2) (e2) (A1) (U1)) (k0 := 11) (k1 := 12) (by decide) rfl rfl) (by omega)) (cwV 0 hts gX2_layOut_X1_length rfl rfl rfl (by decide +kernel) ⟨Nat.le_of_ble_eq_true rfl, Nat.le_of_ble_eq_true rfl⟩) hK hNX hP hD hS 11 rfl rfl rfl rfl hl.1 rfl (Nat.le_of_ble_eq_true rfl) dX2_layOut_27 ⟨Nat.zero_le _, Nat.zero_le _⟩ (fun o w1 H locs hq hP hD hS => ?_)
  obtain ⟨rfl, e9⟩ := hq
  rw [e9] at hP hD
  refine W.eq (g2 := F0 m 30 ls [.int (iv ((bl A1 : Int))), .ref (q 0)]) rfl ?_
  refine lv_aload_n hx hb dX2_layOut_30 rfl (lv_at hl 0 rfl) ?_
  refine va_get (D := (dC, dI)) (ci := 2) (v := .ref (q 13)) (C := RX2) (T := TX2) (N := 4) hx hb hts (by decide +kernel) hown hK hP 0 rfl rfl 3 (by decide) (hts (.fieldLink RX2 26 "ExactFractions" "right" "LExactFractions$Whole;") (by decide +kernel)) (fun _ h9 => h9) rfl dX2_layOut_31 ?_
  refine ef_callV (As := []) (rest := [.int (iv ((bl A1 : Int))), .ref (q 0)]) ⟨hx, hb, hml, hown, hts⟩ (c_length l dC dI ht (isW_c (X := U1) (ws := cC cI q (A1) (U1) (b1) (e1) (A2) (U2) (b2) (e2) (A1) (U1)) (k0 := 13) (k1 := 14) (by decide) rfl rfl) (by omega)) (cwV 0 hts gX2_layOut_X1_length rfl rfl rfl (by decide +kernel) ⟨Nat.le_of_ble_eq_true rfl, Nat.le_of_ble_eq_true rfl⟩) hK hNX hP hD hS 13 rfl rfl rfl rfl hl.1 rfl (Nat.le_of_ble_eq_true rfl) dX2_layOut_34 ⟨Nat.zero_le _, Nat.zero_le _⟩ (fun o w1 H locs hq hP hD hS => ?_)
  obtain ⟨rfl, e9⟩ := hq
  rw [e9] at hP hD
  refine W.eq (g2 := F0 m 37 ls [.int (iv ((bl U1 : Int))), .int (iv ((bl A1 : Int))), .ref (q 0)]) rfl ?_
  refine iw_isub hx hb dX2_layOut_37 ?_
  obtain ⟨gp, hgp⟩ : ∃ z, z = (bl A1 : Int) - (bl U1 : Int) := ⟨_, rfl⟩
  refine iw_topi (y := iv (gp)) (congrArg iv (by omega : ((((bl A1 : Int)) - ((bl U1 : Int))) : Int) = (gp))) ?_
  rcases Int.lt_or_le gp 0 with hg | hg
  ·
    obtain ⟨k, hk⟩ : ∃ k : Nat, gp = -(k : Int) := ⟨(-gp).toNat, by omega⟩
    subst hk
    refine ef_callV (As := [.int (iv (-(k : Int)))]) (rest := []) ⟨hx, hb, hml, hown, hts⟩ (c_alignN l dC dI ht q hA1 hU1 hA2 hU2 (by omega) (by omega) k (by omega) (by omega)) (cwV 1 hts gX2_layOut_X2_alignTops rfl rfl rfl (by decide +kernel) ⟨Nat.le_of_ble_eq_true rfl, Nat.le_of_ble_eq_true rfl⟩) hK hNX hP hD hS 0 rfl rfl rfl rfl hl.1 rfl (Nat.le_of_ble_eq_true rfl) dX2_layOut_38 ⟨Nat.zero_le _, Nat.zero_le _⟩ (fun o w1 H locs hq hP hD hS => ?_)
    obtain ⟨rfl, rfl⟩ := hq
    have hP : va_P (dC, dI) vwCl (cC cI q (A1) (U1) (b1) (e1) (A2) (U2) (b2) (e2) (A1 * 2 ^ k) (U1)) H := hP
    have hD : va_D (ef_A (cC cI q (A1) (U1) (b1) (e1) (A2) (U2) (b2) (e2) (L) (R))) (cC cI q (A1) (U1) (b1) (e1) (A2) (U2) (b2) (e2) (A1 * 2 ^ k) (U1)) := hD
    refine W.eq (g2 := F0 m 41 ls []) rfl ?_
    have hbs : bl (A1 * 2 ^ k) = bl (U1) := by rw [bl_shift nA]; omega
    have hrel : A1 * (U1) * pw e1 = (A1 * 2 ^ k) * U1 * pw (-(k : Int) + e1) := by
      have q := pw_add (z := -(k : Int) + e1) (by omega) k
      rw [show -(k : Int) + e1 + (k : Int) = e1 by omega] at q
      rw [q, Nat.mul_right_comm A1 (2 ^ k), Nat.mul_comm (pw _) (2 ^ k), ← Nat.mul_assoc]
    have nL1 : A1 * 2 ^ k ≠ 0 := Nat.mul_ne_zero nA (Nat.ne_of_gt (Nat.pow_pos (by decide)))
    have nR1 : U1 ≠ 0 := nU
    have hbl1 : bl (A1 * 2 ^ k) ≤ 4800 := by omega
    have hbr1 : bl (U1) ≤ 4800 := by omega
    have wl1 := wl_of_bl (A1 * 2 ^ k)
    have wr1 := wl_of_bl (U1)
    have hs1 := bl_same nL1 hbs
    have hs2 := bl_same nR1 hbs.symm
    refine lv_aload_n hx hb dX2_layOut_41 rfl (lv_at hl 0 rfl) ?_
    refine va_get (D := (dC, dI)) (ci := 2) (v := .ref (q 11)) (C := RX2) (T := TX2) (N := 4) hx hb hts (by decide +kernel) hown hK hP 0 rfl rfl 2 (by decide) (hts (.fieldLink RX2 22 "ExactFractions" "left" "LExactFractions$Whole;") (by decide +kernel)) (fun _ h9 => h9) rfl dX2_layOut_42 ?_
    refine lv_aload_n hx hb dX2_layOut_45 rfl (lv_at hl 0 rfl) ?_
    refine va_get (D := (dC, dI)) (ci := 2) (v := .ref (q 13)) (C := RX2) (T := TX2) (N := 4) hx hb hts (by decide +kernel) hown hK hP 0 rfl rfl 3 (by decide) (hts (.fieldLink RX2 26 "ExactFractions" "right" "LExactFractions$Whole;") (by decide +kernel)) (fun _ h9 => h9) rfl dX2_layOut_46 ?_
    refine ef_callV (As := [.ref (q 13)]) (rest := []) ⟨hx, hb, hml, hown, hts⟩ (c_order l dC dI ht (isW_c (X := A1 * 2 ^ k) (ws := cC cI q (A1) (U1) (b1) (e1) (A2) (U2) (b2) (e2) (A1 * 2 ^ k) (U1)) (k0 := 11) (k1 := 12) (by decide) rfl rfl) (by omega) (isW_c (X := U1) (ws := cC cI q (A1) (U1) (b1) (e1) (A2) (U2) (b2) (e2) (A1 * 2 ^ k) (U1)) (k0 := 13) (k1 := 14) (by decide) rfl rfl) (by omega)) (cwV 1 hts gX2_layOut_X1_order rfl rfl rfl (by decide +kernel) ⟨Nat.le_of_ble_eq_true rfl, Nat.le_of_ble_eq_true rfl⟩) hK hNX hP hD hS 11 rfl rfl rfl rfl hl.1 rfl (Nat.le_of_ble_eq_true rfl) dX2_layOut_49 ⟨Nat.zero_le _, Nat.zero_le _⟩ (fun o w1 H locs hq hP hD hS => ?_)
    obtain ⟨rfl, e9⟩ := hq
    rw [e9] at hP hD
    refine W.eq (g2 := F0 m 52 ls [.int (iv (zc ((A1 * 2 ^ k : Nat) : Int) ((U1 : Nat) : Int)))]) rfl ?_
    refine iw_if_lt (tgt := 60) hx hb dX2_layOut_52 (by decide) (ir_zc _ _) (fun c1 => ?_) (fun c1 => ?_)
    ·
      have c2 : (A1 * 2 ^ k) < (U1) := by
        rcases Nat.lt_or_ge (A1 * 2 ^ k) (U1) with q | q
        · exact q
        · exact absurd ((zc_ge _ _).2 (Int.ofNat_le.mpr q)) (by omega)
      refine lv_aload_n hx hb dX2_layOut_60 rfl (lv_at hl 0 rfl) ?_
      refine va_get (D := (dC, dI)) (ci := 2) (v := .ref (q 11)) (C := RX2) (T := TX2) (N := 4) hx hb hts (by decide +kernel) hown hK hP 0 rfl rfl 2 (by decide) (hts (.fieldLink RX2 22 "ExactFractions" "left" "LExactFractions$Whole;") (by decide +kernel)) (fun _ h9 => h9) rfl dX2_layOut_61 ?_
      refine lv_iconst (v := iv (1)) hx hb dX2_layOut_64 (by decide) ?_
      refine iw_topi (y := iv (((1 : Nat) : Int))) (congrArg iv (by omega : ((1) : Int) = (((1 : Nat) : Int)))) ?_
      refine ef_callV (As := [.int (iv (((1 : Nat) : Int)))]) (rest := []) ⟨hx, hb, hml, hown, hts⟩ (c_shiftUp l dC dI ht (isW_c (X := A1 * 2 ^ k) (ws := cC cI q (A1) (U1) (b1) (e1) (A2) (U2) (b2) (e2) (A1 * 2 ^ k) (U1)) (k0 := 11) (k1 := 12) (by decide) rfl rfl) (by omega) 1 (by omega)) (cwV 1 hts gX2_layOut_X1_shiftUp rfl rfl rfl (by decide +kernel) ⟨Nat.le_of_ble_eq_true rfl, Nat.le_of_ble_eq_true rfl⟩) hK hNX hP hD hS 11 rfl rfl rfl rfl hl.1 rfl (Nat.le_of_ble_eq_true rfl) dX2_layOut_65 ⟨Nat.zero_le _, Nat.zero_le _⟩ (fun o w1 H locs hq hP hD hS => ?_)
      obtain ⟨rfl, rfl⟩ := hq
      have hP : va_P (dC, dI) vwCl (cC cI q (A1) (U1) (b1) (e1) (A2) (U2) (b2) (e2) (A1 * 2 ^ k * 2 ^ 1) (U1)) H := hP
      have hD : va_D (ef_A (cC cI q (A1) (U1) (b1) (e1) (A2) (U2) (b2) (e2) (L) (R))) (cC cI q (A1) (U1) (b1) (e1) (A2) (U2) (b2) (e2) (A1 * 2 ^ k * 2 ^ 1) (U1)) := hD
      refine W.eq (g2 := F0 m 68 ls []) rfl ?_
      have wl2 : wl (A1 * 2 ^ k * 2 ^ 1) ≤ 301 := by rw [wl_of_bl, bl_shift nL1]; omega
      refine lv_aload_n hx hb dX2_layOut_68 rfl (lv_at hl 1 rfl) ?_
      refine ef_callV (As := []) (rest := []) ⟨hx, hb, hml, hown, hts⟩ (c_rank0 l dC dI ht q hA1 hU1 hA2 hU2 wl2 (by omega)) (cwV 0 hts gX2_layOut_X0_rank rfl rfl rfl (by decide +kernel) ⟨Nat.le_of_ble_eq_true rfl, Nat.le_of_ble_eq_true rfl⟩) hK hNX hP hD hS 1 rfl rfl rfl rfl hl.1 rfl (Nat.le_of_ble_eq_true rfl) dX2_layOut_69 ⟨Nat.zero_le _, Nat.zero_le _⟩ (fun o w1 H locs hq hP hD hS => ?_)
      obtain ⟨rfl, e9⟩ := hq
      rw [e9] at hP hD
      refine W.eq (g2 := F0 m 72 ls [.int (iv ((bl A1 : Int) - (bl U1 : Int) + e1))]) rfl ?_
      refine lv_iconst (v := iv (1)) hx hb dX2_layOut_72 (by decide) ?_
      refine iw_isub hx hb dX2_layOut_73 ?_
      refine iw_topi (y := iv (-(k : Int) + e1 - 1)) (congrArg iv (by omega : ((((bl A1 : Int) - (bl U1 : Int) + e1) - (1)) : Int) = (-(k : Int) + e1 - 1))) ?_
      exact ef_iret hx hb hr hlocks hP hD hS dX2_layOut_74 (⟨_, _, _, rfl, rfl, by omega, by omega, by
            have q := pw_add (z := -(k : Int) + e1 - 1) (by omega) 1
            rw [show -(k : Int) + e1 - 1 + ((1 : Nat) : Int) = -(k : Int) + e1 by omega] at q
            rw [hrel, q, Nat.mul_right_comm (A1 * 2 ^ k) (2 ^ 1), Nat.mul_comm (pw _) (2 ^ 1), ← Nat.mul_assoc], by omega, by omega, hbr1⟩)
    ·
      have c2 : (U1) ≤ (A1 * 2 ^ k) := by have := (zc_ge _ _).1 c1; omega
      refine lv_aload_n hx hb dX2_layOut_55 rfl (lv_at hl 1 rfl) ?_
      refine ef_callV (As := []) (rest := []) ⟨hx, hb, hml, hown, hts⟩ (c_rank0 l dC dI ht q hA1 hU1 hA2 hU2 (by omega) (by omega)) (cwV 0 hts gX2_layOut_X0_rank rfl rfl rfl (by decide +kernel) ⟨Nat.le_of_ble_eq_true rfl, Nat.le_of_ble_eq_true rfl⟩) hK hNX hP hD hS 1 rfl rfl rfl rfl hl.1 rfl (Nat.le_of_ble_eq_true rfl) dX2_layOut_56 ⟨Nat.zero_le _, Nat.zero_le _⟩ (fun o w1 H locs hq hP hD hS => ?_)
      obtain ⟨rfl, e9⟩ := hq
      rw [e9] at hP hD
      refine W.eq (g2 := F0 m 59 ls [.int (iv ((bl A1 : Int) - (bl U1 : Int) + e1))]) rfl ?_
      refine iw_topi (y := iv (-(k : Int) + e1)) (congrArg iv (by omega : (((bl A1 : Int) - (bl U1 : Int) + e1) : Int) = (-(k : Int) + e1))) ?_
      exact ef_iret hx hb hr hlocks hP hD hS dX2_layOut_59 (⟨_, _, _, rfl, rfl, c2, by omega, hrel, by omega, by omega, hbr1⟩)
  ·
    obtain ⟨k, hk⟩ : ∃ k : Nat, gp = (k : Int) := ⟨gp.toNat, by omega⟩
    subst hk
    refine ef_callV (As := [.int (iv ((k : Int)))]) (rest := []) ⟨hx, hb, hml, hown, hts⟩ (c_alignP l dC dI ht q hA1 hU1 hA2 hU2 (by omega) (by omega) k (by omega)) (cwV 1 hts gX2_layOut_X2_alignTops rfl rfl rfl (by decide +kernel) ⟨Nat.le_of_ble_eq_true rfl, Nat.le_of_ble_eq_true rfl⟩) hK hNX hP hD hS 0 rfl rfl rfl rfl hl.1 rfl (Nat.le_of_ble_eq_true rfl) dX2_layOut_38 ⟨Nat.zero_le _, Nat.zero_le _⟩ (fun o w1 H locs hq hP hD hS => ?_)
    obtain ⟨rfl, rfl⟩ := hq
    have hP : va_P (dC, dI) vwCl (cC cI q (A1) (U1) (b1) (e1) (A2) (U2) (b2) (e2) (A1) (U1 * 2 ^ k)) H := hP
    have hD : va_D (ef_A (cC cI q (A1) (U1) (b1) (e1) (A2) (U2) (b2) (e2) (L) (R))) (cC cI q (A1) (U1) (b1) (e1) (A2) (U2) (b2) (e2) (A1) (U1 * 2 ^ k)) := hD
    refine W.eq (g2 := F0 m 41 ls []) rfl ?_
    have hbs : bl (A1) = bl (U1 * 2 ^ k) := by rw [bl_shift nU]; omega
    have hrel : A1 * (U1 * 2 ^ k) * pw e1 = (A1) * U1 * pw ((k : Int) + e1) := by
      rw [show (k : Int) + e1 = e1 + (k : Int) by omega, pw_add (by omega), ← Nat.mul_assoc, Nat.mul_assoc (A1 * U1), Nat.mul_comm (2 ^ k), ← Nat.mul_assoc]
    have nL1 : A1 ≠ 0 := nA
    have nR1 : U1 * 2 ^ k ≠ 0 := Nat.mul_ne_zero nU (Nat.ne_of_gt (Nat.pow_pos (by decide)))
    have hbl1 : bl (A1) ≤ 4800 := by omega
    have hbr1 : bl (U1 * 2 ^ k) ≤ 4800 := by omega
    have wl1 := wl_of_bl (A1)
    have wr1 := wl_of_bl (U1 * 2 ^ k)
    have hs1 := bl_same nL1 hbs
    have hs2 := bl_same nR1 hbs.symm
    refine lv_aload_n hx hb dX2_layOut_41 rfl (lv_at hl 0 rfl) ?_
    refine va_get (D := (dC, dI)) (ci := 2) (v := .ref (q 11)) (C := RX2) (T := TX2) (N := 4) hx hb hts (by decide +kernel) hown hK hP 0 rfl rfl 2 (by decide) (hts (.fieldLink RX2 22 "ExactFractions" "left" "LExactFractions$Whole;") (by decide +kernel)) (fun _ h9 => h9) rfl dX2_layOut_42 ?_
    refine lv_aload_n hx hb dX2_layOut_45 rfl (lv_at hl 0 rfl) ?_
    refine va_get (D := (dC, dI)) (ci := 2) (v := .ref (q 13)) (C := RX2) (T := TX2) (N := 4) hx hb hts (by decide +kernel) hown hK hP 0 rfl rfl 3 (by decide) (hts (.fieldLink RX2 26 "ExactFractions" "right" "LExactFractions$Whole;") (by decide +kernel)) (fun _ h9 => h9) rfl dX2_layOut_46 ?_
    refine ef_callV (As := [.ref (q 13)]) (rest := []) ⟨hx, hb, hml, hown, hts⟩ (c_order l dC dI ht (isW_c (X := A1) (ws := cC cI q (A1) (U1) (b1) (e1) (A2) (U2) (b2) (e2) (A1) (U1 * 2 ^ k)) (k0 := 11) (k1 := 12) (by decide) rfl rfl) (by omega) (isW_c (X := U1 * 2 ^ k) (ws := cC cI q (A1) (U1) (b1) (e1) (A2) (U2) (b2) (e2) (A1) (U1 * 2 ^ k)) (k0 := 13) (k1 := 14) (by decide) rfl rfl) (by omega)) (cwV 1 hts gX2_layOut_X1_order rfl rfl rfl (by decide +kernel) ⟨Nat.le_of_ble_eq_true rfl, Nat.le_of_ble_eq_true rfl⟩) hK hNX hP hD hS 11 rfl rfl rfl rfl hl.1 rfl (Nat.le_of_ble_eq_true rfl) dX2_layOut_49 ⟨Nat.zero_le _, Nat.zero_le _⟩ (fun o w1 H locs hq hP hD hS => ?_)
    obtain ⟨rfl, e9⟩ := hq
    rw [e9] at hP hD
    refine W.eq (g2 := F0 m 52 ls [.int (iv (zc ((A1 : Nat) : Int) ((U1 * 2 ^ k : Nat) : Int)))]) rfl ?_
    refine iw_if_lt (tgt := 60) hx hb dX2_layOut_52 (by decide) (ir_zc _ _) (fun c1 => ?_) (fun c1 => ?_)
    ·
      have c2 : (A1) < (U1 * 2 ^ k) := by
        rcases Nat.lt_or_ge (A1) (U1 * 2 ^ k) with q | q
        · exact q
        · exact absurd ((zc_ge _ _).2 (Int.ofNat_le.mpr q)) (by omega)
      refine lv_aload_n hx hb dX2_layOut_60 rfl (lv_at hl 0 rfl) ?_
      refine va_get (D := (dC, dI)) (ci := 2) (v := .ref (q 11)) (C := RX2) (T := TX2) (N := 4) hx hb hts (by decide +kernel) hown hK hP 0 rfl rfl 2 (by decide) (hts (.fieldLink RX2 22 "ExactFractions" "left" "LExactFractions$Whole;") (by decide +kernel)) (fun _ h9 => h9) rfl dX2_layOut_61 ?_
      refine lv_iconst (v := iv (1)) hx hb dX2_layOut_64 (by decide) ?_
      refine iw_topi (y := iv (((1 : Nat) : Int))) (congrArg iv (by omega : ((1) : Int) = (((1 : Nat) : Int)))) ?_
      refine ef_callV (As := [.int (iv (((1 : Nat) : Int)))]) (rest := []) ⟨hx, hb, hml, hown, hts⟩ (c_shiftUp l dC dI ht (isW_c (X := A1) (ws := cC cI q (A1) (U1) (b1) (e1) (A2) (U2) (b2) (e2) (A1) (U1 * 2 ^ k)) (k0 := 11) (k1 := 12) (by decide) rfl rfl) (by omega) 1 (by omega)) (cwV 1 hts gX2_layOut_X1_shiftUp rfl rfl rfl (by decide +kernel) ⟨Nat.le_of_ble_eq_true rfl, Nat.le_of_ble_eq_true rfl⟩) hK hNX hP hD hS 11 rfl rfl rfl rfl hl.1 rfl (Nat.le_of_ble_eq_true rfl) dX2_layOut_65 ⟨Nat.zero_le _, Nat.zero_le _⟩ (fun o w1 H locs hq hP hD hS => ?_)
      obtain ⟨rfl, rfl⟩ := hq
      have hP : va_P (dC, dI) vwCl (cC cI q (A1) (U1) (b1) (e1) (A2) (U2) (b2) (e2) (A1 * 2 ^ 1) (U1 * 2 ^ k)) H := hP
      have hD : va_D (ef_A (cC cI q (A1) (U1) (b1) (e1) (A2) (U2) (b2) (e2) (L) (R))) (cC cI q (A1) (U1) (b1) (e1) (A2) (U2) (b2) (e2) (A1 * 2 ^ 1) (U1 * 2 ^ k)) := hD
      refine W.eq (g2 := F0 m 68 ls []) rfl ?_
      have wl2 : wl (A1 * 2 ^ 1) ≤ 301 := by rw [wl_of_bl, bl_shift nL1]; omega
      refine lv_aload_n hx hb dX2_layOut_68 rfl (lv_at hl 1 rfl) ?_
      refine ef_callV (As := []) (rest := []) ⟨hx, hb, hml, hown, hts⟩ (c_rank0 l dC dI ht q hA1 hU1 hA2 hU2 wl2 (by omega)) (cwV 0 hts gX2_layOut_X0_rank rfl rfl rfl (by decide +kernel) ⟨Nat.le_of_ble_eq_true rfl, Nat.le_of_ble_eq_true rfl⟩) hK hNX hP hD hS 1 rfl rfl rfl rfl hl.1 rfl (Nat.le_of_ble_eq_true rfl) dX2_layOut_69 ⟨Nat.zero_le _, Nat.zero_le _⟩ (fun o w1 H locs hq hP hD hS => ?_)
      obtain ⟨rfl, e9⟩ := hq
      rw [e9] at hP hD
      refine W.eq (g2 := F0 m 72 ls [.int (iv ((bl A1 : Int) - (bl U1 : Int) + e1))]) rfl ?_
      refine lv_iconst (v := iv (1)) hx hb dX2_layOut_72 (by decide) ?_
      refine iw_isub hx hb dX2_layOut_73 ?_
      refine iw_topi (y := iv ((k : Int) + e1 - 1)) (congrArg iv (by omega : ((((bl A1 : Int) - (bl U1 : Int) + e1) - (1)) : Int) = ((k : Int) + e1 - 1))) ?_
      exact ef_iret hx hb hr hlocks hP hD hS dX2_layOut_74 (⟨_, _, _, rfl, rfl, by omega, by omega, by
            have q := pw_add (z := (k : Int) + e1 - 1) (by omega) 1
            rw [show (k : Int) + e1 - 1 + ((1 : Nat) : Int) = (k : Int) + e1 by omega] at q
            rw [hrel, q, Nat.mul_right_comm (A1) (2 ^ 1), Nat.mul_comm (pw _) (2 ^ 1), ← Nat.mul_assoc], by omega, by omega, hbr1⟩)
    ·
      have c2 : (U1 * 2 ^ k) ≤ (A1) := by have := (zc_ge _ _).1 c1; omega
      refine lv_aload_n hx hb dX2_layOut_55 rfl (lv_at hl 1 rfl) ?_
      refine ef_callV (As := []) (rest := []) ⟨hx, hb, hml, hown, hts⟩ (c_rank0 l dC dI ht q hA1 hU1 hA2 hU2 (by omega) (by omega)) (cwV 0 hts gX2_layOut_X0_rank rfl rfl rfl (by decide +kernel) ⟨Nat.le_of_ble_eq_true rfl, Nat.le_of_ble_eq_true rfl⟩) hK hNX hP hD hS 1 rfl rfl rfl rfl hl.1 rfl (Nat.le_of_ble_eq_true rfl) dX2_layOut_56 ⟨Nat.zero_le _, Nat.zero_le _⟩ (fun o w1 H locs hq hP hD hS => ?_)
      obtain ⟨rfl, e9⟩ := hq
      rw [e9] at hP hD
      refine W.eq (g2 := F0 m 59 ls [.int (iv ((bl A1 : Int) - (bl U1 : Int) + e1))]) rfl ?_
      refine iw_topi (y := iv ((k : Int) + e1)) (congrArg iv (by omega : (((bl A1 : Int) - (bl U1 : Int) + e1) : Int) = ((k : Int) + e1))) ?_
      exact ef_iret hx hb hr hlocks hP hD hS dX2_layOut_59 (⟨_, _, _, rfl, rfl, c2, by omega, hrel, by omega, by omega, hbr1⟩)

set_option maxRecDepth 100000 in
set_option maxHeartbeats 4000000 in
/-- layOut -/
theorem c_layOut1 (l : Launch) (dC : Nat → ClassId) (dI : Nat → Nat → Nat) {cI : ClassId} {tys : List (ClassId × FieldType)} (ht : tys[0]? = some (cI, .int)) (q : Nat → Nat) {A1 U1 A2 U2 L R : Nat} {b1 e1 b2 e2 : Int} (hA1 : wl A1 ≤ 150) (hU1 : wl U1 ≤ 150) (hA2 : wl A2 ≤ 150) (hU2 : wl U2 ≤ 150) (hL : wl L ≤ 301) (hR : wl R ≤ 301) (bA1 : bl A1 ≤ 4800) (bU1 : bl U1 ≤ 4800) (bA2 : bl A2 ≤ 4800) (bU2 : bl U2 ≤ 4800) (le1 : -12000 ≤ e1) (ge1 : e1 ≤ 12000) (le2 : -12000 ≤ e2) (ge2 : e2 ≤ 12000) (nA : A2 ≠ 0) (nU : U2 ≠ 0) : ef_C l yX2_layOut wsX2_layOut ({ frames := 4, cells := 0, slots := 0, locals := 93 } : Room) [.ref (q 0), .ref (q 2)] (dC, dI) vwCl tys (cC cI q (A1) (U1) (b1) (e1) (A2) (U2) (b2) (e2) (L) (R)) (fun o w1 => ∃ (L2 R2 : Nat) (P : Int), o = some (.int (iv P)) ∧ w1 = cC cI q (A1) (U1) (b1) (e1) (A2) (U2) (b2) (e2) (L2) (R2) ∧ R2 ≤ L2 ∧ L2 < 2 * R2 ∧ A2 * R2 * pw e2 = L2 * U2 * pw P ∧ -17000 ≤ P ∧ P ≤ 17000 ∧ bl R2 ≤ 4800) := by
  refine ef_C.of (cc := cX2_layOut) (maxL := 2) (ret := (some .int)) (by decide) rfl (Nat.le_of_ble_eq_true rfl) ?_
  intro p e s m below meth c ls hx hb hml hr hts hown hlocks hK hNX hP hD hS hl
  have hl : lv_has ls 2 [(0, .ref (q 0)), (1, .ref (q 2))] := hl
  have hown : s.vm.findClass RX2 = some m.cls := hown
  generalize hH : s.heap = H at hP ⊢
  have hS : va_S (ef_A (cC cI q (A1) (U1) (b1) (e1) (A2) (U2) (b2) (e2) (L) (R))) s.heap H [] := by rw [← hH]; exact hS
  generalize ([] : List Loc) = locs at hS ⊢
  have b1A : bl A2 ≠ 0 := fun q => nA (bl_0.1 q)
  have b1U : bl U2 ≠ 0 := fun q => nU (bl_0.1 q)
  have wA9 := wl_of_bl A2
  have wU9 := wl_of_bl U2
  refine lv_aload_n hx hb dX2_layOut_0 rfl (lv_at hl 0 rfl) ?_
  refine va_get (D := (dC, dI)) (ci := 2) (v := .ref (q 11)) (C := RX2) (T := TX2) (N := 4) hx hb hts (by decide +kernel) hown hK hP 0 rfl rfl 2 (by decide) (hts (.fieldLink RX2 22 "ExactFractions" "left" "LExactFractions$Whole;") (by decide +kernel)) (fun _ h9 => h9) rfl dX2_layOut_1 ?_
  refine lv_aload_n hx hb dX2_layOut_4 rfl (lv_at hl 1 rfl) ?_
  refine va_get (D := (dC, dI)) (ci := 0) (v := .ref (q 7)) (C := RX0) (T := TX0) (N := 4) hx hb hts (by decide +kernel) hown hK hP 2 rfl rfl 0 (by decide) (hts (.fieldLink RX2 65 "ExactFractions$Fraction" "above" "LExactFractions$Whole;") (by decide +kernel)) (fun _ h9 => h9) rfl dX2_layOut_5 ?_
  refine ef_callV (As := [.ref (q 7)]) (rest := []) ⟨hx, hb, hml, hown, hts⟩ (c_copy l dC dI ht (isW_c (X := L) (ws := cC cI q (A1) (U1) (b1) (e1) (A2) (U2) (b2) (e2) (L) (R)) (k0 := 11) (k1 := 12) (by decide) rfl rfl) hL (wd_lt _) wd_z (isW_c (X := A2) (ws := cC cI q (A1) (U1) (b1) (e1) (A2) (U2) (b2) (e2) (L) (R)) (k0 := 7) (k1 := 8) (by decide) rfl rfl) (by omega) (apt_c (k0 := 11) (k1 := 12) (j0 := 7) (j1 := 8) rfl)) (cwV 1 hts gX2_layOut_X1_copy rfl rfl rfl (by decide +kernel) ⟨Nat.le_of_ble_eq_true rfl, Nat.le_of_ble_eq_true rfl⟩) hK hNX hP hD hS 11 rfl rfl rfl rfl hl.1 rfl (Nat.le_of_ble_eq_true rfl) dX2_layOut_8 ⟨Nat.zero_le _, Nat.zero_le _⟩ (fun o w1 H locs hq hP hD hS => ?_)
  obtain ⟨rfl, rfl⟩ := hq
  have hP : va_P (dC, dI) vwCl (cC cI q (A1) (U1) (b1) (e1) (A2) (U2) (b2) (e2) (A2) (R)) H := hP
  have hD : va_D (ef_A (cC cI q (A1) (U1) (b1) (e1) (A2) (U2) (b2) (e2) (L) (R))) (cC cI q (A1) (U1) (b1) (e1) (A2) (U2) (b2) (e2) (A2) (R)) := hD
  refine W.eq (g2 := F0 m 11 ls []) rfl ?_
  refine lv_aload_n hx hb dX2_layOut_11 rfl (lv_at hl 0 rfl) ?_
  refine va_get (D := (dC, dI)) (ci := 2) (v := .ref (q 13)) (C := RX2) (T := TX2) (N := 4) hx hb hts (by decide +kernel) hown hK hP 0 rfl rfl 3 (by decide) (hts (.fieldLink RX2 26 "ExactFractions" "right" "LExactFractions$Whole;") (by decide +kernel)) (fun _ h9 => h9) rfl dX2_layOut_12 ?_
  refine lv_aload_n hx hb dX2_layOut_15 rfl (lv_at hl 1 rfl) ?_
  refine va_get (D := (dC, dI)) (ci := 0) (v := .ref (q 9)) (C := RX0) (T := TX0) (N := 4) hx hb hts (by decide +kernel) hown hK hP 2 rfl rfl 1 (by decide) (hts (.fieldLink RX2 103 "ExactFractions$Fraction" "under" "LExactFractions$Whole;") (by decide +kernel)) (fun _ h9 => h9) rfl dX2_layOut_16 ?_
  refine ef_callV (As := [.ref (q 9)]) (rest := []) ⟨hx, hb, hml, hown, hts⟩ (c_copy l dC dI ht (isW_c (X := R) (ws := cC cI q (A1) (U1) (b1) (e1) (A2) (U2) (b2) (e2) (A2) (R)) (k0 := 13) (k1 := 14) (by decide) rfl rfl) hR (wd_lt _) wd_z (isW_c (X := U2) (ws := cC cI q (A1) (U1) (b1) (e1) (A2) (U2) (b2) (e2) (A2) (R)) (k0 := 9) (k1 := 10) (by decide) rfl rfl) (by omega) (apt_c (k0 := 13) (k1 := 14) (j0 := 9) (j1 := 10) rfl)) (cwV 1 hts gX2_layOut_X1_copy rfl rfl rfl (by decide +kernel) ⟨Nat.le_of_ble_eq_true rfl, Nat.le_of_ble_eq_true rfl⟩) hK hNX hP hD hS 13 rfl rfl rfl rfl hl.1 rfl (Nat.le_of_ble_eq_true rfl) dX2_layOut_19 ⟨Nat.zero_le _, Nat.zero_le _⟩ (fun o w1 H locs hq hP hD hS => ?_)
  obtain ⟨rfl, rfl⟩ := hq
  have hP : va_P (dC, dI) vwCl (cC cI q (A1) (U1) (b1) (e1) (A2) (U2) (b2) (e2) (A2) (U2)) H := hP
  have hD : va_D (ef_A (cC cI q (A1) (U1) (b1) (e1) (A2) (U2) (b2) (e2) (L) (R))) (cC cI q (A1) (U1) (b1) (e1) (A2) (U2) (b2) (e2) (A2) (U2)) := hD
  refine W.eq (g2 := F0 m 22 ls []) rfl ?_
  refine lv_aload_n hx hb dX2_layOut_22 rfl (lv_at hl 0 rfl) ?_
  refine lv_aload_n hx hb dX2_layOut_23 rfl (lv_at hl 0 rfl) ?_
  refine va_get (D := (dC, dI)) (ci := 2) (v := .ref (q 11)) (C := RX2) (T := TX2) (N := 4) hx hb hts (by decide +kernel) hown hK hP 0 rfl rfl 2 (by decide) (hts (.fieldLink RX2 22 "ExactFractions" "left" "LExactFractions$Whole;") (by decide +kernel)) (fun _ h9 => h9) rfl dX2_layOut_24 ?_
  refine ef_callV (As := []) (rest := [.ref (q 0)]) ⟨hx, hb, hml, hown, hts⟩ (c_length l dC dI ht (isW_c (X := A2) (ws := cC cI q (A1) (U1) (b1) (e1) (A2) (U2) (b2) (e2) (A2) (U2)) (k0 := 11) (k1 := 12) (by decide) rfl rfl) (by omega)) (cwV 0 hts gX2_layOut_X1_length rfl rfl rfl (by decide +kernel) ⟨Nat.le_of_ble_eq_true rfl, Nat.le_of_ble_eq_true rfl⟩) hK hNX hP hD hS 11 rfl rfl rfl rfl hl.1 rfl (Nat.le_of_ble_eq_true rfl) dX2_layOut_27 ⟨Nat.zero_le _, Nat.zero_le _⟩ (fun o w1 H locs hq hP hD hS => ?_)
  obtain ⟨rfl, e9⟩ := hq
  rw [e9] at hP hD
  refine W.eq (g2 := F0 m 30 ls [.int (iv ((bl A2 : Int))), .ref (q 0)]) rfl ?_
  refine lv_aload_n hx hb dX2_layOut_30 rfl (lv_at hl 0 rfl) ?_
  refine va_get (D := (dC, dI)) (ci := 2) (v := .ref (q 13)) (C := RX2) (T := TX2) (N := 4) hx hb hts (by decide +kernel) hown hK hP 0 rfl rfl 3 (by decide) (hts (.fieldLink RX2 26 "ExactFractions" "right" "LExactFractions$Whole;") (by decide +kernel)) (fun _ h9 => h9) rfl dX2_layOut_31 ?_
  refine ef_callV (As := []) (rest := [.int (iv ((bl A2 : Int))), .ref (q 0)]) ⟨hx, hb, hml, hown, hts⟩ (c_length l dC dI ht (isW_c (X := U2) (ws := cC cI q (A1) (U1) (b1) (e1) (A2) (U2) (b2) (e2) (A2) (U2)) (k0 := 13) (k1 := 14) (by decide) rfl rfl) (by omega)) (cwV 0 hts gX2_layOut_X1_length rfl rfl rfl (by decide +kernel) ⟨Nat.le_of_ble_eq_true rfl, Nat.le_of_ble_eq_true rfl⟩) hK hNX hP hD hS 13 rfl rfl rfl rfl hl.1 rfl (Nat.le_of_ble_eq_true rfl) dX2_layOut_34 ⟨Nat.zero_le _, Nat.zero_le _⟩ (fun o w1 H locs hq hP hD hS => ?_)
  obtain ⟨rfl, e9⟩ := hq
  rw [e9] at hP hD
  refine W.eq (g2 := F0 m 37 ls [.int (iv ((bl U2 : Int))), .int (iv ((bl A2 : Int))), .ref (q 0)]) rfl ?_
  refine iw_isub hx hb dX2_layOut_37 ?_
  obtain ⟨gp, hgp⟩ : ∃ z, z = (bl A2 : Int) - (bl U2 : Int) := ⟨_, rfl⟩
  refine iw_topi (y := iv (gp)) (congrArg iv (by omega : ((((bl A2 : Int)) - ((bl U2 : Int))) : Int) = (gp))) ?_
  rcases Int.lt_or_le gp 0 with hg | hg
  ·
    obtain ⟨k, hk⟩ : ∃ k : Nat, gp = -(k : Int) := ⟨(-gp).toNat, by omega⟩
    subst hk
    refine ef_callV (As := [.int (iv (-(k : Int)))]) (rest := []) ⟨hx, hb, hml, hown, hts⟩ (c_alignN l dC dI ht q hA1 hU1 hA2 hU2 (by omega) (by omega) k (by omega) (by omega)) (cwV 1 hts gX2_layOut_X2_alignTops rfl rfl rfl (by decide +kernel) ⟨Nat.le_of_ble_eq_true rfl, Nat.le_of_ble_eq_true rfl⟩) hK hNX hP hD hS 0 rfl rfl rfl rfl hl.1 rfl (Nat.le_of_ble_eq_true rfl) dX2_layOut_38 ⟨Nat.zero_le _, Nat.zero_le _⟩ (fun o w1 H locs hq hP hD hS => ?_)
    obtain ⟨rfl, rfl⟩ := hq
    have hP : va_P (dC, dI) vwCl (cC cI q (A1) (U1) (b1) (e1) (A2) (U2) (b2) (e2) (A2 * 2 ^ k) (U2)) H := hP
    have hD : va_D (ef_A (cC cI q (A1) (U1) (b1) (e1) (A2) (U2) (b2) (e2) (L) (R))) (cC cI q (A1) (U1) (b1) (e1) (A2) (U2) (b2) (e2) (A2 * 2 ^ k) (U2)) := hD
    refine W.eq (g2 := F0 m 41 ls []) rfl ?_
    have hbs : bl (A2 * 2 ^ k) = bl (U2) := by rw [bl_shift nA]; omega
    have hrel : A2 * (U2) * pw e2 = (A2 * 2 ^ k) * U2 * pw (-(k : Int) + e2) := by
      have q := pw_add (z := -(k : Int) + e2) (by omega) k
      rw [show -(k : Int) + e2 + (k : Int) = e2 by omega] at q
      rw [q, Nat.mul_right_comm A2 (2 ^ k), Nat.mul_comm (pw _) (2 ^ k), ← Nat.mul_assoc]
    have nL1 : A2 * 2 ^ k ≠ 0 := Nat.mul_ne_zero nA (Nat.ne_of_gt (Nat.pow_pos (by decide)))
    have nR1 : U2 ≠ 0 := nU
    have hbl1 : bl (A2 * 2 ^ k) ≤ 4800 := by omega
    have hbr1 : bl (U2) ≤ 4800 := by omega
    have wl1 := wl_of_bl (A2 * 2 ^ k)
    have wr1 := wl_of_bl (U2)
    have hs1 := bl_same nL1 hbs
    have hs2 := bl_same nR1 hbs.symm
    refine lv_aload_n hx hb dX2_layOut_41 rfl (lv_at hl 0 rfl) ?_
    refine va_get (D := (dC, dI)) (ci := 2) (v := .ref (q 11)) (C := RX2) (T := TX2) (N := 4) hx hb hts (by decide +kernel) hown hK hP 0 rfl rfl 2 (by decide) (hts (.fieldLink RX2 22 "ExactFractions" "left" "LExactFractions$Whole;") (by decide +kernel)) (fun _ h9 => h9) rfl dX2_layOut_42 ?_
    refine lv_aload_n hx hb dX2_layOut_45 rfl (lv_at hl 0 rfl) ?_
    refine va_get (D := (dC, dI)) (ci := 2) (v := .ref (q 13)) (C := RX2) (T := TX2) (N := 4) hx hb hts (by decide +kernel) hown hK hP 0 rfl rfl 3 (by decide) (hts (.fieldLink RX2 26 "ExactFractions" "right" "LExactFractions$Whole;") (by decide +kernel)) (fun _ h9 => h9) rfl dX2_layOut_46 ?_
    refine ef_callV (As := [.ref (q 13)]) (rest := []) ⟨hx, hb, hml, hown, hts⟩ (c_order l dC dI ht (isW_c (X := A2 * 2 ^ k) (ws := cC cI q (A1) (U1) (b1) (e1) (A2) (U2) (b2) (e2) (A2 * 2 ^ k) (U2)) (k0 := 11) (k1 := 12) (by decide) rfl rfl) (by omega) (isW_c (X := U2) (ws := cC cI q (A1) (U1) (b1) (e1) (A2) (U2) (b2) (e2) (A2 * 2 ^ k) (U2)) (k0 := 13) (k1 := 14) (by decide) rfl rfl) (by omega)) (cwV 1 hts gX2_layOut_X1_order rfl rfl rfl (by decide +kernel) ⟨Nat.le_of_ble_eq_true rfl, Nat.le_of_ble_eq_true rfl⟩) hK hNX hP hD hS 11 rfl rfl rfl rfl hl.1 rfl (Nat.le_of_ble_eq_true rfl) dX2_layOut_49 ⟨Nat.zero_le _, Nat.zero_le _⟩ (fun o w1 H locs hq hP hD hS => ?_)
    obtain ⟨rfl, e9⟩ := hq
    rw [e9] at hP hD
    refine W.eq (g2 := F0 m 52 ls [.int (iv (zc ((A2 * 2 ^ k : Nat) : Int) ((U2 : Nat) : Int)))]) rfl ?_
    refine iw_if_lt (tgt := 60) hx hb dX2_layOut_52 (by decide) (ir_zc _ _) (fun c1 => ?_) (fun c1 => ?_)
    ·
      have c2 : (A2 * 2 ^ k) < (U2) := by
        rcases Nat.lt_or_ge (A2 * 2 ^ k) (U2) with q | q
        · exact q
        · exact absurd ((zc_ge _ _).2 (Int.ofNat_le.mpr q)) (by omega)
      refine lv_aload_n hx hb dX2_layOut_60 rfl (lv_at hl 0 rfl) ?_
      refine va_get (D := (dC, dI)) (ci := 2) (v := .ref (q 11)) (C := RX2) (T := TX2) (N := 4) hx hb hts (by decide +kernel) hown hK hP 0 rfl rfl 2 (by decide) (hts (.fieldLink RX2 22 "ExactFractions" "left" "LExactFractions$Whole;") (by decide +kernel)) (fun _ h9 => h9) rfl dX2_layOut_61 ?_
      refine lv_iconst (v := iv (1)) hx hb dX2_layOut_64 (by decide) ?_
      refine iw_topi (y := iv (((1 : Nat) : Int))) (congrArg iv (by omega : ((1) : Int) = (((1 : Nat) : Int)))) ?_
      refine ef_callV (As := [.int (iv (((1 : Nat) : Int)))]) (rest := []) ⟨hx, hb, hml, hown, hts⟩ (c_shiftUp l dC dI ht (isW_c (X := A2 * 2 ^ k) (ws := cC cI q (A1) (U1) (b1) (e1) (A2) (U2) (b2) (e2) (A2 * 2 ^ k) (U2)) (k0 := 11) (k1 := 12) (by decide) rfl rfl) (by omega) 1 (by omega)) (cwV 1 hts gX2_layOut_X1_shiftUp rfl rfl rfl (by decide +kernel) ⟨Nat.le_of_ble_eq_true rfl, Nat.le_of_ble_eq_true rfl⟩) hK hNX hP hD hS 11 rfl rfl rfl rfl hl.1 rfl (Nat.le_of_ble_eq_true rfl) dX2_layOut_65 ⟨Nat.zero_le _, Nat.zero_le _⟩ (fun o w1 H locs hq hP hD hS => ?_)
      obtain ⟨rfl, rfl⟩ := hq
      have hP : va_P (dC, dI) vwCl (cC cI q (A1) (U1) (b1) (e1) (A2) (U2) (b2) (e2) (A2 * 2 ^ k * 2 ^ 1) (U2)) H := hP
      have hD : va_D (ef_A (cC cI q (A1) (U1) (b1) (e1) (A2) (U2) (b2) (e2) (L) (R))) (cC cI q (A1) (U1) (b1) (e1) (A2) (U2) (b2) (e2) (A2 * 2 ^ k * 2 ^ 1) (U2)) := hD
      refine W.eq (g2 := F0 m 68 ls []) rfl ?_
      have wl2 : wl (A2 * 2 ^ k * 2 ^ 1) ≤ 301 := by rw [wl_of_bl, bl_shift nL1]; omega
      refine lv_aload_n hx hb dX2_layOut_68 rfl (lv_at hl 1 rfl) ?_
      refine ef_callV (As := []) (rest := []) ⟨hx, hb, hml, hown, hts⟩ (c_rank1 l dC dI ht q hA1 hU1 hA2 hU2 wl2 (by omega)) (cwV 0 hts gX2_layOut_X0_rank rfl rfl rfl (by decide +kernel) ⟨Nat.le_of_ble_eq_true rfl, Nat.le_of_ble_eq_true rfl⟩) hK hNX hP hD hS 2 rfl rfl rfl rfl hl.1 rfl (Nat.le_of_ble_eq_true rfl) dX2_layOut_69 ⟨Nat.zero_le _, Nat.zero_le _⟩ (fun o w1 H locs hq hP hD hS => ?_)
      obtain ⟨rfl, e9⟩ := hq
      rw [e9] at hP hD
      refine W.eq (g2 := F0 m 72 ls [.int (iv ((bl A2 : Int) - (bl U2 : Int) + e2))]) rfl ?_
      refine lv_iconst (v := iv (1)) hx hb dX2_layOut_72 (by decide) ?_
      refine iw_isub hx hb dX2_layOut_73 ?_
      refine iw_topi (y := iv (-(k : Int) + e2 - 1)) (congrArg iv (by omega : ((((bl A2 : Int) - (bl U2 : Int) + e2) - (1)) : Int) = (-(k : Int) + e2 - 1))) ?_
      exact ef_iret hx hb hr hlocks hP hD hS dX2_layOut_74 (⟨_, _, _, rfl, rfl, by omega, by omega, by
            have q := pw_add (z := -(k : Int) + e2 - 1) (by omega) 1
            rw [show -(k : Int) + e2 - 1 + ((1 : Nat) : Int) = -(k : Int) + e2 by omega] at q
            rw [hrel, q, Nat.mul_right_comm (A2 * 2 ^ k) (2 ^ 1), Nat.mul_comm (pw _) (2 ^ 1), ← Nat.mul_assoc], by omega, by omega, hbr1⟩)
    ·
      have c2 : (U2) ≤ (A2 * 2 ^ k) := by have := (zc_ge _ _).1 c1; omega
      refine lv_aload_n hx hb dX2_layOut_55 rfl (lv_at hl 1 rfl) ?_
      refine ef_callV (As := []) (rest := []) ⟨hx, hb, hml, hown, hts⟩ (c_rank1 l dC dI ht q hA1 hU1 hA2 hU2 (by omega) (by omega)) (cwV 0 hts gX2_layOut_X0_rank rfl rfl rfl (by decide +kernel) ⟨Nat.le_of_ble_eq_true rfl, Nat.le_of_ble_eq_true rfl⟩) hK hNX hP hD hS 2 rfl rfl rfl rfl hl.1 rfl (Nat.le_of_ble_eq_true rfl) dX2_layOut_56 ⟨Nat.zero_le _, Nat.zero_le _⟩ (fun o w1 H locs hq hP hD hS => ?_)
      obtain ⟨rfl, e9⟩ := hq
      rw [e9] at hP hD
      refine W.eq (g2 := F0 m 59 ls [.int (iv ((bl A2 : Int) - (bl U2 : Int) + e2))]) rfl ?_
      refine iw_topi (y := iv (-(k : Int) + e2)) (congrArg iv (by omega : (((bl A2 : Int) - (bl U2 : Int) + e2) : Int) = (-(k : Int) + e2))) ?_
      exact ef_iret hx hb hr hlocks hP hD hS dX2_layOut_59 (⟨_, _, _, rfl, rfl, c2, by omega, hrel, by omega, by omega, hbr1⟩)
  ·
    obtain ⟨k, hk⟩ : ∃ k : Nat, gp = (k : Int) := ⟨gp.toNat, by omega⟩
    subst hk
    refine ef_callV (As := [.int (iv ((k : Int)))]) (rest := []) ⟨hx, hb, hml, hown, hts⟩ (c_alignP l dC dI ht q hA1 hU1 hA2 hU2 (by omega) (by omega) k (by omega)) (cwV 1 hts gX2_layOut_X2_alignTops rfl rfl rfl (by decide +kernel) ⟨Nat.le_of_ble_eq_true rfl, Nat.le_of_ble_eq_true rfl⟩) hK hNX hP hD hS 0 rfl rfl rfl rfl hl.1 rfl (Nat.le_of_ble_eq_true rfl) dX2_layOut_38 ⟨Nat.zero_le _, Nat.zero_le _⟩ (fun o w1 H locs hq hP hD hS => ?_)
    obtain ⟨rfl, rfl⟩ := hq
    have hP : va_P (dC, dI) vwCl (cC cI q (A1) (U1) (b1) (e1) (A2) (U2) (b2) (e2) (A2) (U2 * 2 ^ k)) H := hP
    have hD : va_D (ef_A (cC cI q (A1) (U1) (b1) (e1) (A2) (U2) (b2) (e2) (L) (R))) (cC cI q (A1) (U1) (b1) (e1) (A2) (U2) (b2) (e2) (A2) (U2 * 2 ^ k)) := hD
    refine W.eq (g2 := F0 m 41 ls []) rfl ?_
    have hbs : bl (A2) = bl (U2 * 2 ^ k) := by rw [bl_shift nU]; omega
    have hrel : A2 * (U2 * 2 ^ k) * pw e2 = (A2) * U2 * pw ((k : Int) + e2) := by
      rw [show (k : Int) + e2 = e2 + (k : Int) by omega, pw_add (by omega), ← Nat.mul_assoc, Nat.mul_assoc (A2 * U2), Nat.mul_comm (2 ^ k), ← Nat.mul_assoc]
    have nL1 : A2 ≠ 0 := nA
    have nR1 : U2 * 2 ^ k ≠ 0 := Nat.mul_ne_zero nU (Nat.ne_of_gt (Nat.pow_pos (by decide)))
    have hbl1 : bl (A2) ≤ 4800 := by omega
    have hbr1 : bl (U2 * 2 ^ k) ≤ 4800 := by omega
    have wl1 := wl_of_bl (A2)
    have wr1 := wl_of_bl (U2 * 2 ^ k)
    have hs1 := bl_same nL1 hbs
    have hs2 := bl_same nR1 hbs.symm
    refine lv_aload_n hx hb dX2_layOut_41 rfl (lv_at hl 0 rfl) ?_
    refine va_get (D := (dC, dI)) (ci := 2) (v := .ref (q 11)) (C := RX2) (T := TX2) (N := 4) hx hb hts (by decide +kernel) hown hK hP 0 rfl rfl 2 (by decide) (hts (.fieldLink RX2 22 "ExactFractions" "left" "LExactFractions$Whole;") (by decide +kernel)) (fun _ h9 => h9) rfl dX2_layOut_42 ?_
    refine lv_aload_n hx hb dX2_layOut_45 rfl (lv_at hl 0 rfl) ?_
    refine va_get (D := (dC, dI)) (ci := 2) (v := .ref (q 13)) (C := RX2) (T := TX2) (N := 4) hx hb hts (by decide +kernel) hown hK hP 0 rfl rfl 3 (by decide) (hts (.fieldLink RX2 26 "ExactFractions" "right" "LExactFractions$Whole;") (by decide +kernel)) (fun _ h9 => h9) rfl dX2_layOut_46 ?_
    refine ef_callV (As := [.ref (q 13)]) (rest := []) ⟨hx, hb, hml, hown, hts⟩ (c_order l dC dI ht (isW_c (X := A2) (ws := cC cI q (A1) (U1) (b1) (e1) (A2) (U2) (b2) (e2) (A2) (U2 * 2 ^ k)) (k0 := 11) (k1 := 12) (by decide) rfl rfl) (by omega) (isW_c (X := U2 * 2 ^ k) (ws := cC cI q (A1) (U1) (b1) (e1) (A2) (U2) (b2) (e2) (A2) (U2 * 2 ^ k)) (k0 := 13) (k1 := 14) (by decide) rfl rfl) (by omega)) (cwV 1 hts gX2_layOut_X1_order rfl rfl rfl (by decide +kernel) ⟨Nat.le_of_ble_eq_true rfl, Nat.le_of_ble_eq_true rfl⟩) hK hNX hP hD hS 11 rfl rfl rfl rfl hl.1 rfl (Nat.le_of_ble_eq_true rfl) dX2_layOut_49 ⟨Nat.zero_le _, Nat.zero_le _⟩ (fun o w1 H locs hq hP hD hS => ?_)
    obtain ⟨rfl, e9⟩ := hq
    rw [e9] at hP hD
    refine W.eq (g2 := F0 m 52 ls [.int (iv (zc ((A2 : Nat) : Int) ((U2 * 2 ^ k : Nat) : Int)))]) rfl ?_
    refine iw_if_lt (tgt := 60) hx hb dX2_layOut_52 (by decide) (ir_zc _ _) (fun c1 => ?_) (fun c1 => ?_)
    ·
      have c2 : (A2) < (U2 * 2 ^ k) := by
        rcases Nat.lt_or_ge (A2) (U2 * 2 ^ k) with q | q
        · exact q
        · exact absurd ((zc_ge _ _).2 (Int.ofNat_le.mpr q)) (by omega)
      refine lv_aload_n hx hb dX2_layOut_60 rfl (lv_at hl 0 rfl) ?_
      refine va_get (D := (dC, dI)) (ci := 2) (v := .ref (q 11)) (C := RX2) (T := TX2) (N := 4) hx hb hts (by decide +kernel) hown hK hP 0 rfl rfl 2 (by decide) (hts (.fieldLink RX2 22 "ExactFractions" "left" "LExactFractions$Whole;") (by decide +kernel)) (fun _ h9 => h9) rfl dX2_layOut_61 ?_
      refine lv_iconst (v := iv (1)) hx hb dX2_layOut_64 (by decide) ?_
      refine iw_topi (y := iv (((1 : Nat) : Int))) (congrArg iv (by omega : ((1) : Int) = (((1 : Nat) : Int)))) ?_
      refine ef_callV (As := [.int (iv (((1 : Nat) : Int)))]) (rest := []) ⟨hx, hb, hml, hown, hts⟩ (c_shiftUp l dC dI ht (isW_c (X := A2) (ws := cC cI q (A1) (U1) (b1) (e1) (A2) (U2) (b2) (e2) (A2) (U2 * 2 ^ k)) (k0 := 11) (k1 := 12) (by decide) rfl rfl) (by omega) 1 (by omega)) (cwV 1 hts gX2_layOut_X1_shiftUp rfl rfl rfl (by decide +kernel) ⟨Nat.le_of_ble_eq_true rfl, Nat.le_of_ble_eq_true rfl⟩) hK hNX hP hD hS 11 rfl rfl rfl rfl hl.1 rfl (Nat.le_of_ble_eq_true rfl) dX2_layOut_65 ⟨Nat.zero_le _, Nat.zero_le _⟩ (fun o w1 H locs hq hP hD hS => ?_)
      obtain ⟨rfl, rfl⟩ := hq
      have hP : va_P (dC, dI) vwCl (cC cI q (A1) (U1) (b1) (e1) (A2) (U2) (b2) (e2) (A2 * 2 ^ 1) (U2 * 2 ^ k)) H := hP
      have hD : va_D (ef_A (cC cI q (A1) (U1) (b1) (e1) (A2) (U2) (b2) (e2) (L) (R))) (cC cI q (A1) (U1) (b1) (e1) (A2) (U2) (b2) (e2) (A2 * 2 ^ 1) (U2 * 2 ^ k)) := hD
      refine W.eq (g2 := F0 m 68 ls []) rfl ?_
      have wl2 : wl (A2 * 2 ^ 1) ≤ 301 := by rw [wl_of_bl, bl_shift nL1]; omega
      refine lv_aload_n hx hb dX2_layOut_68 rfl (lv_at hl 1 rfl) ?_
      refine ef_callV (As := []) (rest := []) ⟨hx, hb, hml, hown, hts⟩ (c_rank1 l dC dI ht q hA1 hU1 hA2 hU2 wl2 (by omega)) (cwV 0 hts gX2_layOut_X0_rank rfl rfl rfl (by decide +kernel) ⟨Nat.le_of_ble_eq_true rfl, Nat.le_of_ble_eq_true rfl⟩) hK hNX hP hD hS 2 rfl rfl rfl rfl hl.1 rfl (Nat.le_of_ble_eq_true rfl) dX2_layOut_69 ⟨Nat.zero_le _, Nat.zero_le _⟩ (fun o w1 H locs hq hP hD hS => ?_)
      obtain ⟨rfl, e9⟩ := hq
      rw [e9] at hP hD
      refine W.eq (g2 := F0 m 72 ls [.int (iv ((bl A2 : Int) - (bl U2 : Int) + e2))]) rfl ?_
      refine lv_iconst (v := iv (1)) hx hb dX2_layOut_72 (by decide) ?_
      refine iw_isub hx hb dX2_layOut_73 ?_
      refine iw_topi (y := iv ((k : Int) + e2 - 1)) (congrArg iv (by omega : ((((bl A2 : Int) - (bl U2 : Int) + e2) - (1)) : Int) = ((k : Int) + e2 - 1))) ?_
      exact ef_iret hx hb hr hlocks hP hD hS dX2_layOut_74 (⟨_, _, _, rfl, rfl, by omega, by omega, by
            have q := pw_add (z := (k : Int) + e2 - 1) (by omega) 1
            rw [show (k : Int) + e2 - 1 + ((1 : Nat) : Int) = (k : Int) + e2 by omega] at q
            rw [hrel, q, Nat.mul_right_comm (A2) (2 ^ 1), Nat.mul_comm (pw _) (2 ^ 1), ← Nat.mul_assoc], by omega, by omega, hbr1⟩)
    ·
      have c2 : (U2 * 2 ^ k) ≤ (A2) := by have := (zc_ge _ _).1 c1; omega
      refine lv_aload_n hx hb dX2_layOut_55 rfl (lv_at hl 1 rfl) ?_
      refine ef_callV (As := []) (rest := []) ⟨hx, hb, hml, hown, hts⟩ (c_rank1 l dC dI ht q hA1 hU1 hA2 hU2 (by omega) (by omega)) (cwV 0 hts gX2_layOut_X0_rank rfl rfl rfl (by decide +kernel) ⟨Nat.le_of_ble_eq_true rfl, Nat.le_of_ble_eq_true rfl⟩) hK hNX hP hD hS 2 rfl rfl rfl rfl hl.1 rfl (Nat.le_of_ble_eq_true rfl) dX2_layOut_56 ⟨Nat.zero_le _, Nat.zero_le _⟩ (fun o w1 H locs hq hP hD hS => ?_)
      obtain ⟨rfl, e9⟩ := hq
      rw [e9] at hP hD
      refine W.eq (g2 := F0 m 59 ls [.int (iv ((bl A2 : Int) - (bl U2 : Int) + e2))]) rfl ?_
      refine iw_topi (y := iv ((k : Int) + e2)) (congrArg iv (by omega : (((bl A2 : Int) - (bl U2 : Int) + e2) : Int) = ((k : Int) + e2))) ?_
      exact ef_iret hx hb hr hlocks hP hD hS dX2_layOut_59 (⟨_, _, _, rfl, rfl, c2, by omega, hrel, by omega, by omega, hbr1⟩)

set_option maxRecDepth 100000 in
set_option maxHeartbeats 4000000 in
/-- quotient -/
theorem c_quotient (l : Launch) (dC : Nat → ClassId) (dI : Nat → Nat → Nat) {cI : ClassId} {tys : List (ClassId × FieldType)} (ht : tys[0]? = some (cI, .int)) (q : Nat → Nat) {A1 U1 A2 U2 L R : Nat} {b1 e1 b2 e2 : Int} (hA1 : wl A1 ≤ 150) (hU1 : wl U1 ≤ 150) (hA2 : wl A2 ≤ 150) (hU2 : wl U2 ≤ 150) (hL : wl L ≤ 301) (hR : wl R ≤ 301) (d : Nat) (hd : d ≤ 53) (hLR : L < 2 * R) (bR : bl R ≤ 4800) : ef_C l yX2_quotient wsX2_quotient ({ frames := 3, cells := 0, slots := 0, locals := 72 } : Room) [.ref (q 0), .int (iv ((d : Int)))] (dC, dI) vwCl tys (cC cI q (A1) (U1) (b1) (e1) (A2) (U2) (b2) (e2) (L) (R)) (fun o w1 => ∃ (f X : Nat), o = some (.long (jv (f : Int))) ∧ w1 = cC cI q (A1) (U1) (b1) (e1) (A2) (U2) (b2) (e2) (X) (R) ∧ X + 2 * (f * R) = L * 2 ^ d ∧ X < 2 * R ∧ f < 2 ^ d) := by
  refine ef_C.of (cc := cX2_quotient) (maxL := 5) (ret := (some .long)) (by decide) rfl (Nat.le_of_ble_eq_true rfl) ?_
  intro p e s m below meth c ls hx hb hml hr hts hown hlocks hK hNX hP hD hS hl
  have hl : lv_has ls 5 [(0, .ref (q 0)), (1, .int (iv ((d : Int))))] := hl
  have hown : s.vm.findClass RX2 = some m.cls := hown
  generalize hH : s.heap = H at hP ⊢
  have hS : va_S (ef_A (cC cI q (A1) (U1) (b1) (e1) (A2) (U2) (b2) (e2) (L) (R))) s.heap H [] := by rw [← hH]; exact hS
  generalize ([] : List Loc) = locs at hS ⊢
  have wR9 := wl_of_bl R
  have hR2 : ∀ X, X < 2 * R → wl X ≤ 152 := fun X q => by
    have h1 := wl_mono (Nat.le_of_lt q)
    have h2 := wl_add (k := 151) (Y := R) (Z := R) (by omega) (by omega)
    rw [show R + R = 2 * R by omega] at h2
    omega
  refine lv_lconst (v := jv (0)) hx hb dX2_quotient_0 (by decide) ?_
  refine lv_lstore_n (lv' := [(2, .long (jv (0))), (0, .ref (q 0)), (1, .int (iv ((d : Int))))]) hx hb dX2_quotient_1 rfl hl (by decide) rfl (fun ls hl => ?_)
  refine lv_iconst (v := iv (0)) hx hb dX2_quotient_2 (by decide) ?_
  refine lv_istore (lv' := [(4, .int (iv (0))), (2, .long (jv (0))), (0, .ref (q 0)), (1, .int (iv ((d : Int))))]) hx hb dX2_quotient_3 hl (by decide) rfl (fun ls hl => ?_)
  have loop : ∀ (fuel : Nat) (i : Nat) (f : Nat) (X : Nat), (i ≤ d) → (X + 2 * (f * R) = L * 2 ^ i) → (X < 2 * R) → (f < 2 ^ i) → (d < i + fuel) → ∀ (H : Heap) (locs : List Loc) (ls : Array Slot), va_P (dC, dI) vwCl (cC cI q (A1) (U1) (b1) (e1) (A2) (U2) (b2) (e2) (X) (R)) H → va_D (ef_A (cC cI q (A1) (U1) (b1) (e1) (A2) (U2) (b2) (e2) (L) (R))) (cC cI q (A1) (U1) (b1) (e1) (A2) (U2) (b2) (e2) (X) (R)) → va_S (ef_A (cC cI q (A1) (U1) (b1) (e1) (A2) (U2) (b2) (e2) (L) (R))) s.heap H locs → lv_has ls 5 [(0, .ref (q 0)), (1, .int (iv ((d : Int)))), (2, .long (jv ((f : Int)))), (4, .int (iv ((i : Int))))] → W p l e ({ frames := 3, cells := 0, slots := 0, locals := 72 } : Room) s m ([.ref (q 0), .int (iv ((d : Int)))] : List Value).toArray below meth c H locs 0 0 (ef_R below (dC, dI) vwCl (cC cI q (A1) (U1) (b1) (e1) (A2) (U2) (b2) (e2) (L) (R)) (fun o w1 => ∃ (f X : Nat), o = some (.long (jv (f : Int))) ∧ w1 = cC cI q (A1) (U1) (b1) (e1) (A2) (U2) (b2) (e2) (X) (R) ∧ X + 2 * (f * R) = L * 2 ^ d ∧ X < 2 * R ∧ f < 2 ^ d) [.ref (q 0), .int (iv ((d : Int)))] s) (F0 m 5 ls []) := by
    intro fuel
    induction fuel with
    | zero => intro i f X h1 h2 h3 h4 h5; exfalso; omega
    | succ fuel ih =>
      intro i f X h1 h2 h3 h4 h5 H locs ls hP hD hS hl
      have hwX := hR2 X h3
      refine lv_iload hx hb dX2_quotient_5 (lv_at hl 3 rfl) ?_
      refine lv_iload_n hx hb dX2_quotient_7 rfl (lv_at hl 1 rfl) ?_
      refine iw_icmp_ge (tgt := 62) hx hb dX2_quotient_8 (by decide) ⟨by omega, by omega⟩ ⟨by omega, by omega⟩ (fun c1 => ?_) (fun c1 => ?_)
      ·
        have hi : i = d := by omega
        subst hi
        refine lv_lload_n hx hb dX2_quotient_62 rfl (lv_at hl 2 rfl) ?_
        exact ef_lret hx hb hr hlocks hP hD hS dX2_quotient_63 (⟨_, _, rfl, rfl, h2, h3, h4⟩)
      ·
        have h2i : 2 ^ i ≤ 2 ^ 52 := Nat.pow_le_pow_right (by decide) (by omega)
        have h53 : (2 : Nat) ^ 52 = 4503599627370496 := rfl
        refine lv_lload_n hx hb dX2_quotient_11 rfl (lv_at hl 2 rfl) ?_
        refine lv_iconst (v := iv (1)) hx hb dX2_quotient_12 (by decide) ?_
        refine iw_topi (y := iv (((1 : Nat) : Int))) (congrArg iv (by omega : ((1) : Int) = (((1 : Nat) : Int)))) ?_
        refine iw_lshlk (w := f) (k := 1) hx hb (by decide) dX2_quotient_13 ?_
        refine iw_topl (y := jv (((f * 2 : Nat) : Int))) (congrArg jv (by rfl : ((((f * 2 ^ 1 : Nat) : Int)) : Int) = (((f * 2 : Nat) : Int)))) ?_
        refine lv_lstore_n (lv' := [(2, .long (jv (((f * 2 : Nat) : Int)))), (0, .ref (q 0)), (1, .int (iv ((d : Int)))), (4, .int (iv ((i : Int))))]) hx hb dX2_quotient_14 rfl hl (by decide) rfl (fun ls hl => ?_)
        refine lv_aload_n hx hb dX2_quotient_15 rfl (lv_at hl 1 rfl) ?_
        refine va_get (D := (dC, dI)) (ci := 2) (v := .ref (q 11)) (C := RX2) (T := TX2) (N := 4) hx hb hts (by decide +kernel) hown hK hP 0 rfl rfl 2 (by decide) (hts (.fieldLink RX2 22 "ExactFractions" "left" "LExactFractions$Whole;") (by decide +kernel)) (fun _ h9 => h9) rfl dX2_quotient_16 ?_
        refine lv_aload_n hx hb dX2_quotient_19 rfl (lv_at hl 1 rfl) ?_
        refine va_get (D := (dC, dI)) (ci := 2) (v := .ref (q 13)) (C := RX2) (T := TX2) (N := 4) hx hb hts (by decide +kernel) hown hK hP 0 rfl rfl 3 (by decide) (hts (.fieldLink RX2 26 "ExactFractions" "right" "LExactFractions$Whole;") (by decide +kernel)) (fun _ h9 => h9) rfl dX2_quotient_20 ?_
        refine ef_callV (As := [.ref (q 13)]) (rest := []) ⟨hx, hb, hml, hown, hts⟩ (c_order l dC dI ht (isW_c (X := X) (ws := cC cI q (A1) (U1) (b1) (e1) (A2) (U2) (b2) (e2) (X) (R)) (k0 := 11) (k1 := 12) (by decide) rfl rfl) (by omega) (isW_c (X := R) (ws := cC cI q (A1) (U1) (b1) (e1) (A2) (U2) (b2) (e2) (X) (R)) (k0 := 13) (k1 := 14) (by decide) rfl rfl) (by omega)) (cwV 1 hts gX2_quotient_X1_order rfl rfl rfl (by decide +kernel) ⟨Nat.le_of_ble_eq_true rfl, Nat.le_of_ble_eq_true rfl⟩) hK hNX hP hD hS 11 rfl rfl rfl rfl hl.1 rfl (Nat.le_of_ble_eq_true rfl) dX2_quotient_23 ⟨Nat.zero_le _, Nat.zero_le _⟩ (fun o w1 H locs hq hP hD hS => ?_)
        obtain ⟨rfl, e9⟩ := hq
        rw [e9] at hP hD
        refine W.eq (g2 := F0 m 26 ls [.int (iv (zc (X : Int) (R : Int)))]) rfl ?_
        refine iw_if_lt (tgt := 48) hx hb dX2_quotient_26 (by decide) (ir_zc _ _) (fun c2 => ?_) (fun c2 => ?_)
        ·
          have c3 : X < R := by
            rcases Nat.lt_or_ge X R with q | q
            · exact q
            · exact absurd ((zc_ge _ _).2 (Int.ofNat_le.mpr q)) (by omega)
          have hwX2 : wl (X) ≤ 151 := Nat.le_trans (wl_mono (by omega : X ≤ R)) (by omega)
          refine lv_aload_n hx hb dX2_quotient_48 rfl (lv_at hl 1 rfl) ?_
          refine va_get (D := (dC, dI)) (ci := 2) (v := .ref (q 11)) (C := RX2) (T := TX2) (N := 4) hx hb hts (by decide +kernel) hown hK hP 0 rfl rfl 2 (by decide) (hts (.fieldLink RX2 22 "ExactFractions" "left" "LExactFractions$Whole;") (by decide +kernel)) (fun _ h9 => h9) rfl dX2_quotient_49 ?_
          refine lv_iconst (v := iv (1)) hx hb dX2_quotient_52 (by decide) ?_
          refine iw_topi (y := iv (((1 : Nat) : Int))) (congrArg iv (by omega : ((1) : Int) = (((1 : Nat) : Int)))) ?_
          refine ef_callV (As := [.int (iv (((1 : Nat) : Int)))]) (rest := []) ⟨hx, hb, hml, hown, hts⟩ (c_shiftUp l dC dI ht (isW_c (X := X) (ws := cC cI q (A1) (U1) (b1) (e1) (A2) (U2) (b2) (e2) (X) (R)) (k0 := 11) (k1 := 12) (by decide) rfl rfl) (by omega) 1 (by omega)) (cwV 1 hts gX2_quotient_X1_shiftUp rfl rfl rfl (by decide +kernel) ⟨Nat.le_of_ble_eq_true rfl, Nat.le_of_ble_eq_true rfl⟩) hK hNX hP hD hS 11 rfl rfl rfl rfl hl.1 rfl (Nat.le_of_ble_eq_true rfl) dX2_quotient_53 ⟨Nat.zero_le _, Nat.zero_le _⟩ (fun o w1 H locs hq hP hD hS => ?_)
          obtain ⟨rfl, rfl⟩ := hq
          have hP : va_P (dC, dI) vwCl (cC cI q (A1) (U1) (b1) (e1) (A2) (U2) (b2) (e2) ((X) * 2 ^ 1) (R)) H := hP
          have hD : va_D (ef_A (cC cI q (A1) (U1) (b1) (e1) (A2) (U2) (b2) (e2) (L) (R))) (cC cI q (A1) (U1) (b1) (e1) (A2) (U2) (b2) (e2) ((X) * 2 ^ 1) (R)) := hD
          refine W.eq (g2 := F0 m 56 ls []) rfl ?_
          refine lv_iinc (v := iv (((i + 1 : Nat) : Int))) (lv' := [(4, .int (iv (((i + 1 : Nat) : Int)))), (2, .long (jv (((f * 2 : Nat) : Int)))), (0, .ref (q 0)), (1, .int (iv ((d : Int))))]) hx hb dX2_quotient_56 hl (k := 3) rfl (iv_inc i) (by decide) rfl (fun ls hl => ?_)
          refine lv_goto (tgt := 5) hx hb dX2_quotient_59 (by decide) ?_
          exact ih (i + 1) (f * 2) ((X) * 2 ^ 1) (by omega) (by rw [show L * 2 ^ (i + 1) = L * 2 ^ i * 2 by rw [Nat.pow_succ, Nat.mul_assoc], ← h2, Nat.mul_right_comm f 2 R, Nat.pow_one]; omega) (by omega) (by rw [Nat.pow_succ]; omega) (by omega) H locs ls hP hD hS (lv_sub hl [2, 3, 1, 0] rfl)
        ·
          have c3 : R ≤ X := by have := (zc_ge _ _).1 c2; omega
          refine lv_aload_n hx hb dX2_quotient_29 rfl (lv_at hl 1 rfl) ?_
          refine va_get (D := (dC, dI)) (ci := 2) (v := .ref (q 11)) (C := RX2) (T := TX2) (N := 4) hx hb hts (by decide +kernel) hown hK hP 0 rfl rfl 2 (by decide) (hts (.fieldLink RX2 22 "ExactFractions" "left" "LExactFractions$Whole;") (by decide +kernel)) (fun _ h9 => h9) rfl dX2_quotient_30 ?_
          refine lv_aload_n hx hb dX2_quotient_33 rfl (lv_at hl 1 rfl) ?_
          refine va_get (D := (dC, dI)) (ci := 2) (v := .ref (q 11)) (C := RX2) (T := TX2) (N := 4) hx hb hts (by decide +kernel) hown hK hP 0 rfl rfl 2 (by decide) (hts (.fieldLink RX2 22 "ExactFractions" "left" "LExactFractions$Whole;") (by decide +kernel)) (fun _ h9 => h9) rfl dX2_quotient_34 ?_
          refine lv_aload_n hx hb dX2_quotient_37 rfl (lv_at hl 1 rfl) ?_
          refine va_get (D := (dC, dI)) (ci := 2) (v := .ref (q 13)) (C := RX2) (T := TX2) (N := 4) hx hb hts (by decide +kernel) hown hK hP 0 rfl rfl 3 (by decide) (hts (.fieldLink RX2 26 "ExactFractions" "right" "LExactFractions$Whole;") (by decide +kernel)) (fun _ h9 => h9) rfl dX2_quotient_38 ?_
          refine ef_callV (As := [.ref (q 11), .ref (q 13)]) (rest := []) ⟨hx, hb, hml, hown, hts⟩ (c_diffA l dC dI ht (isW_c (X := X) (ws := cC cI q (A1) (U1) (b1) (e1) (A2) (U2) (b2) (e2) (X) (R)) (k0 := 11) (k1 := 12) (by decide) rfl rfl) (by omega) (isW_c (X := R) (ws := cC cI q (A1) (U1) (b1) (e1) (A2) (U2) (b2) (e2) (X) (R)) (k0 := 13) (k1 := 14) (by decide) rfl rfl) (by omega) (apt_c (k0 := 11) (k1 := 12) (j0 := 13) (j1 := 14) rfl) c3) (cwV 2 hts gX2_quotient_X1_becomeDifference rfl rfl rfl (by decide +kernel) ⟨Nat.le_of_ble_eq_true rfl, Nat.le_of_ble_eq_true rfl⟩) hK hNX hP hD hS 11 rfl rfl rfl rfl hl.1 rfl (Nat.le_of_ble_eq_true rfl) dX2_quotient_41 ⟨Nat.zero_le _, Nat.zero_le _⟩ (fun o w1 H locs hq hP hD hS => ?_)
          obtain ⟨rfl, rfl⟩ := hq
          have hP : va_P (dC, dI) vwCl (cC cI q (A1) (U1) (b1) (e1) (A2) (U2) (b2) (e2) (X - R) (R)) H := hP
          have hD : va_D (ef_A (cC cI q (A1) (U1) (b1) (e1) (A2) (U2) (b2) (e2) (L) (R))) (cC cI q (A1) (U1) (b1) (e1) (A2) (U2) (b2) (e2) (X - R) (R)) := hD
          refine W.eq (g2 := F0 m 44 ls []) rfl ?_
          refine lv_lload_n hx hb dX2_quotient_44 rfl (lv_at hl 0 rfl) ?_
          refine lv_lconst (v := jv (1)) hx hb dX2_quotient_45 (by decide) ?_
          refine iw_lor1 hx hb (by omega) dX2_quotient_46 ?_
          have hwX2 : wl (X - R) ≤ 151 := Nat.le_trans (wl_mono (by omega : X - R ≤ R)) (by omega)
          refine lv_lstore_n (lv' := [(2, .long (jv (((f * 2 + 1 : Nat) : Int)))), (0, .ref (q 0)), (1, .int (iv ((d : Int)))), (4, .int (iv ((i : Int))))]) hx hb dX2_quotient_47 rfl hl (by decide) rfl (fun ls hl => ?_)
          refine lv_aload_n hx hb dX2_quotient_48 rfl (lv_at hl 1 rfl) ?_
          refine va_get (D := (dC, dI)) (ci := 2) (v := .ref (q 11)) (C := RX2) (T := TX2) (N := 4) hx hb hts (by decide +kernel) hown hK hP 0 rfl rfl 2 (by decide) (hts (.fieldLink RX2 22 "ExactFractions" "left" "LExactFractions$Whole;") (by decide +kernel)) (fun _ h9 => h9) rfl dX2_quotient_49 ?_
          refine lv_iconst (v := iv (1)) hx hb dX2_quotient_52 (by decide) ?_
          refine iw_topi (y := iv (((1 : Nat) : Int))) (congrArg iv (by omega : ((1) : Int) = (((1 : Nat) : Int)))) ?_
          refine ef_callV (As := [.int (iv (((1 : Nat) : Int)))]) (rest := []) ⟨hx, hb, hml, hown, hts⟩ (c_shiftUp l dC dI ht (isW_c (X := X - R) (ws := cC cI q (A1) (U1) (b1) (e1) (A2) (U2) (b2) (e2) (X - R) (R)) (k0 := 11) (k1 := 12) (by decide) rfl rfl) (by omega) 1 (by omega)) (cwV 1 hts gX2_quotient_X1_shiftUp rfl rfl rfl (by decide +kernel) ⟨Nat.le_of_ble_eq_true rfl, Nat.le_of_ble_eq_true rfl⟩) hK hNX hP hD hS 11 rfl rfl rfl rfl hl.1 rfl (Nat.le_of_ble_eq_true rfl) dX2_quotient_53 ⟨Nat.zero_le _, Nat.zero_le _⟩ (fun o w1 H locs hq hP hD hS => ?_)
          obtain ⟨rfl, rfl⟩ := hq
          have hP : va_P (dC, dI) vwCl (cC cI q (A1) (U1) (b1) (e1) (A2) (U2) (b2) (e2) ((X - R) * 2 ^ 1) (R)) H := hP
          have hD : va_D (ef_A (cC cI q (A1) (U1) (b1) (e1) (A2) (U2) (b2) (e2) (L) (R))) (cC cI q (A1) (U1) (b1) (e1) (A2) (U2) (b2) (e2) ((X - R) * 2 ^ 1) (R)) := hD
          refine W.eq (g2 := F0 m 56 ls []) rfl ?_
          refine lv_iinc (v := iv (((i + 1 : Nat) : Int))) (lv' := [(4, .int (iv (((i + 1 : Nat) : Int)))), (2, .long (jv (((f * 2 + 1 : Nat) : Int)))), (0, .ref (q 0)), (1, .int (iv ((d : Int))))]) hx hb dX2_quotient_56 hl (k := 3) rfl (iv_inc i) (by decide) rfl (fun ls hl => ?_)
          refine lv_goto (tgt := 5) hx hb dX2_quotient_59 (by decide) ?_
          exact ih (i + 1) (f * 2 + 1) ((X - R) * 2 ^ 1) (by omega) (by rw [show L * 2 ^ (i + 1) = L * 2 ^ i * 2 by rw [Nat.pow_succ, Nat.mul_assoc], ← h2, Nat.add_mul (f * 2) 1 R, Nat.mul_right_comm f 2 R, Nat.pow_one]; omega) (by omega) (by rw [Nat.pow_succ]; omega) (by omega) H locs ls hP hD hS (lv_sub hl [2, 3, 1, 0] rfl)
  exact loop (d + 1) (0) (0) (L) (Nat.zero_le _) (by rw [Nat.pow_zero, Nat.mul_one, Nat.zero_mul]; omega) (hLR) (by decide) (by omega) H locs ls hP hD hS (lv_sub hl [2, 3, 1, 0] rfl)

set_option maxRecDepth 100000 in
set_option maxHeartbeats 4000000 in
/-- quotient of no digits -/
theorem c_quotient0 (l : Launch) (dC : Nat → ClassId) (dI : Nat → Nat → Nat) {cI : ClassId} {tys : List (ClassId × FieldType)} (ht : tys[0]? = some (cI, .int)) (q : Nat → Nat) {A1 U1 A2 U2 L R : Nat} {b1 e1 b2 e2 : Int} (hA1 : wl A1 ≤ 150) (hU1 : wl U1 ≤ 150) (hA2 : wl A2 ≤ 150) (hU2 : wl U2 ≤ 150) (hL : wl L ≤ 301) (hR : wl R ≤ 301) (dz : Int) (hd : dz ≤ 0) (hd2 : -30000 ≤ dz) : ef_C l yX2_quotient wsX2_quotient ({ frames := 3, cells := 0, slots := 0, locals := 72 } : Room) [.ref (q 0), .int (iv (dz))] (dC, dI) vwCl tys (cC cI q (A1) (U1) (b1) (e1) (A2) (U2) (b2) (e2) (L) (R)) (fun o w1 => o = some (.long (jv 0)) ∧ w1 = cC cI q (A1) (U1) (b1) (e1) (A2) (U2) (b2) (e2) (L) (R)) := by
  refine ef_C.of (cc := cX2_quotient) (maxL := 5) (ret := (some .long)) (by decide) rfl (Nat.le_of_ble_eq_true rfl) ?_
  intro p e s m below meth c ls hx hb hml hr hts hown hlocks hK hNX hP hD hS hl
  have hl : lv_has ls 5 [(0, .ref (q 0)), (1, .int (iv (dz)))] := hl
  have hown : s.vm.findClass RX2 = some m.cls := hown
  generalize hH : s.heap = H at hP ⊢
  have hS : va_S (ef_A (cC cI q (A1) (U1) (b1) (e1) (A2) (U2) (b2) (e2) (L) (R))) s.heap H [] := by rw [← hH]; exact hS
  generalize ([] : List Loc) = locs at hS ⊢
  refine lv_lconst (v := jv (0)) hx hb dX2_quotient_0 (by decide) ?_
  refine lv_lstore_n (lv' := [(2, .long (jv (0))), (0, .ref (q 0)), (1, .int (iv (dz)))]) hx hb dX2_quotient_1 rfl hl (by decide) rfl (fun ls hl => ?_)
  refine lv_iconst (v := iv (0)) hx hb dX2_quotient_2 (by decide) ?_
  refine lv_istore (lv' := [(4, .int (iv (0))), (2, .long (jv (0))), (0, .ref (q 0)), (1, .int (iv (dz)))]) hx hb dX2_quotient_3 hl (by decide) rfl (fun ls hl => ?_)
  refine lv_iload hx hb dX2_quotient_5 (lv_at hl 0 rfl) ?_
  refine lv_iload_n hx hb dX2_quotient_7 rfl (lv_at hl 3 rfl) ?_
  refine iw_icmp_ge (tgt := 62) hx hb dX2_quotient_8 (by decide) ⟨by omega, by omega⟩ ⟨by omega, by omega⟩ (fun c1 => ?_) (fun c1 => ?_)
  ·
    refine lv_lload_n hx hb dX2_quotient_62 rfl (lv_at hl 1 rfl) ?_
    exact ef_lret hx hb hr hlocks hP hD hS dX2_quotient_63 (⟨rfl, rfl⟩)
  ·
    exact absurd c1 (by omega)
end
section
/-- fv of a scaled float, against a size -/
theorem fv_scale {f w U : Nat} : f * 2 ^ w * U * pw (-1074) = f * U * pw (-1074 + (w : Int)) := by
  rw [pw_add (by omega), Nat.mul_right_comm f, Nat.mul_assoc (f * U), Nat.mul_comm (2 ^ w)]
theorem fl_of {A U L R : Nat} {e P : Int} {f X d1 w : Nat} (hU : U ≠ 0) (hR : R ≠ 0) (hrel : A * R * pw e = L * U * pw P) (hP : P = -1074 + (w : Int) + (d1 : Int)) (hX : X + 2 * (f * R) = L * 2 ^ (d1 + 1)) (hX2 : X < 2 * R) (m : Nat) (hm : m ≤ 9218868437227405311) (h1 : fv m = f * 2 ^ w) (h2 : m < 9218868437227405311 → fv (m + 1) = (f + 1) * 2 ^ w) : isFl m A U e ∧ (feq m A U e ↔ X = 0) := by
  have q : L * 2 ^ (d1 + 1) = 2 * (L * 2 ^ d1) := by rw [Nat.pow_succ, ← Nat.mul_assoc, Nat.mul_comm]
  rw [q] at hX
  have k1 := lay_le (t := -1074 + (w : Int)) (d := d1) hU hR hrel (by omega) hP f
  have k2 := lay_le (t := -1074 + (w : Int)) (d := d1) hU hR hrel (by omega) hP (f + 1)
  unfold isFl fle feq
  refine ⟨⟨hm, ?_, ?_⟩, ?_⟩
  · rw [h1, fv_scale]
    exact k1.1.2 (by omega)
  · intro hlt
    rw [h2 hlt, fv_scale]
    intro h
    have := k2.1.1 h
    rw [Nat.add_mul, Nat.one_mul] at this
    omega
  · rw [h1, fv_scale, k1.2]
    omega
theorem fl_sub {A U L R : Nat} {e P : Int} {f X d : Nat} (hU : U ≠ 0) (hR : R ≠ 0) (hrel : A * R * pw e = L * U * pw P) (h1 : -1074 ≤ P) (h2 : P ≤ -1022) (hd : (d : Int) = P + 1075) (hX : X + 2 * (f * R) = L * 2 ^ d) (hX2 : X < 2 * R) (hf : f < 2 ^ d) : isFl f A U e ∧ (feq f A U e ↔ X = 0) := by
  have hf2 : f < 9007199254740992 := Nat.lt_of_lt_of_le hf (show 2 ^ d ≤ 2 ^ 53 from Nat.pow_le_pow_right (by decide) (by omega))
  obtain ⟨d1, rfl⟩ : ∃ d1, d = d1 + 1 := ⟨d - 1, by omega⟩
  refine fl_of (w := 0) (d1 := d1) hU hR hrel (by omega) hX hX2 f (by omega) ?_ (fun _ => ?_)
  · rw [fv_small (by omega), Nat.pow_zero, Nat.mul_one]
  · rw [fv_small (by omega), Nat.pow_zero, Nat.mul_one]
theorem fl_nor {A U L R : Nat} {e P : Int} {f X w : Nat} (hU : U ≠ 0) (hR : R ≠ 0) (hrel : A * R * pw e = L * U * pw P) (hRL : R ≤ L) (h1 : -1022 ≤ P) (h2 : P ≤ 1023) (hw : (w : Int) = P + 1022) (hX : X + 2 * (f * R) = L * 2 ^ 53) (hX2 : X < 2 * R) (hf : f < 2 ^ 53) : isFl (f + w * 4503599627370496) A U e ∧ (feq (f + w * 4503599627370496) A U e ↔ X = 0) := by
  have hf2 : f < 9007199254740992 := hf
  have hf1 : 4503599627370496 ≤ f := by
    have q1 : R * 2 ^ 53 ≤ L * 2 ^ 53 := Nat.mul_le_mul_right _ hRL
    have q2 : 4503599627370496 * R < (f + 1) * R := by
      rw [Nat.add_mul, Nat.one_mul]
      have q3 : R * 2 ^ 53 = 2 * (4503599627370496 * R) := by rw [show (2 : Nat) ^ 53 = 2 * 4503599627370496 from rfl, Nat.mul_comm R, Nat.mul_assoc]
      omega
    have := Nat.lt_of_mul_lt_mul_right q2
    omega
  refine fl_of (w := w) (d1 := 52) hU hR hrel (by omega) hX hX2 _ (by omega) (fv_norm hf1 (by omega)) (fun _ => ?_)
  rw [show f + w * 4503599627370496 + 1 = (f + 1) + w * 4503599627370496 by omega]
  exact fv_norm (by omega) (by omega)
theorem fl_zero {A U L R : Nat} {e P : Int} (hU : U ≠ 0) (hR : R ≠ 0) (hA : A ≠ 0) (hrel : A * R * pw e = L * U * pw P) (hLR : L < 2 * R) (h1 : -17000 ≤ P) (h2 : P < -1074) : isFl 0 A U e ∧ ¬ feq 0 A U e := by
  have h0 : fv 0 = 0 := fv_small (by decide)
  have h3 : fv 1 = 1 := fv_small (by decide)
  refine ⟨⟨Nat.zero_le _, ?_, fun _ => ?_⟩, ?_⟩
  · unfold fle; rw [h0, Nat.zero_mul, Nat.zero_mul]; exact Nat.zero_le _
  · show ¬ fle (0 + 1) A U e
    unfold fle
    rw [Nat.zero_add, h3, Nat.one_mul]
    intro h
    obtain ⟨k, hk⟩ : ∃ k : Nat, -1074 = P + ((k + 1 : Nat) : Int) := ⟨(-1075 - P).toNat, by omega⟩
    rw [hk, pw_add (by omega)] at h
    have h4 : U * (pw P * 2 ^ (k + 1)) * R ≤ A * pw e * R := Nat.mul_le_mul_right _ h
    rw [Nat.mul_right_comm A, hrel] at h4
    have e1 : U * (pw P * 2 ^ (k + 1)) * R = (2 ^ (k + 1) * R) * (U * pw P) := by
      rw [← Nat.mul_assoc U, Nat.mul_comm (U * pw P), Nat.mul_right_comm]
    rw [e1, Nat.mul_assoc L] at h4
    have h5 := Nat.le_of_mul_le_mul_right h4 (Nat.mul_pos (by omega) (pw_pos P))
    have h6 : 2 * R ≤ 2 ^ (k + 1) * R := Nat.mul_le_mul_right _ (by rw [Nat.pow_succ]; have := Nat.pow_pos (n := k) (show 0 < 2 by decide); omega)
    omega
  · unfold feq
    rw [h0, Nat.zero_mul, Nat.zero_mul]
    intro h
    have := Nat.mul_pos (show 0 < A by omega) (pw_pos e)
    omega
theorem fl_inf {A U L R : Nat} {e P : Int} (hU : U ≠ 0) (hR : R ≠ 0) (hrel : A * R * pw e = L * U * pw P) (hRL : R ≤ L) (h1 : 1023 < P) : isFl 9218868437227405311 A U e ∧ ¬ feq 9218868437227405311 A U e := by
  have h3 : fv 9218868437227405311 = 9007199254740991 * 2 ^ 2045 := by
    have := fv_norm (f := 9007199254740991) (t := 2045) (by omega) (by omega)
    exact this
  obtain ⟨d, hd⟩ : ∃ d : Nat, P = -1074 + ((2045 : Nat) : Int) + (d : Int) := ⟨(P - 971).toNat, by omega⟩
  have k1 := lay_le (t := -1074 + ((2045 : Nat) : Int)) (d := d) hU hR hrel (by omega) hd 9007199254740991
  have h4 : 9007199254740991 * R < L * 2 ^ d := by
    have q1 : 9007199254740992 ≤ 2 ^ d := show 2 ^ 53 ≤ 2 ^ d from Nat.pow_le_pow_right (by decide) (by omega)
    have q2 : R * 9007199254740992 ≤ L * 2 ^ d := Nat.mul_le_mul hRL q1
    omega
  unfold isFl fle feq
  refine ⟨⟨Nat.le_refl _, ?_, fun h => absurd h (Nat.lt_irrefl _)⟩, ?_⟩
  · rw [h3, fv_scale]
    exact k1.1.2 (Nat.le_of_lt h4)
  · rw [h3, fv_scale, k1.2]
    omega
theorem rsz_of {A U : Nat} {e aw : Int} {m X : Nat} (h : isFl m A U e ∧ (feq m A U e ↔ X = 0)) : (aw = 0 ∨ X = 0 → rsz A U e aw m) ∧ (aw ≠ 0 → X ≠ 0 → rsz A U e aw (m + 1)) :=
  ⟨fun q => ⟨m, h.1, Or.inl ⟨q.elim Or.inl (fun q => Or.inr (h.2.2 q)), rfl⟩⟩, fun q1 q2 => ⟨m, h.1, Or.inr ⟨⟨q1, fun q => q2 (h.2.1 q)⟩, rfl⟩⟩⟩
theorem rsz_le {A U : Nat} {e aw : Int} {z : Nat} (h : rsz A U e aw z) : z ≤ 9218868437227405312 := by
  obtain ⟨s, h1, h2⟩ := h
  have := h1.1
  rcases h2 with ⟨-, rfl⟩ | ⟨-, rfl⟩ <;> omega

set_option maxRecDepth 100000 in
set_option maxHeartbeats 4000000 in
/-- roundedSize -/
theorem c_roundedSize0 (l : Launch) (dC : Nat → ClassId) (dI : Nat → Nat → Nat) {cI : ClassId} {tys : List (ClassId × FieldType)} (ht : tys[0]? = some (cI, .int)) (q : Nat → Nat) {A1 U1 A2 U2 L R : Nat} {b1 e1 b2 e2 : Int} (hA1 : wl A1 ≤ 150) (hU1 : wl U1 ≤ 150) (hA2 : wl A2 ≤ 150) (hU2 : wl U2 ≤ 150) (hL : wl L ≤ 301) (hR : wl R ≤ 301) (bA1 : bl A1 ≤ 4800) (bU1 : bl U1 ≤ 4800) (bA2 : bl A2 ≤ 4800) (bU2 : bl U2 ≤ 4800) (le1 : -12000 ≤ e1) (ge1 : e1 ≤ 12000) (le2 : -12000 ≤ e2) (ge2 : e2 ≤ 12000) (nA : A1 ≠ 0) (nU : U1 ≠ 0) (aw : Int) (haw : ir aw) : ef_C l yX2_roundedSize wsX2_roundedSize ({ frames := 5, cells := 0, slots := 0, locals := 114 } : Room) [.ref (q 0), .ref (q 1), .int (iv (aw))] (dC, dI) vwCl tys (cC cI q (A1) (U1) (b1) (e1) (A2) (U2) (b2) (e2) (L) (R)) (fun o w1 => ∃ (L2 R2 z : Nat), o = some (.long (jv (z : Int))) ∧ w1 = cC cI q (A1) (U1) (b1) (e1) (A2) (U2) (b2) (e2) (L2) (R2) ∧ wl L2 ≤ 301 ∧ wl R2 ≤ 301 ∧ rsz A1 U1 e1 aw z) := by
  refine ef_C.of (cc := cX2_roundedSize) (maxL := 6) (ret := (some .long)) (by decide) rfl (Nat.le_of_ble_eq_true rfl) ?_
  intro p e s m below meth c ls hx hb hml hr hts hown hlocks hK hNX hP hD hS hl
  have hl : lv_has ls 6 [(0, .ref (q 0)), (1, .ref (q 1)), (2, .int (iv (aw)))] := hl
  have hown : s.vm.findClass RX2 = some m.cls := hown
  generalize hH : s.heap = H at hP ⊢
  have hS : va_S (ef_A (cC cI q (A1) (U1) (b1) (e1) (A2) (U2) (b2) (e2) (L) (R))) s.heap H [] := by rw [← hH]; exact hS
  generalize ([] : List Loc) = locs at hS ⊢
  refine lv_aload_n hx hb dX2_roundedSize_0 rfl (lv_at hl 0 rfl) ?_
  refine lv_aload_n hx hb dX2_roundedSize_1 rfl (lv_at hl 1 rfl) ?_
  refine ef_callV (As := [.ref (q 1)]) (rest := []) ⟨hx, hb, hml, hown, hts⟩ (c_layOut0 l dC dI ht q hA1 hU1 hA2 hU2 hL hR bA1 bU1 bA2 bU2 le1 ge1 le2 ge2 nA nU) (cwV 1 hts gX2_roundedSize_X2_layOut rfl rfl rfl (by decide +kernel) ⟨Nat.le_of_ble_eq_true rfl, Nat.le_of_ble_eq_true rfl⟩) hK hNX hP hD hS 0 rfl rfl rfl rfl hl.1 rfl (Nat.le_of_ble_eq_true rfl) dX2_roundedSize_2 ⟨Nat.zero_le _, Nat.zero_le _⟩ (fun o w1 H locs hq hP hD hS => ?_)
  obtain ⟨L1, R1, P, rfl, rfl, hRL, hLR, hrel, hP1, hP2, hbR⟩ := hq
  have hP : va_P (dC, dI) vwCl (cC cI q (A1) (U1) (b1) (e1) (A2) (U2) (b2) (e2) (L1) (R1)) H := hP
  have hD : va_D (ef_A (cC cI q (A1) (U1) (b1) (e1) (A2) (U2) (b2) (e2) (L) (R))) (cC cI q (A1) (U1) (b1) (e1) (A2) (U2) (b2) (e2) (L1) (R1)) := hD
  refine W.eq (g2 := F0 m 5 ls [.int (iv (P))]) rfl ?_
  have nR1 : R1 ≠ 0 := by omega
  have wR1 : wl R1 ≤ 150 := wl_bl (by omega)
  have wX : ∀ X, X < 2 * R1 → wl X ≤ 301 := fun X q => by
    have h1 := wl_mono (Nat.le_of_lt q)
    have h2 := wl_add (k := 150) (Y := R1) (Z := R1) (by omega) (by omega)
    rw [show R1 + R1 = 2 * R1 by omega] at h2
    omega
  have wL1 := wX L1 hLR
  refine lv_istore_n (lv' := [(3, .int (iv (P))), (0, .ref (q 0)), (1, .ref (q 1)), (2, .int (iv (aw)))]) hx hb dX2_roundedSize_5 rfl hl (by decide) rfl (fun ls hl => ?_)
  refine lv_iload_n hx hb dX2_roundedSize_6 rfl (lv_at hl 0 rfl) ?_
  refine lv_sipush (v := iv (1023)) hx hb dX2_roundedSize_7 (by decide) ?_
  refine iw_icmp_le (tgt := 27) hx hb dX2_roundedSize_10 (by decide) ⟨by omega, by omega⟩ ⟨by omega, by omega⟩ (fun c1 => ?_) (fun c1 => ?_)
  ·
    refine lv_aload_n hx hb dX2_roundedSize_27 rfl (lv_at hl 1 rfl) ?_
    refine lv_bipush (v := iv (53)) hx hb dX2_roundedSize_28 (by decide) ?_
    refine lv_iload_n hx hb dX2_roundedSize_30 rfl (lv_at hl 0 rfl) ?_
    refine lv_sipush (v := iv (-1074)) hx hb dX2_roundedSize_31 (by decide) ?_
    refine iw_isub hx hb dX2_roundedSize_34 ?_
    refine lv_iconst (v := iv (1)) hx hb dX2_roundedSize_35 (by decide) ?_
    refine iw_iadd hx hb dX2_roundedSize_36 ?_
    refine iw_mmin hx hb (hml.trans hl.1.symm) hown (hts (.methodLink RX2 131 Lib.Math.min.name) (by decide +kernel)) (hts (.static Lib.Math.min.name) (by decide +kernel)) (hts (.initialized "java/lang/Math") (by decide +kernel)) (hts (.code Lib.Math.min.name Lib.Math.min.code 2 (some .int)) (by decide +kernel)) (Nat.le_of_ble_eq_true rfl) (Nat.le_of_ble_eq_true rfl) (Nat.zero_le _) (Nat.zero_le _) ⟨by omega, by omega⟩ ⟨by omega, by omega⟩ dX2_roundedSize_37 ?_
    rcases Int.lt_or_le P (-1074) with hp | hp
    ·
      refine iw_topi (y := iv (P + 1075)) (congrArg iv (by rw [if_pos (by omega)]; omega : ((if (((P) - (-1074)) + (1)) < (53) then (((P) - (-1074)) + (1)) else (53)) : Int) = (P + 1075))) ?_
      refine ef_callV (As := [.int (iv (P + 1075))]) (rest := []) ⟨hx, hb, hml, hown, hts⟩ (c_quotient0 l dC dI ht q hA1 hU1 hA2 hU2 (by assumption) (by omega) (P + 1075) (by omega) (by omega)) (cwV 1 hts gX2_roundedSize_X2_quotient rfl rfl rfl (by decide +kernel) ⟨Nat.le_of_ble_eq_true rfl, Nat.le_of_ble_eq_true rfl⟩) hK hNX hP hD hS 0 rfl rfl rfl rfl hl.1 rfl (Nat.le_of_ble_eq_true rfl) dX2_roundedSize_40 ⟨Nat.zero_le _, Nat.zero_le _⟩ (fun o w1 H locs hq hP hD hS => ?_)
      obtain ⟨rfl, e9⟩ := hq
      rw [e9] at hP hD
      refine W.eq (g2 := F0 m 43 ls [.long (jv (0))]) rfl ?_
      refine iw_topl (y := jv (((0 : Nat) : Int))) (congrArg jv (by rfl : ((0) : Int) = (((0 : Nat) : Int)))) ?_
      refine lv_lstore (lv' := [(4, .long (jv (((0 : Nat) : Int)))), (3, .int (iv (P))), (0, .ref (q 0)), (1, .ref (q 1)), (2, .int (iv (aw)))]) hx hb dX2_roundedSize_43 hl (by decide) rfl (fun ls hl => ?_)
      refine lv_iload_n hx hb dX2_roundedSize_45 rfl (lv_at hl 1 rfl) ?_
      refine lv_sipush (v := iv (-1022)) hx hb dX2_roundedSize_46 (by decide) ?_
      refine iw_icmp_le (tgt := 66) hx hb dX2_roundedSize_49 (by decide) ⟨by omega, by omega⟩ ⟨by omega, by omega⟩ (fun c2 => ?_) (fun c2 => ?_)
      ·
        have hz8 := fl_zero nU nR1 nA hrel hLR hP1 hp
        have hz7 : feq 0 A1 U1 e1 ↔ L1 = 0 := ⟨fun h => absurd h hz8.2, fun h => by omega⟩
        have hz9 := rsz_of (aw := aw) ⟨hz8.1, hz7⟩
        refine lv_iload_n hx hb dX2_roundedSize_66 rfl (lv_at hl 4 rfl) ?_
        refine iw_if_eq (tgt := 87) hx hb dX2_roundedSize_67 (by decide) (haw) (fun c7 => ?_) (fun c7 => ?_)
        ·
          refine lv_lload hx hb dX2_roundedSize_87 (lv_at hl 0 rfl) ?_
          exact ef_lret hx hb hr hlocks hP hD hS dX2_roundedSize_89 (⟨_, _, _, rfl, rfl, by assumption, by omega, hz9.1 (Or.inl c7)⟩)
        ·
          refine lv_aload_n hx hb dX2_roundedSize_70 rfl (lv_at hl 2 rfl) ?_
          refine va_get (D := (dC, dI)) (ci := 2) (v := .ref (q 11)) (C := RX2) (T := TX2) (N := 4) hx hb hts (by decide +kernel) hown hK hP 0 rfl rfl 2 (by decide) (hts (.fieldLink RX2 22 "ExactFractions" "left" "LExactFractions$Whole;") (by decide +kernel)) (fun _ h9 => h9) rfl dX2_roundedSize_71 ?_
          refine ef_callV (As := []) (rest := []) ⟨hx, hb, hml, hown, hts⟩ (c_isZero l dC dI ht (isW_c (X := L1) (ws := cC cI q (A1) (U1) (b1) (e1) (A2) (U2) (b2) (e2) (L1) (R1)) (k0 := 11) (k1 := 12) (by decide) rfl rfl) (by assumption)) (cwV 0 hts gX2_roundedSize_X1_isZero rfl rfl rfl (by decide +kernel) ⟨Nat.le_of_ble_eq_true rfl, Nat.le_of_ble_eq_true rfl⟩) hK hNX hP hD hS 11 rfl rfl rfl rfl hl.1 rfl (Nat.le_of_ble_eq_true rfl) dX2_roundedSize_74 ⟨Nat.zero_le _, Nat.zero_le _⟩ (fun o w1 H locs hq hP hD hS => ?_)
          obtain ⟨rfl, e9⟩ := hq
          rw [e9] at hP hD
          refine W.eq (g2 := F0 m 77 ls [.int (iv (if L1 = 0 then 1 else 0))]) rfl ?_
          have hc0 : ir (if L1 = 0 then 1 else 0) := by split <;> exact ⟨by omega, by omega⟩
          refine iw_if_ne (tgt := 87) hx hb dX2_roundedSize_77 (by decide) (hc0) (fun c8 => ?_) (fun c8 => ?_)
          ·
            have c9 : L1 = 0 := by
              by_cases q9 : L1 = 0
              · exact q9
              · rw [if_neg q9] at c8; exact absurd rfl c8
            refine lv_lload hx hb dX2_roundedSize_87 (lv_at hl 0 rfl) ?_
            exact ef_lret hx hb hr hlocks hP hD hS dX2_roundedSize_89 (⟨_, _, _, rfl, rfl, by assumption, by omega, hz9.1 (Or.inr c9)⟩)
          ·
            have c9 : L1 ≠ 0 := fun q9 => by rw [if_pos q9] at c8; exact absurd c8 (by decide)
            refine lv_lload hx hb dX2_roundedSize_80 (lv_at hl 0 rfl) ?_
            refine lv_lconst (v := jv (1)) hx hb dX2_roundedSize_82 (by decide) ?_
            refine iw_ladd hx hb dX2_roundedSize_83 ?_
            refine iw_topl (y := jv (((0 + 1 : Nat) : Int))) (congrArg jv (by omega : (((((0 : Nat) : Int)) + (1)) : Int) = (((0 + 1 : Nat) : Int)))) ?_
            refine lv_goto (tgt := 89) hx hb dX2_roundedSize_84 (by decide) ?_
            exact ef_lret hx hb hr hlocks hP hD hS dX2_roundedSize_89 (⟨_, _, _, rfl, rfl, by assumption, by omega, hz9.2 c7 c9⟩)
      ·
        exact absurd c2 (by omega)
    ·
      obtain ⟨d, hd⟩ : ∃ d : Nat, (d : Int) = if P < -1022 then P + 1075 else 53 := by
        split
        · exact ⟨(P + 1075).toNat, by omega⟩
        · exact ⟨53, rfl⟩
      have hd53 : d ≤ 53 := by split at hd <;> omega
      refine iw_topi (y := iv ((d : Int))) (congrArg iv (by rw [hd]; (repeat split) <;> omega : ((if (((P) - (-1074)) + (1)) < (53) then (((P) - (-1074)) + (1)) else (53)) : Int) = ((d : Int)))) ?_
      refine ef_callV (As := [.int (iv ((d : Int)))]) (rest := []) ⟨hx, hb, hml, hown, hts⟩ (c_quotient l dC dI ht q hA1 hU1 hA2 hU2 (by assumption) (by omega) d hd53 hLR hbR) (cwV 1 hts gX2_roundedSize_X2_quotient rfl rfl rfl (by decide +kernel) ⟨Nat.le_of_ble_eq_true rfl, Nat.le_of_ble_eq_true rfl⟩) hK hNX hP hD hS 0 rfl rfl rfl rfl hl.1 rfl (Nat.le_of_ble_eq_true rfl) dX2_roundedSize_40 ⟨Nat.zero_le _, Nat.zero_le _⟩ (fun o w1 H locs hq hP hD hS => ?_)
      obtain ⟨f, X, rfl, rfl, hX, hX2, hf⟩ := hq
      have hP : va_P (dC, dI) vwCl (cC cI q (A1) (U1) (b1) (e1) (A2) (U2) (b2) (e2) (X) (R1)) H := hP
      have hD : va_D (ef_A (cC cI q (A1) (U1) (b1) (e1) (A2) (U2) (b2) (e2) (L) (R))) (cC cI q (A1) (U1) (b1) (e1) (A2) (U2) (b2) (e2) (X) (R1)) := hD
      refine W.eq (g2 := F0 m 43 ls [.long (jv ((f : Int)))]) rfl ?_
      have wX2 := wX X hX2
      have hf53 : f < 9007199254740992 := Nat.lt_of_lt_of_le hf (show 2 ^ d ≤ 2 ^ 53 from Nat.pow_le_pow_right (by decide) hd53)
      refine lv_lstore (lv' := [(4, .long (jv ((f : Int)))), (3, .int (iv (P))), (0, .ref (q 0)), (1, .ref (q 1)), (2, .int (iv (aw)))]) hx hb dX2_roundedSize_43 hl (by decide) rfl (fun ls hl => ?_)
      refine lv_iload_n hx hb dX2_roundedSize_45 rfl (lv_at hl 1 rfl) ?_
      refine lv_sipush (v := iv (-1022)) hx hb dX2_roundedSize_46 (by decide) ?_
      refine iw_icmp_le (tgt := 66) hx hb dX2_roundedSize_49 (by decide) ⟨by omega, by omega⟩ ⟨by omega, by omega⟩ (fun c2 => ?_) (fun c2 => ?_)
      ·
        have hfl : isFl f A1 U1 e1 ∧ (feq f A1 U1 e1 ↔ X = 0) := fl_sub nU nR1 hrel hp c2 (by split at hd <;> omega) hX hX2 hf
        have hz9 := rsz_of (aw := aw) hfl
        refine lv_iload_n hx hb dX2_roundedSize_66 rfl (lv_at hl 4 rfl) ?_
        refine iw_if_eq (tgt := 87) hx hb dX2_roundedSize_67 (by decide) (haw) (fun c7 => ?_) (fun c7 => ?_)
        ·
          refine lv_lload hx hb dX2_roundedSize_87 (lv_at hl 0 rfl) ?_
          exact ef_lret hx hb hr hlocks hP hD hS dX2_roundedSize_89 (⟨_, _, _, rfl, rfl, by assumption, by omega, hz9.1 (Or.inl c7)⟩)
        ·
          refine lv_aload_n hx hb dX2_roundedSize_70 rfl (lv_at hl 2 rfl) ?_
          refine va_get (D := (dC, dI)) (ci := 2) (v := .ref (q 11)) (C := RX2) (T := TX2) (N := 4) hx hb hts (by decide +kernel) hown hK hP 0 rfl rfl 2 (by decide) (hts (.fieldLink RX2 22 "ExactFractions" "left" "LExactFractions$Whole;") (by decide +kernel)) (fun _ h9 => h9) rfl dX2_roundedSize_71 ?_
          refine ef_callV (As := []) (rest := []) ⟨hx, hb, hml, hown, hts⟩ (c_isZero l dC dI ht (isW_c (X := X) (ws := cC cI q (A1) (U1) (b1) (e1) (A2) (U2) (b2) (e2) (X) (R1)) (k0 := 11) (k1 := 12) (by decide) rfl rfl) (by assumption)) (cwV 0 hts gX2_roundedSize_X1_isZero rfl rfl rfl (by decide +kernel) ⟨Nat.le_of_ble_eq_true rfl, Nat.le_of_ble_eq_true rfl⟩) hK hNX hP hD hS 11 rfl rfl rfl rfl hl.1 rfl (Nat.le_of_ble_eq_true rfl) dX2_roundedSize_74 ⟨Nat.zero_le _, Nat.zero_le _⟩ (fun o w1 H locs hq hP hD hS => ?_)
          obtain ⟨rfl, e9⟩ := hq
          rw [e9] at hP hD
          refine W.eq (g2 := F0 m 77 ls [.int (iv (if X = 0 then 1 else 0))]) rfl ?_
          have hc0 : ir (if X = 0 then 1 else 0) := by split <;> exact ⟨by omega, by omega⟩
          refine iw_if_ne (tgt := 87) hx hb dX2_roundedSize_77 (by decide) (hc0) (fun c8 => ?_) (fun c8 => ?_)
          ·
            have c9 : X = 0 := by
              by_cases q9 : X = 0
              · exact q9
              · rw [if_neg q9] at c8; exact absurd rfl c8
            refine lv_lload hx hb dX2_roundedSize_87 (lv_at hl 0 rfl) ?_
            exact ef_lret hx hb hr hlocks hP hD hS dX2_roundedSize_89 (⟨_, _, _, rfl, rfl, by assumption, by omega, hz9.1 (Or.inr c9)⟩)
          ·
            have c9 : X ≠ 0 := fun q9 => by rw [if_pos q9] at c8; exact absurd c8 (by decide)
            refine lv_lload hx hb dX2_roundedSize_80 (lv_at hl 0 rfl) ?_
            refine lv_lconst (v := jv (1)) hx hb dX2_roundedSize_82 (by decide) ?_
            refine iw_ladd hx hb dX2_roundedSize_83 ?_
            refine iw_topl (y := jv (((f + 1 : Nat) : Int))) (congrArg jv (by omega : ((((f : Int)) + (1)) : Int) = (((f + 1 : Nat) : Int)))) ?_
            refine lv_goto (tgt := 89) hx hb dX2_roundedSize_84 (by decide) ?_
            exact ef_lret hx hb hr hlocks hP hD hS dX2_roundedSize_89 (⟨_, _, _, rfl, rfl, by assumption, by omega, hz9.2 c7 c9⟩)
      ·
        have hdd : d = 53 := by split at hd <;> omega
        subst hdd
        obtain ⟨v, hv⟩ : ∃ v : Nat, (v : Int) = P + 1022 := ⟨(P + 1022).toNat, by omega⟩
        have hfl := fl_nor (w := v) nU nR1 hrel hRL (by omega) c1 hv hX hX2 hf
        refine lv_lload hx hb dX2_roundedSize_52 (lv_at hl 0 rfl) ?_
        refine lv_iload_n hx hb dX2_roundedSize_54 rfl (lv_at hl 1 rfl) ?_
        refine lv_sipush (v := iv (-1022)) hx hb dX2_roundedSize_55 (by decide) ?_
        refine iw_isub hx hb dX2_roundedSize_58 ?_
        refine iw_topi (y := iv ((v : Int))) (congrArg iv (by omega : (((P) - (-1022)) : Int) = ((v : Int)))) ?_
        refine iw_i2l hx hb ⟨by omega, by omega⟩ dX2_roundedSize_59 ?_
        refine lv_bipush (v := iv (52)) hx hb dX2_roundedSize_60 (by decide) ?_
        refine iw_topi (y := iv (((52 : Nat) : Int))) (congrArg iv (by omega : ((52) : Int) = (((52 : Nat) : Int)))) ?_
        refine iw_lshlk (w := v) (k := 52) hx hb (by decide) dX2_roundedSize_62 ?_
        refine iw_topl (y := jv (((v * 4503599627370496 : Nat) : Int))) (congrArg jv (by rfl : ((((v * 2 ^ 52 : Nat) : Int)) : Int) = (((v * 4503599627370496 : Nat) : Int)))) ?_
        refine iw_ladd hx hb dX2_roundedSize_63 ?_
        obtain ⟨mo, hmo⟩ : ∃ mo, mo = f + v * 4503599627370496 := ⟨_, rfl⟩
        rw [← hmo] at hfl
        refine iw_topl (y := jv ((mo : Int))) (congrArg jv (by omega : ((((f : Int)) + (((v * 4503599627370496 : Nat) : Int))) : Int) = ((mo : Int)))) ?_
        have hz9 := rsz_of (aw := aw) hfl
        refine lv_lstore (lv' := [(4, .long (jv ((mo : Int)))), (3, .int (iv (P))), (0, .ref (q 0)), (1, .ref (q 1)), (2, .int (iv (aw)))]) hx hb dX2_roundedSize_64 hl (by decide) rfl (fun ls hl => ?_)
        refine lv_iload_n hx hb dX2_roundedSize_66 rfl (lv_at hl 4 rfl) ?_
        refine iw_if_eq (tgt := 87) hx hb dX2_roundedSize_67 (by decide) (haw) (fun c7 => ?_) (fun c7 => ?_)
        ·
          refine lv_lload hx hb dX2_roundedSize_87 (lv_at hl 0 rfl) ?_
          exact ef_lret hx hb hr hlocks hP hD hS dX2_roundedSize_89 (⟨_, _, _, rfl, rfl, by assumption, by omega, hz9.1 (Or.inl c7)⟩)
        ·
          refine lv_aload_n hx hb dX2_roundedSize_70 rfl (lv_at hl 2 rfl) ?_
          refine va_get (D := (dC, dI)) (ci := 2) (v := .ref (q 11)) (C := RX2) (T := TX2) (N := 4) hx hb hts (by decide +kernel) hown hK hP 0 rfl rfl 2 (by decide) (hts (.fieldLink RX2 22 "ExactFractions" "left" "LExactFractions$Whole;") (by decide +kernel)) (fun _ h9 => h9) rfl dX2_roundedSize_71 ?_
          refine ef_callV (As := []) (rest := []) ⟨hx, hb, hml, hown, hts⟩ (c_isZero l dC dI ht (isW_c (X := X) (ws := cC cI q (A1) (U1) (b1) (e1) (A2) (U2) (b2) (e2) (X) (R1)) (k0 := 11) (k1 := 12) (by decide) rfl rfl) (by assumption)) (cwV 0 hts gX2_roundedSize_X1_isZero rfl rfl rfl (by decide +kernel) ⟨Nat.le_of_ble_eq_true rfl, Nat.le_of_ble_eq_true rfl⟩) hK hNX hP hD hS 11 rfl rfl rfl rfl hl.1 rfl (Nat.le_of_ble_eq_true rfl) dX2_roundedSize_74 ⟨Nat.zero_le _, Nat.zero_le _⟩ (fun o w1 H locs hq hP hD hS => ?_)
          obtain ⟨rfl, e9⟩ := hq
          rw [e9] at hP hD
          refine W.eq (g2 := F0 m 77 ls [.int (iv (if X = 0 then 1 else 0))]) rfl ?_
          have hc0 : ir (if X = 0 then 1 else 0) := by split <;> exact ⟨by omega, by omega⟩
          refine iw_if_ne (tgt := 87) hx hb dX2_roundedSize_77 (by decide) (hc0) (fun c8 => ?_) (fun c8 => ?_)
          ·
            have c9 : X = 0 := by
              by_cases q9 : X = 0
              · exact q9
              · rw [if_neg q9] at c8; exact absurd rfl c8
            refine lv_lload hx hb dX2_roundedSize_87 (lv_at hl 0 rfl) ?_
            exact ef_lret hx hb hr hlocks hP hD hS dX2_roundedSize_89 (⟨_, _, _, rfl, rfl, by assumption, by omega, hz9.1 (Or.inr c9)⟩)
          ·
            have c9 : X ≠ 0 := fun q9 => by rw [if_pos q9] at c8; exact absurd c8 (by decide)
            refine lv_lload hx hb dX2_roundedSize_80 (lv_at hl 0 rfl) ?_
            refine lv_lconst (v := jv (1)) hx hb dX2_roundedSize_82 (by decide) ?_
            refine iw_ladd hx hb dX2_roundedSize_83 ?_
            refine iw_topl (y := jv (((mo + 1 : Nat) : Int))) (congrArg jv (by omega : ((((mo : Int)) + (1)) : Int) = (((mo + 1 : Nat) : Int)))) ?_
            refine lv_goto (tgt := 89) hx hb dX2_roundedSize_84 (by decide) ?_
            exact ef_lret hx hb hr hlocks hP hD hS dX2_roundedSize_89 (⟨_, _, _, rfl, rfl, by assumption, by omega, hz9.2 c7 c9⟩)
  ·
    have hz8 := fl_inf nU nR1 hrel hRL c1
    refine lv_iload_n hx hb dX2_roundedSize_13 rfl (lv_at hl 3 rfl) ?_
    refine iw_if_eq (tgt := 23) hx hb dX2_roundedSize_14 (by decide) (haw) (fun c7 => ?_) (fun c7 => ?_)
    ·
      refine lv_ldc2 (v := jv (9218868437227405311)) hx hb hown (hts (.constantLong RX2 129 (jv (9218868437227405311))) (by decide +kernel)) dX2_roundedSize_23 ?_
      exact ef_lret hx hb hr hlocks hP hD hS dX2_roundedSize_26 (⟨_, _, 9218868437227405311, rfl, rfl, by assumption, by omega, 9218868437227405311, hz8.1, Or.inl ⟨Or.inl c7, rfl⟩⟩)
    ·
      refine lv_ldc2 (v := jv (9218868437227405312)) hx hb hown (hts (.constantLong RX2 127 (jv (9218868437227405312))) (by decide +kernel)) dX2_roundedSize_17 ?_
      refine lv_goto (tgt := 26) hx hb dX2_roundedSize_20 (by decide) ?_
      exact ef_lret hx hb hr hlocks hP hD hS dX2_roundedSize_26 (⟨_, _, 9218868437227405312, rfl, rfl, by assumption, by omega, 9218868437227405311, hz8.1, Or.inr ⟨⟨c7, hz8.2⟩, rfl⟩⟩)

set_option maxRecDepth 100000 in
set_option maxHeartbeats 4000000 in
/-- roundedSize -/
theorem c_roundedSize1 (l : Launch) (dC : Nat → ClassId) (dI : Nat → Nat → Nat) {cI : ClassId} {tys : List (ClassId × FieldType)} (ht : tys[0]? = some (cI, .int)) (q : Nat → Nat) {A1 U1 A2 U2 L R : Nat} {b1 e1 b2 e2 : Int} (hA1 : wl A1 ≤ 150) (hU1 : wl U1 ≤ 150) (hA2 : wl A2 ≤ 150) (hU2 : wl U2 ≤ 150) (hL : wl L ≤ 301) (hR : wl R ≤ 301) (bA1 : bl A1 ≤ 4800) (bU1 : bl U1 ≤ 4800) (bA2 : bl A2 ≤ 4800) (bU2 : bl U2 ≤ 4800) (le1 : -12000 ≤ e1) (ge1 : e1 ≤ 12000) (le2 : -12000 ≤ e2) (ge2 : e2 ≤ 12000) (nA : A2 ≠ 0) (nU : U2 ≠ 0) (aw : Int) (haw : ir aw) : ef_C l yX2_roundedSize wsX2_roundedSize ({ frames := 5, cells := 0, slots := 0, locals := 114 } : Room) [.ref (q 0), .ref (q 2), .int (iv (aw))] (dC, dI) vwCl tys (cC cI q (A1) (U1) (b1) (e1) (A2) (U2) (b2) (e2) (L) (R)) (fun o w1 => ∃ (L2 R2 z : Nat), o = some (.long (jv (z : Int))) ∧ w1 = cC cI q (A1) (U1) (b1) (e1) (A2) (U2) (b2) (e2) (L2) (R2) ∧ wl L2 ≤ 301 ∧ wl R2 ≤ 301 ∧ rsz A2 U2 e2 aw z) := by
  refine ef_C.of (cc := cX2_roundedSize) (maxL := 6) (ret := (some .long)) (by decide) rfl (Nat.le_of_ble_eq_true rfl) ?_
  intro p e s m below meth c ls hx hb hml hr hts hown hlocks hK hNX hP hD hS hl
  have hl : lv_has ls 6 [(0, .ref (q 0)), (1, .ref (q 2)), (2, .int (iv (aw)))] := hl
  have hown : s.vm.findClass RX2 = some m.cls := hown
  generalize hH : s.heap = H at hP ⊢
  have hS : va_S (ef_A (cC cI q (A1) (U1) (b1) (e1) (A2) (U2) (b2) (e2) (L) (R))) s.heap H [] := by rw [← hH]; exact hS
  generalize ([] : List Loc) = locs at hS ⊢
  refine lv_aload_n hx hb dX2_roundedSize_0 rfl (lv_at hl 0 rfl) ?_
  refine lv_aload_n hx hb dX2_roundedSize_1 rfl (lv_at hl 1 rfl) ?_
  refine ef_callV (As := [.ref (q 2)]) (rest := []) ⟨hx, hb, hml, hown, hts⟩ (c_layOut1 l dC dI ht q hA1 hU1 hA2 hU2 hL hR bA1 bU1 bA2 bU2 le1 ge1 le2 ge2 nA nU) (cwV 1 hts gX2_roundedSize_X2_layOut rfl rfl rfl (by decide +kernel) ⟨Nat.le_of_ble_eq_true rfl, Nat.le_of_ble_eq_true rfl⟩) hK hNX hP hD hS 0 rfl rfl rfl rfl hl.1 rfl (Nat.le_of_ble_eq_true rfl) dX2_roundedSize_2 ⟨Nat.zero_le _, Nat.zero_le _⟩ (fun o w1 H locs hq hP hD hS => ?_)
  obtain ⟨L1, R1, P, rfl, rfl, hRL, hLR, hrel, hP1, hP2, hbR⟩ := hq
  have hP : va_P (dC, dI) vwCl (cC cI q (A1) (U1) (b1) (e1) (A2) (U2) (b2) (e2) (L1) (R1)) H := hP
  have hD : va_D (ef_A (cC cI q (A1) (U1) (b1) (e1) (A2) (U2) (b2) (e2) (L) (R))) (cC cI q (A1) (U1) (b1) (e1) (A2) (U2) (b2) (e2) (L1) (R1)) := hD
  refine W.eq (g2 := F0 m 5 ls [.int (iv (P))]) rfl ?_
  have nR1 : R1 ≠ 0 := by omega
  have wR1 : wl R1 ≤ 150 := wl_bl (by omega)
  have wX : ∀ X, X < 2 * R1 → wl X ≤ 301 := fun X q => by
    have h1 := wl_mono (Nat.le_of_lt q)
    have h2 := wl_add (k := 150) (Y := R1) (Z := R1) (by omega) (by omega)
    rw [show R1 + R1 = 2 * R1 by omega] at h2
    omega
  have wL1 := wX L1 hLR
  refine lv_istore_n (lv' := [(3, .int (iv (P))), (0, .ref (q 0)), (1, .ref (q 2)), (2, .int (iv (aw)))]) hx hb dX2_roundedSize_5 rfl hl (by decide) rfl (fun ls hl => ?_)
  refine lv_iload_n hx hb dX2_roundedSize_6 rfl (lv_at hl 0 rfl) ?_
  refine lv_sipush (v := iv (1023)) hx hb dX2_roundedSize_7 (by decide) ?_
  refine iw_icmp_le (tgt := 27) hx hb dX2_roundedSize_10 (by decide) ⟨by omega, by omega⟩ ⟨by omega, by omega⟩ (fun c1 => ?_) (fun c1 => ?_)
  ·
    refine lv_aload_n hx hb dX2_roundedSize_27 rfl (lv_at hl 1 rfl) ?_
    refine lv_bipush (v := iv (53)) hx hb dX2_roundedSize_28 (by decide) ?_
    refine lv_iload_n hx hb dX2_roundedSize_30 rfl (lv_at hl 0 rfl) ?_
    refine lv_sipush (v := iv (-1074)) hx hb dX2_roundedSize_31 (by decide) ?_
    refine iw_isub hx hb dX2_roundedSize_34 ?_
    refine lv_iconst (v := iv (1)) hx hb dX2_roundedSize_35 (by decide) ?_
    refine iw_iadd hx hb dX2_roundedSize_36 ?_
    refine iw_mmin hx hb (hml.trans hl.1.symm) hown (hts (.methodLink RX2 131 Lib.Math.min.name) (by decide +kernel)) (hts (.static Lib.Math.min.name) (by decide +kernel)) (hts (.initialized "java/lang/Math") (by decide +kernel)) (hts (.code Lib.Math.min.name Lib.Math.min.code 2 (some .int)) (by decide +kernel)) (Nat.le_of_ble_eq_true rfl) (Nat.le_of_ble_eq_true rfl) (Nat.zero_le _) (Nat.zero_le _) ⟨by omega, by omega⟩ ⟨by omega, by omega⟩ dX2_roundedSize_37 ?_
    rcases Int.lt_or_le P (-1074) with hp | hp
    ·
      refine iw_topi (y := iv (P + 1075)) (congrArg iv (by rw [if_pos (by omega)]; omega : ((if (((P) - (-1074)) + (1)) < (53) then (((P) - (-1074)) + (1)) else (53)) : Int) = (P + 1075))) ?_
      refine ef_callV (As := [.int (iv (P + 1075))]) (rest := []) ⟨hx, hb, hml, hown, hts⟩ (c_quotient0 l dC dI ht q hA1 hU1 hA2 hU2 (by assumption) (by omega) (P + 1075) (by omega) (by omega)) (cwV 1 hts gX2_roundedSize_X2_quotient rfl rfl rfl (by decide +kernel) ⟨Nat.le_of_ble_eq_true rfl, Nat.le_of_ble_eq_true rfl⟩) hK hNX hP hD hS 0 rfl rfl rfl rfl hl.1 rfl (Nat.le_of_ble_eq_true rfl) dX2_roundedSize_40 ⟨Nat.zero_le _, Nat.zero_le _⟩ (fun o w1 H locs hq hP hD hS => ?_)
      obtain ⟨rfl, e9⟩ := hq
      rw [e9] at hP hD
      refine W.eq (g2 := F0 m 43 ls [.long (jv (0))]) rfl ?_
      refine iw_topl (y := jv (((0 : Nat) : Int))) (congrArg jv (by rfl : ((0) : Int) = (((0 : Nat) : Int)))) ?_
      refine lv_lstore (lv' := [(4, .long (jv (((0 : Nat) : Int)))), (3, .int (iv (P))), (0, .ref (q 0)), (1, .ref (q 2)), (2, .int (iv (aw)))]) hx hb dX2_roundedSize_43 hl (by decide) rfl (fun ls hl => ?_)
      refine lv_iload_n hx hb dX2_roundedSize_45 rfl (lv_at hl 1 rfl) ?_
      refine lv_sipush (v := iv (-1022)) hx hb dX2_roundedSize_46 (by decide) ?_
      refine iw_icmp_le (tgt := 66) hx hb dX2_roundedSize_49 (by decide) ⟨by omega, by omega⟩ ⟨by omega, by omega⟩ (fun c2 => ?_) (fun c2 => ?_)
      ·
        have hz8 := fl_zero nU nR1 nA hrel hLR hP1 hp
        have hz7 : feq 0 A2 U2 e2 ↔ L1 = 0 := ⟨fun h => absurd h hz8.2, fun h => by omega⟩
        have hz9 := rsz_of (aw := aw) ⟨hz8.1, hz7⟩
        refine lv_iload_n hx hb dX2_roundedSize_66 rfl (lv_at hl 4 rfl) ?_
        refine iw_if_eq (tgt := 87) hx hb dX2_roundedSize_67 (by decide) (haw) (fun c7 => ?_) (fun c7 => ?_)
        ·
          refine lv_lload hx hb dX2_roundedSize_87 (lv_at hl 0 rfl) ?_
          exact ef_lret hx hb hr hlocks hP hD hS dX2_roundedSize_89 (⟨_, _, _, rfl, rfl, by assumption, by omega, hz9.1 (Or.inl c7)⟩)
        ·
          refine lv_aload_n hx hb dX2_roundedSize_70 rfl (lv_at hl 2 rfl) ?_
          refine va_get (D := (dC, dI)) (ci := 2) (v := .ref (q 11)) (C := RX2) (T := TX2) (N := 4) hx hb hts (by decide +kernel) hown hK hP 0 rfl rfl 2 (by decide) (hts (.fieldLink RX2 22 "ExactFractions" "left" "LExactFractions$Whole;") (by decide +kernel)) (fun _ h9 => h9) rfl dX2_roundedSize_71 ?_
          refine ef_callV (As := []) (rest := []) ⟨hx, hb, hml, hown, hts⟩ (c_isZero l dC dI ht (isW_c (X := L1) (ws := cC cI q (A1) (U1) (b1) (e1) (A2) (U2) (b2) (e2) (L1) (R1)) (k0 := 11) (k1 := 12) (by decide) rfl rfl) (by assumption)) (cwV 0 hts gX2_roundedSize_X1_isZero rfl rfl rfl (by decide +kernel) ⟨Nat.le_of_ble_eq_true rfl, Nat.le_of_ble_eq_true rfl⟩) hK hNX hP hD hS 11 rfl rfl rfl rfl hl.1 rfl (Nat.le_of_ble_eq_true rfl) dX2_roundedSize_74 ⟨Nat.zero_le _, Nat.zero_le _⟩ (fun o w1 H locs hq hP hD hS => ?_)
          obtain ⟨rfl, e9⟩ := hq
          rw [e9] at hP hD
          refine W.eq (g2 := F0 m 77 ls [.int (iv (if L1 = 0 then 1 else 0))]) rfl ?_
          have hc0 : ir (if L1 = 0 then 1 else 0) := by split <;> exact ⟨by omega, by omega⟩
          refine iw_if_ne (tgt := 87) hx hb dX2_roundedSize_77 (by decide) (hc0) (fun c8 => ?_) (fun c8 => ?_)
          ·
            have c9 : L1 = 0 := by
              by_cases q9 : L1 = 0
              · exact q9
              · rw [if_neg q9] at c8; exact absurd rfl c8
            refine lv_lload hx hb dX2_roundedSize_87 (lv_at hl 0 rfl) ?_
            exact ef_lret hx hb hr hlocks hP hD hS dX2_roundedSize_89 (⟨_, _, _, rfl, rfl, by assumption, by omega, hz9.1 (Or.inr c9)⟩)
          ·
            have c9 : L1 ≠ 0 := fun q9 => by rw [if_pos q9] at c8; exact absurd c8 (by decide)
            refine lv_lload hx hb dX2_roundedSize_80 (lv_at hl 0 rfl) ?_
            refine lv_lconst (v := jv (1)) hx hb dX2_roundedSize_82 (by decide) ?_
            refine iw_ladd hx hb dX2_roundedSize_83 ?_
            refine iw_topl (y := jv (((0 + 1 : Nat) : Int))) (congrArg jv (by omega : (((((0 : Nat) : Int)) + (1)) : Int) = (((0 + 1 : Nat) : Int)))) ?_
            refine lv_goto (tgt := 89) hx hb dX2_roundedSize_84 (by decide) ?_
            exact ef_lret hx hb hr hlocks hP hD hS dX2_roundedSize_89 (⟨_, _, _, rfl, rfl, by assumption, by omega, hz9.2 c7 c9⟩)
      ·
        exact absurd c2 (by omega)
    ·
      obtain ⟨d, hd⟩ : ∃ d : Nat, (d : Int) = if P < -1022 then P + 1075 else 53 := by
        split
        · exact ⟨(P + 1075).toNat, by omega⟩
        · exact ⟨53, rfl⟩
      have hd53 : d ≤ 53 := by split at hd <;> omega
      refine iw_topi (y := iv ((d : Int))) (congrArg iv (by rw [hd]; (repeat split) <;> omega : ((if (((P) - (-1074)) + (1)) < (53) then (((P) - (-1074)) + (1)) else (53)) : Int) = ((d : Int)))) ?_
      refine ef_callV (As := [.int (iv ((d : Int)))]) (rest := []) ⟨hx, hb, hml, hown, hts⟩ (c_quotient l dC dI ht q hA1 hU1 hA2 hU2 (by assumption) (by omega) d hd53 hLR hbR) (cwV 1 hts gX2_roundedSize_X2_quotient rfl rfl rfl (by decide +kernel) ⟨Nat.le_of_ble_eq_true rfl, Nat.le_of_ble_eq_true rfl⟩) hK hNX hP hD hS 0 rfl rfl rfl rfl hl.1 rfl (Nat.le_of_ble_eq_true rfl) dX2_roundedSize_40 ⟨Nat.zero_le _, Nat.zero_le _⟩ (fun o w1 H locs hq hP hD hS => ?_)
      obtain ⟨f, X, rfl, rfl, hX, hX2, hf⟩ := hq
      have hP : va_P (dC, dI) vwCl (cC cI q (A1) (U1) (b1) (e1) (A2) (U2) (b2) (e2) (X) (R1)) H := hP
      have hD : va_D (ef_A (cC cI q (A1) (U1) (b1) (e1) (A2) (U2) (b2) (e2) (L) (R))) (cC cI q (A1) (U1) (b1) (e1) (A2) (U2) (b2) (e2) (X) (R1)) := hD
      refine W.eq (g2 := F0 m 43 ls [.long (jv ((f : Int)))]) rfl ?_
      have wX2 := wX X hX2
      have hf53 : f < 9007199254740992 := Nat.lt_of_lt_of_le hf (show 2 ^ d ≤ 2 ^ 53 from Nat.pow_le_pow_right (by decide) hd53)
      refine lv_lstore (lv' := [(4, .long (jv ((f : Int)))), (3, .int (iv (P))), (0, .ref (q 0)), (1, .ref (q 2)), (2, .int (iv (aw)))]) hx hb dX2_roundedSize_43 hl (by decide) rfl (fun ls hl => ?_)
      refine lv_iload_n hx hb dX2_roundedSize_45 rfl (lv_at hl 1 rfl) ?_
      refine lv_sipush (v := iv (-1022)) hx hb dX2_roundedSize_46 (by decide) ?_
      refine iw_icmp_le (tgt := 66) hx hb dX2_roundedSize_49 (by decide) ⟨by omega, by omega⟩ ⟨by omega, by omega⟩ (fun c2 => ?_) (fun c2 => ?_)
      ·
        have hfl : isFl f A2 U2 e2 ∧ (feq f A2 U2 e2 ↔ X = 0) := fl_sub nU nR1 hrel hp c2 (by split at hd <;> omega) hX hX2 hf
        have hz9 := rsz_of (aw := aw) hfl
        refine lv_iload_n hx hb dX2_roundedSize_66 rfl (lv_at hl 4 rfl) ?_
        refine iw_if_eq (tgt := 87) hx hb dX2_roundedSize_67 (by decide) (haw) (fun c7 => ?_) (fun c7 => ?_)
        ·
          refine lv_lload hx hb dX2_roundedSize_87 (lv_at hl 0 rfl) ?_
          exact ef_lret hx hb hr hlocks hP hD hS dX2_roundedSize_89 (⟨_, _, _, rfl, rfl, by assumption, by omega, hz9.1 (Or.inl c7)⟩)
        ·
          refine lv_aload_n hx hb dX2_roundedSize_70 rfl (lv_at hl 2 rfl) ?_
          refine va_get (D := (dC, dI)) (ci := 2) (v := .ref (q 11)) (C := RX2) (T := TX2) (N := 4) hx hb hts (by decide +kernel) hown hK hP 0 rfl rfl 2 (by decide) (hts (.fieldLink RX2 22 "ExactFractions" "left" "LExactFractions$Whole;") (by decide +kernel)) (fun _ h9 => h9) rfl dX2_roundedSize_71 ?_
          refine ef_callV (As := []) (rest := []) ⟨hx, hb, hml, hown, hts⟩ (c_isZero l dC dI ht (isW_c (X := X) (ws := cC cI q (A1) (U1) (b1) (e1) (A2) (U2) (b2) (e2) (X) (R1)) (k0 := 11) (k1 := 12) (by decide) rfl rfl) (by assumption)) (cwV 0 hts gX2_roundedSize_X1_isZero rfl rfl rfl (by decide +kernel) ⟨Nat.le_of_ble_eq_true rfl, Nat.le_of_ble_eq_true rfl⟩) hK hNX hP hD hS 11 rfl rfl rfl rfl hl.1 rfl (Nat.le_of_ble_eq_true rfl) dX2_roundedSize_74 ⟨Nat.zero_le _, Nat.zero_le _⟩ (fun o w1 H locs hq hP hD hS => ?_)
          obtain ⟨rfl, e9⟩ := hq
          rw [e9] at hP hD
          refine W.eq (g2 := F0 m 77 ls [.int (iv (if X = 0 then 1 else 0))]) rfl ?_
          have hc0 : ir (if X = 0 then 1 else 0) := by split <;> exact ⟨by omega, by omega⟩
          refine iw_if_ne (tgt := 87) hx hb dX2_roundedSize_77 (by decide) (hc0) (fun c8 => ?_) (fun c8 => ?_)
          ·
            have c9 : X = 0 := by
              by_cases q9 : X = 0
              · exact q9
              · rw [if_neg q9] at c8; exact absurd rfl c8
            refine lv_lload hx hb dX2_roundedSize_87 (lv_at hl 0 rfl) ?_
            exact ef_lret hx hb hr hlocks hP hD hS dX2_roundedSize_89 (⟨_, _, _, rfl, rfl, by assumption, by omega, hz9.1 (Or.inr c9)⟩)
          ·
            have c9 : X ≠ 0 := fun q9 => by rw [if_pos q9] at c8; exact absurd c8 (by decide)
            refine lv_lload hx hb dX2_roundedSize_80 (lv_at hl 0 rfl) ?_
            refine lv_lconst (v := jv (1)) hx hb dX2_roundedSize_82 (by decide) ?_
            refine iw_ladd hx hb dX2_roundedSize_83 ?_
            refine iw_topl (y := jv (((f + 1 : Nat) : Int))) (congrArg jv (by omega : ((((f : Int)) + (1)) : Int) = (((f + 1 : Nat) : Int)))) ?_
            refine lv_goto (tgt := 89) hx hb dX2_roundedSize_84 (by decide) ?_
            exact ef_lret hx hb hr hlocks hP hD hS dX2_roundedSize_89 (⟨_, _, _, rfl, rfl, by assumption, by omega, hz9.2 c7 c9⟩)
      ·
        have hdd : d = 53 := by split at hd <;> omega
        subst hdd
        obtain ⟨v, hv⟩ : ∃ v : Nat, (v : Int) = P + 1022 := ⟨(P + 1022).toNat, by omega⟩
        have hfl := fl_nor (w := v) nU nR1 hrel hRL (by omega) c1 hv hX hX2 hf
        refine lv_lload hx hb dX2_roundedSize_52 (lv_at hl 0 rfl) ?_
        refine lv_iload_n hx hb dX2_roundedSize_54 rfl (lv_at hl 1 rfl) ?_
        refine lv_sipush (v := iv (-1022)) hx hb dX2_roundedSize_55 (by decide) ?_
        refine iw_isub hx hb dX2_roundedSize_58 ?_
        refine iw_topi (y := iv ((v : Int))) (congrArg iv (by omega : (((P) - (-1022)) : Int) = ((v : Int)))) ?_
        refine iw_i2l hx hb ⟨by omega, by omega⟩ dX2_roundedSize_59 ?_
        refine lv_bipush (v := iv (52)) hx hb dX2_roundedSize_60 (by decide) ?_
        refine iw_topi (y := iv (((52 : Nat) : Int))) (congrArg iv (by omega : ((52) : Int) = (((52 : Nat) : Int)))) ?_
        refine iw_lshlk (w := v) (k := 52) hx hb (by decide) dX2_roundedSize_62 ?_
        refine iw_topl (y := jv (((v * 4503599627370496 : Nat) : Int))) (congrArg jv (by rfl : ((((v * 2 ^ 52 : Nat) : Int)) : Int) = (((v * 4503599627370496 : Nat) : Int)))) ?_
        refine iw_ladd hx hb dX2_roundedSize_63 ?_
        obtain ⟨mo, hmo⟩ : ∃ mo, mo = f + v * 4503599627370496 := ⟨_, rfl⟩
        rw [← hmo] at hfl
        refine iw_topl (y := jv ((mo : Int))) (congrArg jv (by omega : ((((f : Int)) + (((v * 4503599627370496 : Nat) : Int))) : Int) = ((mo : Int)))) ?_
        have hz9 := rsz_of (aw := aw) hfl
        refine lv_lstore (lv' := [(4, .long (jv ((mo : Int)))), (3, .int (iv (P))), (0, .ref (q 0)), (1, .ref (q 2)), (2, .int (iv (aw)))]) hx hb dX2_roundedSize_64 hl (by decide) rfl (fun ls hl => ?_)
        refine lv_iload_n hx hb dX2_roundedSize_66 rfl (lv_at hl 4 rfl) ?_
        refine iw_if_eq (tgt := 87) hx hb dX2_roundedSize_67 (by decide) (haw) (fun c7 => ?_) (fun c7 => ?_)
        ·
          refine lv_lload hx hb dX2_roundedSize_87 (lv_at hl 0 rfl) ?_
          exact ef_lret hx hb hr hlocks hP hD hS dX2_roundedSize_89 (⟨_, _, _, rfl, rfl, by assumption, by omega, hz9.1 (Or.inl c7)⟩)
        ·
          refine lv_aload_n hx hb dX2_roundedSize_70 rfl (lv_at hl 2 rfl) ?_
          refine va_get (D := (dC, dI)) (ci := 2) (v := .ref (q 11)) (C := RX2) (T := TX2) (N := 4) hx hb hts (by decide +kernel) hown hK hP 0 rfl rfl 2 (by decide) (hts (.fieldLink RX2 22 "ExactFractions" "left" "LExactFractions$Whole;") (by decide +kernel)) (fun _ h9 => h9) rfl dX2_roundedSize_71 ?_
          refine ef_callV (As := []) (rest := []) ⟨hx, hb, hml, hown, hts⟩ (c_isZero l dC dI ht (isW_c (X := X) (ws := cC cI q (A1) (U1) (b1) (e1) (A2) (U2) (b2) (e2) (X) (R1)) (k0 := 11) (k1 := 12) (by decide) rfl rfl) (by assumption)) (cwV 0 hts gX2_roundedSize_X1_isZero rfl rfl rfl (by decide +kernel) ⟨Nat.le_of_ble_eq_true rfl, Nat.le_of_ble_eq_true rfl⟩) hK hNX hP hD hS 11 rfl rfl rfl rfl hl.1 rfl (Nat.le_of_ble_eq_true rfl) dX2_roundedSize_74 ⟨Nat.zero_le _, Nat.zero_le _⟩ (fun o w1 H locs hq hP hD hS => ?_)
          obtain ⟨rfl, e9⟩ := hq
          rw [e9] at hP hD
          refine W.eq (g2 := F0 m 77 ls [.int (iv (if X = 0 then 1 else 0))]) rfl ?_
          have hc0 : ir (if X = 0 then 1 else 0) := by split <;> exact ⟨by omega, by omega⟩
          refine iw_if_ne (tgt := 87) hx hb dX2_roundedSize_77 (by decide) (hc0) (fun c8 => ?_) (fun c8 => ?_)
          ·
            have c9 : X = 0 := by
              by_cases q9 : X = 0
              · exact q9
              · rw [if_neg q9] at c8; exact absurd rfl c8
            refine lv_lload hx hb dX2_roundedSize_87 (lv_at hl 0 rfl) ?_
            exact ef_lret hx hb hr hlocks hP hD hS dX2_roundedSize_89 (⟨_, _, _, rfl, rfl, by assumption, by omega, hz9.1 (Or.inr c9)⟩)
          ·
            have c9 : X ≠ 0 := fun q9 => by rw [if_pos q9] at c8; exact absurd c8 (by decide)
            refine lv_lload hx hb dX2_roundedSize_80 (lv_at hl 0 rfl) ?_
            refine lv_lconst (v := jv (1)) hx hb dX2_roundedSize_82 (by decide) ?_
            refine iw_ladd hx hb dX2_roundedSize_83 ?_
            refine iw_topl (y := jv (((mo + 1 : Nat) : Int))) (congrArg jv (by omega : ((((mo : Int)) + (1)) : Int) = (((mo + 1 : Nat) : Int)))) ?_
            refine lv_goto (tgt := 89) hx hb dX2_roundedSize_84 (by decide) ?_
            exact ef_lret hx hb hr hlocks hP hD hS dX2_roundedSize_89 (⟨_, _, _, rfl, rfl, by assumption, by omega, hz9.2 c7 c9⟩)
  ·
    have hz8 := fl_inf nU nR1 hrel hRL c1
    refine lv_iload_n hx hb dX2_roundedSize_13 rfl (lv_at hl 3 rfl) ?_
    refine iw_if_eq (tgt := 23) hx hb dX2_roundedSize_14 (by decide) (haw) (fun c7 => ?_) (fun c7 => ?_)
    ·
      refine lv_ldc2 (v := jv (9218868437227405311)) hx hb hown (hts (.constantLong RX2 129 (jv (9218868437227405311))) (by decide +kernel)) dX2_roundedSize_23 ?_
      exact ef_lret hx hb hr hlocks hP hD hS dX2_roundedSize_26 (⟨_, _, 9218868437227405311, rfl, rfl, by assumption, by omega, 9218868437227405311, hz8.1, Or.inl ⟨Or.inl c7, rfl⟩⟩)
    ·
      refine lv_ldc2 (v := jv (9218868437227405312)) hx hb hown (hts (.constantLong RX2 127 (jv (9218868437227405312))) (by decide +kernel)) dX2_roundedSize_17 ?_
      refine lv_goto (tgt := 26) hx hb dX2_roundedSize_20 (by decide) ?_
      exact ef_lret hx hb hr hlocks hP hD hS dX2_roundedSize_26 (⟨_, _, 9218868437227405312, rfl, rfl, by assumption, by omega, 9218868437227405311, hz8.1, Or.inr ⟨⟨c7, hz8.2⟩, rfl⟩⟩)

set_option maxRecDepth 100000 in
set_option maxHeartbeats 4000000 in
/-- round -/
theorem c_round0 (l : Launch) (dC : Nat → ClassId) (dI : Nat → Nat → Nat) {cI : ClassId} {tys : List (ClassId × FieldType)} (ht : tys[0]? = some (cI, .int)) (q : Nat → Nat) {A1 U1 A2 U2 L R : Nat} {b1 e1 b2 e2 : Int} (hA1 : wl A1 ≤ 150) (hU1 : wl U1 ≤ 150) (hA2 : wl A2 ≤ 150) (hU2 : wl U2 ≤ 150) (hL : wl L ≤ 301) (hR : wl R ≤ 301) (bA1 : bl A1 ≤ 4800) (bU1 : bl U1 ≤ 4800) (bA2 : bl A2 ≤ 4800) (bU2 : bl U2 ≤ 4800) (le1 : -12000 ≤ e1) (ge1 : e1 ≤ 12000) (le2 : -12000 ≤ e2) (ge2 : e2 ≤ 12000) (nA : A1 ≠ 0) (nU : U1 ≠ 0) (up : Int) (hup : up = 0 ∨ up = 1) (hbo : b1 = 0 ∨ b1 = 1) : ef_C l yX2_round wsX2_round ({ frames := 6, cells := 0, slots := 0, locals := 139 } : Room) [.ref (q 0), .int (iv (0)), .int (iv (up))] (dC, dI) vwCl tys (cC cI q (A1) (U1) (b1) (e1) (A2) (U2) (b2) (e2) (L) (R)) (fun o w1 => ∃ (L2 R2 z : Nat), o = some (.long (jv (if b1 = 0 ∨ z = 0 then (z : Int) else (z : Int) - 9223372036854775808))) ∧ w1 = cC cI q (A1) (U1) (b1) (e1) (A2) (U2) (b2) (e2) (L2) (R2) ∧ wl L2 ≤ 301 ∧ wl R2 ≤ 301 ∧ rsz A1 U1 e1 (if up = b1 then 0 else 1) z) := by
  refine ef_C.of (cc := cX2_round) (maxL := 6) (ret := (some .long)) (by decide) rfl (Nat.le_of_ble_eq_true rfl) ?_
  intro p e s m below meth c ls hx hb hml hr hts hown hlocks hK hNX hP hD hS hl
  have hl : lv_has ls 6 [(0, .ref (q 0)), (1, .int (iv (0))), (2, .int (iv (up)))] := hl
  have hown : s.vm.findClass RX2 = some m.cls := hown
  generalize hH : s.heap = H at hP ⊢
  have hS : va_S (ef_A (cC cI q (A1) (U1) (b1) (e1) (A2) (U2) (b2) (e2) (L) (R))) s.heap H [] := by rw [← hH]; exact hS
  generalize ([] : List Loc) = locs at hS ⊢
  have hur : ir up := by rcases hup with h | h <;> rw [h] <;> exact ⟨by decide, by decide⟩
  have hbr : ir b1 := by rcases hbo with h | h <;> rw [h] <;> exact ⟨by decide, by decide⟩
  refine lv_aload_n hx hb dX2_round_0 rfl (lv_at hl 0 rfl) ?_
  refine lv_iload_n hx hb dX2_round_1 rfl (lv_at hl 1 rfl) ?_
  refine ef_callV (As := [.int (iv (0))]) (rest := []) ⟨hx, hb, hml, hown, hts⟩ (c_numberOf0 l dC dI ht q) (cwV 1 hts gX2_round_X2_numberOf rfl rfl rfl (by decide +kernel) ⟨Nat.le_of_ble_eq_true rfl, Nat.le_of_ble_eq_true rfl⟩) hK hNX hP hD hS 0 rfl rfl rfl rfl hl.1 rfl (Nat.le_of_ble_eq_true rfl) dX2_round_2 ⟨Nat.zero_le _, Nat.zero_le _⟩ (fun o w1 H locs hq hP hD hS => ?_)
  obtain ⟨rfl, e9⟩ := hq
  rw [e9] at hP hD
  refine W.eq (g2 := F0 m 5 ls [.ref (q 1)]) rfl ?_
  refine lv_astore_n (lv' := [(3, .ref (q 1)), (0, .ref (q 0)), (1, .int (iv (0))), (2, .int (iv (up)))]) hx hb dX2_round_5 rfl hl (by decide) rfl (fun ls hl => ?_)
  refine lv_aload_n hx hb dX2_round_6 rfl (lv_at hl 0 rfl) ?_
  refine lv_ifnonnull (tgt := 14) hx hb dX2_round_7 (by decide) ?_
  refine lv_aload_n hx hb dX2_round_14 rfl (lv_at hl 0 rfl) ?_
  refine va_get (D := (dC, dI)) (ci := 0) (v := .ref (q 3)) (C := RX0) (T := TX0) (N := 4) hx hb hts (by decide +kernel) hown hK hP 1 rfl rfl 0 (by decide) (hts (.fieldLink RX2 65 "ExactFractions$Fraction" "above" "LExactFractions$Whole;") (by decide +kernel)) (fun _ h9 => h9) rfl dX2_round_15 ?_
  refine ef_callV (As := []) (rest := []) ⟨hx, hb, hml, hown, hts⟩ (c_isZero l dC dI ht (isW_c (X := A1) (ws := cC cI q (A1) (U1) (b1) (e1) (A2) (U2) (b2) (e2) (L) (R)) (k0 := 3) (k1 := 4) (by decide) rfl rfl) (by omega)) (cwV 0 hts gX2_round_X1_isZero rfl rfl rfl (by decide +kernel) ⟨Nat.le_of_ble_eq_true rfl, Nat.le_of_ble_eq_true rfl⟩) hK hNX hP hD hS 3 rfl rfl rfl rfl hl.1 rfl (Nat.le_of_ble_eq_true rfl) dX2_round_18 ⟨Nat.zero_le _, Nat.zero_le _⟩ (fun o w1 H locs hq hP hD hS => ?_)
  obtain ⟨rfl, e9⟩ := hq
  rw [e9] at hP hD
  refine W.eq (g2 := F0 m 21 ls [.int (iv (if A1 = 0 then 1 else 0))]) rfl ?_
  refine iw_topi (y := iv (0)) (congrArg iv (by rw [if_neg nA] : ((if A1 = 0 then 1 else 0) : Int) = (0))) ?_
  refine iw_if_eq (tgt := 26) hx hb dX2_round_21 (by decide) ⟨by omega, by omega⟩ (fun c1 => ?_) (fun c1 => ?_)
  ·
    refine lv_aload_n hx hb dX2_round_26 rfl (lv_at hl 1 rfl) ?_
    refine lv_aload_n hx hb dX2_round_27 rfl (lv_at hl 0 rfl) ?_
    refine lv_iload_n hx hb dX2_round_28 rfl (lv_at hl 3 rfl) ?_
    refine lv_aload_n hx hb dX2_round_29 rfl (lv_at hl 0 rfl) ?_
    refine va_get (D := (dC, dI)) (ci := 0) (v := .int (iv (b1))) (C := RX0) (T := TX0) (N := 4) hx hb hts (by decide +kernel) hown hK hP 1 rfl rfl 2 (by decide) (hts (.fieldLink RX2 57 "ExactFractions$Fraction" "below" "Z") (by decide +kernel)) (fun _ h9 => h9) rfl dX2_round_30 ?_
    refine iw_icmp_eq (tgt := 40) hx hb dX2_round_33 (by decide) (hur) (hbr) (fun c2 => ?_) (fun c2 => ?_)
    ·
      refine lv_iconst (v := iv (0)) hx hb dX2_round_40 (by decide) ?_
      refine ef_callV (As := [.ref (q 1), .int (iv (0))]) (rest := []) ⟨hx, hb, hml, hown, hts⟩ (c_roundedSize0 l dC dI ht q hA1 hU1 hA2 hU2 hL hR bA1 bU1 bA2 bU2 le1 ge1 le2 ge2 nA nU 0 ⟨by decide, by decide⟩) (cwV 2 hts gX2_round_X2_roundedSize rfl rfl rfl (by decide +kernel) ⟨Nat.le_of_ble_eq_true rfl, Nat.le_of_ble_eq_true rfl⟩) hK hNX hP hD hS 0 rfl rfl rfl rfl hl.1 rfl (Nat.le_of_ble_eq_true rfl) dX2_round_41 ⟨Nat.zero_le _, Nat.zero_le _⟩ (fun o w1 H locs hq hP hD hS => ?_)
      obtain ⟨L2, R2, z, rfl, rfl, hL2, hR2, hrz⟩ := hq
      have hP : va_P (dC, dI) vwCl (cC cI q (A1) (U1) (b1) (e1) (A2) (U2) (b2) (e2) (L2) (R2)) H := hP
      have hD : va_D (ef_A (cC cI q (A1) (U1) (b1) (e1) (A2) (U2) (b2) (e2) (L) (R))) (cC cI q (A1) (U1) (b1) (e1) (A2) (U2) (b2) (e2) (L2) (R2)) := hD
      refine W.eq (g2 := F0 m 44 ls [.long (jv ((z : Int)))]) rfl ?_
      have hzb : z ≤ 9218868437227405312 := rsz_le hrz
      rw [if_pos c2]
      refine lv_lstore (lv' := [(4, .long (jv ((z : Int)))), (3, .ref (q 1)), (0, .ref (q 0)), (1, .int (iv (0))), (2, .int (iv (up)))]) hx hb dX2_round_44 hl (by decide) rfl (fun ls hl => ?_)
      refine lv_aload_n hx hb dX2_round_46 rfl (lv_at hl 1 rfl) ?_
      refine va_get (D := (dC, dI)) (ci := 0) (v := .int (iv (b1))) (C := RX0) (T := TX0) (N := 4) hx hb hts (by decide +kernel) hown hK hP 1 rfl rfl 2 (by decide) (hts (.fieldLink RX2 57 "ExactFractions$Fraction" "below" "Z") (by decide +kernel)) (fun _ h9 => h9) rfl dX2_round_47 ?_
      refine iw_if_eq (tgt := 69) hx hb dX2_round_50 (by decide) (hbr) (fun c4 => ?_) (fun c4 => ?_)
      ·
        refine lv_lload hx hb dX2_round_69 (lv_at hl 0 rfl) ?_
        exact ef_lret hx hb hr hlocks hP hD hS dX2_round_71 (⟨_, _, z, by rw [if_pos (Or.inl c4)], rfl, hL2, hR2, hrz⟩)
      ·
        refine lv_lload hx hb dX2_round_53 (lv_at hl 0 rfl) ?_
        refine lv_lconst (v := jv (0)) hx hb dX2_round_55 (by decide) ?_
        refine iw_lcmp hx hb (⟨by omega, by omega⟩) (⟨by omega, by omega⟩) dX2_round_56 ?_
        refine iw_if_eq (tgt := 69) hx hb dX2_round_57 (by decide) (ir_zc _ _) (fun c5 => ?_) (fun c5 => ?_)
        ·
          have c6 : z = 0 := by have := (zc_0 _ _).1 c5; omega
          refine lv_lload hx hb dX2_round_69 (lv_at hl 0 rfl) ?_
          exact ef_lret hx hb hr hlocks hP hD hS dX2_round_71 (⟨_, _, z, by rw [if_pos (Or.inr c6)], rfl, hL2, hR2, hrz⟩)
        ·
          have c6 : z ≠ 0 := fun q9 => c5 ((zc_0 _ _).2 (by omega))
          refine lv_lload hx hb dX2_round_60 (lv_at hl 0 rfl) ?_
          refine lv_ldc2 (v := jv (-9223372036854775808)) hx hb hown (hts (.constantLong RX2 101 (jv (-9223372036854775808))) (by decide +kernel)) dX2_round_62 ?_
          refine iw_lorS hx hb (by omega) dX2_round_65 ?_
          refine lv_goto (tgt := 71) hx hb dX2_round_66 (by decide) ?_
          exact ef_lret hx hb hr hlocks hP hD hS dX2_round_71 (⟨_, _, z, by rw [if_neg (fun q9 => q9.elim c4 c6)], rfl, hL2, hR2, hrz⟩)
    ·
      refine lv_iconst (v := iv (1)) hx hb dX2_round_36 (by decide) ?_
      refine lv_goto (tgt := 41) hx hb dX2_round_37 (by decide) ?_
      refine ef_callV (As := [.ref (q 1), .int (iv (1))]) (rest := []) ⟨hx, hb, hml, hown, hts⟩ (c_roundedSize0 l dC dI ht q hA1 hU1 hA2 hU2 hL hR bA1 bU1 bA2 bU2 le1 ge1 le2 ge2 nA nU 1 ⟨by decide, by decide⟩) (cwV 2 hts gX2_round_X2_roundedSize rfl rfl rfl (by decide +kernel) ⟨Nat.le_of_ble_eq_true rfl, Nat.le_of_ble_eq_true rfl⟩) hK hNX hP hD hS 0 rfl rfl rfl rfl hl.1 rfl (Nat.le_of_ble_eq_true rfl) dX2_round_41 ⟨Nat.zero_le _, Nat.zero_le _⟩ (fun o w1 H locs hq hP hD hS => ?_)
      obtain ⟨L2, R2, z, rfl, rfl, hL2, hR2, hrz⟩ := hq
      have hP : va_P (dC, dI) vwCl (cC cI q (A1) (U1) (b1) (e1) (A2) (U2) (b2) (e2) (L2) (R2)) H := hP
      have hD : va_D (ef_A (cC cI q (A1) (U1) (b1) (e1) (A2) (U2) (b2) (e2) (L) (R))) (cC cI q (A1) (U1) (b1) (e1) (A2) (U2) (b2) (e2) (L2) (R2)) := hD
      refine W.eq (g2 := F0 m 44 ls [.long (jv ((z : Int)))]) rfl ?_
      have hzb : z ≤ 9218868437227405312 := rsz_le hrz
      rw [if_neg c2]
      refine lv_lstore (lv' := [(4, .long (jv ((z : Int)))), (3, .ref (q 1)), (0, .ref (q 0)), (1, .int (iv (0))), (2, .int (iv (up)))]) hx hb dX2_round_44 hl (by decide) rfl (fun ls hl => ?_)
      refine lv_aload_n hx hb dX2_round_46 rfl (lv_at hl 1 rfl) ?_
      refine va_get (D := (dC, dI)) (ci := 0) (v := .int (iv (b1))) (C := RX0) (T := TX0) (N := 4) hx hb hts (by decide +kernel) hown hK hP 1 rfl rfl 2 (by decide) (hts (.fieldLink RX2 57 "ExactFractions$Fraction" "below" "Z") (by decide +kernel)) (fun _ h9 => h9) rfl dX2_round_47 ?_
      refine iw_if_eq (tgt := 69) hx hb dX2_round_50 (by decide) (hbr) (fun c4 => ?_) (fun c4 => ?_)
      ·
        refine lv_lload hx hb dX2_round_69 (lv_at hl 0 rfl) ?_
        exact ef_lret hx hb hr hlocks hP hD hS dX2_round_71 (⟨_, _, z, by rw [if_pos (Or.inl c4)], rfl, hL2, hR2, hrz⟩)
      ·
        refine lv_lload hx hb dX2_round_53 (lv_at hl 0 rfl) ?_
        refine lv_lconst (v := jv (0)) hx hb dX2_round_55 (by decide) ?_
        refine iw_lcmp hx hb (⟨by omega, by omega⟩) (⟨by omega, by omega⟩) dX2_round_56 ?_
        refine iw_if_eq (tgt := 69) hx hb dX2_round_57 (by decide) (ir_zc _ _) (fun c5 => ?_) (fun c5 => ?_)
        ·
          have c6 : z = 0 := by have := (zc_0 _ _).1 c5; omega
          refine lv_lload hx hb dX2_round_69 (lv_at hl 0 rfl) ?_
          exact ef_lret hx hb hr hlocks hP hD hS dX2_round_71 (⟨_, _, z, by rw [if_pos (Or.inr c6)], rfl, hL2, hR2, hrz⟩)
        ·
          have c6 : z ≠ 0 := fun q9 => c5 ((zc_0 _ _).2 (by omega))
          refine lv_lload hx hb dX2_round_60 (lv_at hl 0 rfl) ?_
          refine lv_ldc2 (v := jv (-9223372036854775808)) hx hb hown (hts (.constantLong RX2 101 (jv (-9223372036854775808))) (by decide +kernel)) dX2_round_62 ?_
          refine iw_lorS hx hb (by omega) dX2_round_65 ?_
          refine lv_goto (tgt := 71) hx hb dX2_round_66 (by decide) ?_
          exact ef_lret hx hb hr hlocks hP hD hS dX2_round_71 (⟨_, _, z, by rw [if_neg (fun q9 => q9.elim c4 c6)], rfl, hL2, hR2, hrz⟩)
  ·
    exact absurd rfl c1

set_option maxRecDepth 100000 in
set_option maxHeartbeats 4000000 in
/-- round of 0 -/
theorem c_round0Z (l : Launch) (dC : Nat → ClassId) (dI : Nat → Nat → Nat) {cI : ClassId} {tys : List (ClassId × FieldType)} (ht : tys[0]? = some (cI, .int)) (q : Nat → Nat) {A1 U1 A2 U2 L R : Nat} {b1 e1 b2 e2 : Int} (hA1 : wl A1 ≤ 150) (hU1 : wl U1 ≤ 150) (hA2 : wl A2 ≤ 150) (hU2 : wl U2 ≤ 150) (hL : wl L ≤ 301) (hR : wl R ≤ 301) (nA : A1 = 0) (up : Int) : ef_C l yX2_round wsX2_round ({ frames := 6, cells := 0, slots := 0, locals := 139 } : Room) [.ref (q 0), .int (iv (0)), .int (iv (up))] (dC, dI) vwCl tys (cC cI q (A1) (U1) (b1) (e1) (A2) (U2) (b2) (e2) (L) (R)) (fun o w1 => ∃ L2 R2 : Nat, o = some (.long (jv 0)) ∧ w1 = cC cI q (A1) (U1) (b1) (e1) (A2) (U2) (b2) (e2) (L2) (R2) ∧ wl L2 ≤ 301 ∧ wl R2 ≤ 301) := by
  refine ef_C.of (cc := cX2_round) (maxL := 6) (ret := (some .long)) (by decide) rfl (Nat.le_of_ble_eq_true rfl) ?_
  intro p e s m below meth c ls hx hb hml hr hts hown hlocks hK hNX hP hD hS hl
  have hl : lv_has ls 6 [(0, .ref (q 0)), (1, .int (iv (0))), (2, .int (iv (up)))] := hl
  have hown : s.vm.findClass RX2 = some m.cls := hown
  generalize hH : s.heap = H at hP ⊢
  have hS : va_S (ef_A (cC cI q (A1) (U1) (b1) (e1) (A2) (U2) (b2) (e2) (L) (R))) s.heap H [] := by rw [← hH]; exact hS
  generalize ([] : List Loc) = locs at hS ⊢
  refine lv_aload_n hx hb dX2_round_0 rfl (lv_at hl 0 rfl) ?_
  refine lv_iload_n hx hb dX2_round_1 rfl (lv_at hl 1 rfl) ?_
  refine ef_callV (As := [.int (iv (0))]) (rest := []) ⟨hx, hb, hml, hown, hts⟩ (c_numberOf0 l dC dI ht q) (cwV 1 hts gX2_round_X2_numberOf rfl rfl rfl (by decide +kernel) ⟨Nat.le_of_ble_eq_true rfl, Nat.le_of_ble_eq_true rfl⟩) hK hNX hP hD hS 0 rfl rfl rfl rfl hl.1 rfl (Nat.le_of_ble_eq_true rfl) dX2_round_2 ⟨Nat.zero_le _, Nat.zero_le _⟩ (fun o w1 H locs hq hP hD hS => ?_)
  obtain ⟨rfl, e9⟩ := hq
  rw [e9] at hP hD
  refine W.eq (g2 := F0 m 5 ls [.ref (q 1)]) rfl ?_
  refine lv_astore_n (lv' := [(3, .ref (q 1)), (0, .ref (q 0)), (1, .int (iv (0))), (2, .int (iv (up)))]) hx hb dX2_round_5 rfl hl (by decide) rfl (fun ls hl => ?_)
  refine lv_aload_n hx hb dX2_round_6 rfl (lv_at hl 0 rfl) ?_
  refine lv_ifnonnull (tgt := 14) hx hb dX2_round_7 (by decide) ?_
  refine lv_aload_n hx hb dX2_round_14 rfl (lv_at hl 0 rfl) ?_
  refine va_get (D := (dC, dI)) (ci := 0) (v := .ref (q 3)) (C := RX0) (T := TX0) (N := 4) hx hb hts (by decide +kernel) hown hK hP 1 rfl rfl 0 (by decide) (hts (.fieldLink RX2 65 "ExactFractions$Fraction" "above" "LExactFractions$Whole;") (by decide +kernel)) (fun _ h9 => h9) rfl dX2_round_15 ?_
  refine ef_callV (As := []) (rest := []) ⟨hx, hb, hml, hown, hts⟩ (c_isZero l dC dI ht (isW_c (X := A1) (ws := cC cI q (A1) (U1) (b1) (e1) (A2) (U2) (b2) (e2) (L) (R)) (k0 := 3) (k1 := 4) (by decide) rfl rfl) (by omega)) (cwV 0 hts gX2_round_X1_isZero rfl rfl rfl (by decide +kernel) ⟨Nat.le_of_ble_eq_true rfl, Nat.le_of_ble_eq_true rfl⟩) hK hNX hP hD hS 3 rfl rfl rfl rfl hl.1 rfl (Nat.le_of_ble_eq_true rfl) dX2_round_18 ⟨Nat.zero_le _, Nat.zero_le _⟩ (fun o w1 H locs hq hP hD hS => ?_)
  obtain ⟨rfl, e9⟩ := hq
  rw [e9] at hP hD
  refine W.eq (g2 := F0 m 21 ls [.int (iv (if A1 = 0 then 1 else 0))]) rfl ?_
  refine iw_topi (y := iv (1)) (congrArg iv (by rw [if_pos nA] : ((if A1 = 0 then 1 else 0) : Int) = (1))) ?_
  refine iw_if_eq (tgt := 26) hx hb dX2_round_21 (by decide) ⟨by omega, by omega⟩ (fun c1 => ?_) (fun c1 => ?_)
  ·
    exact absurd c1 (by decide)
  ·
    refine lv_lconst (v := jv (0)) hx hb dX2_round_24 (by decide) ?_
    exact ef_lret hx hb hr hlocks hP hD hS dX2_round_25 (⟨_, _, rfl, rfl, hL, hR⟩)

set_option maxRecDepth 100000 in
set_option maxHeartbeats 4000000 in
/-- round -/
theorem c_round1 (l : Launch) (dC : Nat → ClassId) (dI : Nat → Nat → Nat) {cI : ClassId} {tys : List (ClassId × FieldType)} (ht : tys[0]? = some (cI, .int)) (q : Nat → Nat) {A1 U1 A2 U2 L R : Nat} {b1 e1 b2 e2 : Int} (hA1 : wl A1 ≤ 150) (hU1 : wl U1 ≤ 150) (hA2 : wl A2 ≤ 150) (hU2 : wl U2 ≤ 150) (hL : wl L ≤ 301) (hR : wl R ≤ 301) (bA1 : bl A1 ≤ 4800) (bU1 : bl U1 ≤ 4800) (bA2 : bl A2 ≤ 4800) (bU2 : bl U2 ≤ 4800) (le1 : -12000 ≤ e1) (ge1 : e1 ≤ 12000) (le2 : -12000 ≤ e2) (ge2 : e2 ≤ 12000) (nA : A2 ≠ 0) (nU : U2 ≠ 0) (up : Int) (hup : up = 0 ∨ up = 1) (hbo : b2 = 0 ∨ b2 = 1) : ef_C l yX2_round wsX2_round ({ frames := 6, cells := 0, slots := 0, locals := 139 } : Room) [.ref (q 0), .int (iv (1)), .int (iv (up))] (dC, dI) vwCl tys (cC cI q (A1) (U1) (b1) (e1) (A2) (U2) (b2) (e2) (L) (R)) (fun o w1 => ∃ (L2 R2 z : Nat), o = some (.long (jv (if b2 = 0 ∨ z = 0 then (z : Int) else (z : Int) - 9223372036854775808))) ∧ w1 = cC cI q (A1) (U1) (b1) (e1) (A2) (U2) (b2) (e2) (L2) (R2) ∧ wl L2 ≤ 301 ∧ wl R2 ≤ 301 ∧ rsz A2 U2 e2 (if up = b2 then 0 else 1) z) := by
  refine ef_C.of (cc := cX2_round) (maxL := 6) (ret := (some .long)) (by decide) rfl (Nat.le_of_ble_eq_true rfl) ?_
  intro p e s m below meth c ls hx hb hml hr hts hown hlocks hK hNX hP hD hS hl
  have hl : lv_has ls 6 [(0, .ref (q 0)), (1, .int (iv (1))), (2, .int (iv (up)))] := hl
  have hown : s.vm.findClass RX2 = some m.cls := hown
  generalize hH : s.heap = H at hP ⊢
  have hS : va_S (ef_A (cC cI q (A1) (U1) (b1) (e1) (A2) (U2) (b2) (e2) (L) (R))) s.heap H [] := by rw [← hH]; exact hS
  generalize ([] : List Loc) = locs at hS ⊢
  have hur : ir up := by rcases hup with h | h <;> rw [h] <;> exact ⟨by decide, by decide⟩
  have hbr : ir b2 := by rcases hbo with h | h <;> rw [h] <;> exact ⟨by decide, by decide⟩
  refine lv_aload_n hx hb dX2_round_0 rfl (lv_at hl 0 rfl) ?_
  refine lv_iload_n hx hb dX2_round_1 rfl (lv_at hl 1 rfl) ?_
  refine ef_callV (As := [.int (iv (1))]) (rest := []) ⟨hx, hb, hml, hown, hts⟩ (c_numberOf1 l dC dI ht q) (cwV 1 hts gX2_round_X2_numberOf rfl rfl rfl (by decide +kernel) ⟨Nat.le_of_ble_eq_true rfl, Nat.le_of_ble_eq_true rfl⟩) hK hNX hP hD hS 0 rfl rfl rfl rfl hl.1 rfl (Nat.le_of_ble_eq_true rfl) dX2_round_2 ⟨Nat.zero_le _, Nat.zero_le _⟩ (fun o w1 H locs hq hP hD hS => ?_)
  obtain ⟨rfl, e9⟩ := hq
  rw [e9] at hP hD
  refine W.eq (g2 := F0 m 5 ls [.ref (q 2)]) rfl ?_
  refine lv_astore_n (lv' := [(3, .ref (q 2)), (0, .ref (q 0)), (1, .int (iv (1))), (2, .int (iv (up)))]) hx hb dX2_round_5 rfl hl (by decide) rfl (fun ls hl => ?_)
  refine lv_aload_n hx hb dX2_round_6 rfl (lv_at hl 0 rfl) ?_
  refine lv_ifnonnull (tgt := 14) hx hb dX2_round_7 (by decide) ?_
  refine lv_aload_n hx hb dX2_round_14 rfl (lv_at hl 0 rfl) ?_
  refine va_get (D := (dC, dI)) (ci := 0) (v := .ref (q 7)) (C := RX0) (T := TX0) (N := 4) hx hb hts (by decide +kernel) hown hK hP 2 rfl rfl 0 (by decide) (hts (.fieldLink RX2 65 "ExactFractions$Fraction" "above" "LExactFractions$Whole;") (by decide +kernel)) (fun _ h9 => h9) rfl dX2_round_15 ?_
  refine ef_callV (As := []) (rest := []) ⟨hx, hb, hml, hown, hts⟩ (c_isZero l dC dI ht (isW_c (X := A2) (ws := cC cI q (A1) (U1) (b1) (e1) (A2) (U2) (b2) (e2) (L) (R)) (k0 := 7) (k1 := 8) (by decide) rfl rfl) (by omega)) (cwV 0 hts gX2_round_X1_isZero rfl rfl rfl (by decide +kernel) ⟨Nat.le_of_ble_eq_true rfl, Nat.le_of_ble_eq_true rfl⟩) hK hNX hP hD hS 7 rfl rfl rfl rfl hl.1 rfl (Nat.le_of_ble_eq_true rfl) dX2_round_18 ⟨Nat.zero_le _, Nat.zero_le _⟩ (fun o w1 H locs hq hP hD hS => ?_)
  obtain ⟨rfl, e9⟩ := hq
  rw [e9] at hP hD
  refine W.eq (g2 := F0 m 21 ls [.int (iv (if A2 = 0 then 1 else 0))]) rfl ?_
  refine iw_topi (y := iv (0)) (congrArg iv (by rw [if_neg nA] : ((if A2 = 0 then 1 else 0) : Int) = (0))) ?_
  refine iw_if_eq (tgt := 26) hx hb dX2_round_21 (by decide) ⟨by omega, by omega⟩ (fun c1 => ?_) (fun c1 => ?_)
  ·
    refine lv_aload_n hx hb dX2_round_26 rfl (lv_at hl 1 rfl) ?_
    refine lv_aload_n hx hb dX2_round_27 rfl (lv_at hl 0 rfl) ?_
    refine lv_iload_n hx hb dX2_round_28 rfl (lv_at hl 3 rfl) ?_
    refine lv_aload_n hx hb dX2_round_29 rfl (lv_at hl 0 rfl) ?_
    refine va_get (D := (dC, dI)) (ci := 0) (v := .int (iv (b2))) (C := RX0) (T := TX0) (N := 4) hx hb hts (by decide +kernel) hown hK hP 2 rfl rfl 2 (by decide) (hts (.fieldLink RX2 57 "ExactFractions$Fraction" "below" "Z") (by decide +kernel)) (fun _ h9 => h9) rfl dX2_round_30 ?_
    refine iw_icmp_eq (tgt := 40) hx hb dX2_round_33 (by decide) (hur) (hbr) (fun c2 => ?_) (fun c2 => ?_)
    ·
      refine lv_iconst (v := iv (0)) hx hb dX2_round_40 (by decide) ?_
      refine ef_callV (As := [.ref (q 2), .int (iv (0))]) (rest := []) ⟨hx, hb, hml, hown, hts⟩ (c_roundedSize1 l dC dI ht q hA1 hU1 hA2 hU2 hL hR bA1 bU1 bA2 bU2 le1 ge1 le2 ge2 nA nU 0 ⟨by decide, by decide⟩) (cwV 2 hts gX2_round_X2_roundedSize rfl rfl rfl (by decide +kernel) ⟨Nat.le_of_ble_eq_true rfl, Nat.le_of_ble_eq_true rfl⟩) hK hNX hP hD hS 0 rfl rfl rfl rfl hl.1 rfl (Nat.le_of_ble_eq_true rfl) dX2_round_41 ⟨Nat.zero_le _, Nat.zero_le _⟩ (fun o w1 H locs hq hP hD hS => ?_)
      obtain ⟨L2, R2, z, rfl, rfl, hL2, hR2, hrz⟩ := hq
      have hP : va_P (dC, dI) vwCl (cC cI q (A1) (U1) (b1) (e1) (A2) (U2) (b2) (e2) (L2) (R2)) H := hP
      have hD : va_D (ef_A (cC cI q (A1) (U1) (b1) (e1) (A2) (U2) (b2) (e2) (L) (R))) (cC cI q (A1) (U1) (b1) (e1) (A2) (U2) (b2) (e2) (L2) (R2)) := hD
      refine W.eq (g2 := F0 m 44 ls [.long (jv ((z : Int)))]) rfl ?_
      have hzb : z ≤ 9218868437227405312 := rsz_le hrz
      rw [if_pos c2]
      refine lv_lstore (lv' := [(4, .long (jv ((z : Int)))), (3, .ref (q 2)), (0, .ref (q 0)), (1, .int (iv (1))), (2, .int (iv (up)))]) hx hb dX2_round_44 hl (by decide) rfl (fun ls hl => ?_)
      refine lv_aload_n hx hb dX2_round_46 rfl (lv_at hl 1 rfl) ?_
      refine va_get (D := (dC, dI)) (ci := 0) (v := .int (iv (b2))) (C := RX0) (T := TX0) (N := 4) hx hb hts (by decide +kernel) hown hK hP 2 rfl rfl 2 (by decide) (hts (.fieldLink RX2 57 "ExactFractions$Fraction" "below" "Z") (by decide +kernel)) (fun _ h9 => h9) rfl dX2_round_47 ?_
      refine iw_if_eq (tgt := 69) hx hb dX2_round_50 (by decide) (hbr) (fun c4 => ?_) (fun c4 => ?_)
      ·
        refine lv_lload hx hb dX2_round_69 (lv_at hl 0 rfl) ?_
        exact ef_lret hx hb hr hlocks hP hD hS dX2_round_71 (⟨_, _, z, by rw [if_pos (Or.inl c4)], rfl, hL2, hR2, hrz⟩)
      ·
        refine lv_lload hx hb dX2_round_53 (lv_at hl 0 rfl) ?_
        refine lv_lconst (v := jv (0)) hx hb dX2_round_55 (by decide) ?_
        refine iw_lcmp hx hb (⟨by omega, by omega⟩) (⟨by omega, by omega⟩) dX2_round_56 ?_
        refine iw_if_eq (tgt := 69) hx hb dX2_round_57 (by decide) (ir_zc _ _) (fun c5 => ?_) (fun c5 => ?_)
        ·
          have c6 : z = 0 := by have := (zc_0 _ _).1 c5; omega
          refine lv_lload hx hb dX2_round_69 (lv_at hl 0 rfl) ?_
          exact ef_lret hx hb hr hlocks hP hD hS dX2_round_71 (⟨_, _, z, by rw [if_pos (Or.inr c6)], rfl, hL2, hR2, hrz⟩)
        ·
          have c6 : z ≠ 0 := fun q9 => c5 ((zc_0 _ _).2 (by omega))
          refine lv_lload hx hb dX2_round_60 (lv_at hl 0 rfl) ?_
          refine lv_ldc2 (v := jv (-9223372036854775808)) hx hb hown (hts (.constantLong RX2 101 (jv (-9223372036854775808))) (by decide +kernel)) dX2_round_62 ?_
          refine iw_lorS hx hb (by omega) dX2_round_65 ?_
          refine lv_goto (tgt := 71) hx hb dX2_round_66 (by decide) ?_
          exact ef_lret hx hb hr hlocks hP hD hS dX2_round_71 (⟨_, _, z, by rw [if_neg (fun q9 => q9.elim c4 c6)], rfl, hL2, hR2, hrz⟩)
    ·
      refine lv_iconst (v := iv (1)) hx hb dX2_round_36 (by decide) ?_
      refine lv_goto (tgt := 41) hx hb dX2_round_37 (by decide) ?_
      refine ef_callV (As := [.ref (q 2), .int (iv (1))]) (rest := []) ⟨hx, hb, hml, hown, hts⟩ (c_roundedSize1 l dC dI ht q hA1 hU1 hA2 hU2 hL hR bA1 bU1 bA2 bU2 le1 ge1 le2 ge2 nA nU 1 ⟨by decide, by decide⟩) (cwV 2 hts gX2_round_X2_roundedSize rfl rfl rfl (by decide +kernel) ⟨Nat.le_of_ble_eq_true rfl, Nat.le_of_ble_eq_true rfl⟩) hK hNX hP hD hS 0 rfl rfl rfl rfl hl.1 rfl (Nat.le_of_ble_eq_true rfl) dX2_round_41 ⟨Nat.zero_le _, Nat.zero_le _⟩ (fun o w1 H locs hq hP hD hS => ?_)
      obtain ⟨L2, R2, z, rfl, rfl, hL2, hR2, hrz⟩ := hq
      have hP : va_P (dC, dI) vwCl (cC cI q (A1) (U1) (b1) (e1) (A2) (U2) (b2) (e2) (L2) (R2)) H := hP
      have hD : va_D (ef_A (cC cI q (A1) (U1) (b1) (e1) (A2) (U2) (b2) (e2) (L) (R))) (cC cI q (A1) (U1) (b1) (e1) (A2) (U2) (b2) (e2) (L2) (R2)) := hD
      refine W.eq (g2 := F0 m 44 ls [.long (jv ((z : Int)))]) rfl ?_
      have hzb : z ≤ 9218868437227405312 := rsz_le hrz
      rw [if_neg c2]
      refine lv_lstore (lv' := [(4, .long (jv ((z : Int)))), (3, .ref (q 2)), (0, .ref (q 0)), (1, .int (iv (1))), (2, .int (iv (up)))]) hx hb dX2_round_44 hl (by decide) rfl (fun ls hl => ?_)
      refine lv_aload_n hx hb dX2_round_46 rfl (lv_at hl 1 rfl) ?_
      refine va_get (D := (dC, dI)) (ci := 0) (v := .int (iv (b2))) (C := RX0) (T := TX0) (N := 4) hx hb hts (by decide +kernel) hown hK hP 2 rfl rfl 2 (by decide) (hts (.fieldLink RX2 57 "ExactFractions$Fraction" "below" "Z") (by decide +kernel)) (fun _ h9 => h9) rfl dX2_round_47 ?_
      refine iw_if_eq (tgt := 69) hx hb dX2_round_50 (by decide) (hbr) (fun c4 => ?_) (fun c4 => ?_)
      ·
        refine lv_lload hx hb dX2_round_69 (lv_at hl 0 rfl) ?_
        exact ef_lret hx hb hr hlocks hP hD hS dX2_round_71 (⟨_, _, z, by rw [if_pos (Or.inl c4)], rfl, hL2, hR2, hrz⟩)
      ·
        refine lv_lload hx hb dX2_round_53 (lv_at hl 0 rfl) ?_
        refine lv_lconst (v := jv (0)) hx hb dX2_round_55 (by decide) ?_
        refine iw_lcmp hx hb (⟨by omega, by omega⟩) (⟨by omega, by omega⟩) dX2_round_56 ?_
        refine iw_if_eq (tgt := 69) hx hb dX2_round_57 (by decide) (ir_zc _ _) (fun c5 => ?_) (fun c5 => ?_)
        ·
          have c6 : z = 0 := by have := (zc_0 _ _).1 c5; omega
          refine lv_lload hx hb dX2_round_69 (lv_at hl 0 rfl) ?_
          exact ef_lret hx hb hr hlocks hP hD hS dX2_round_71 (⟨_, _, z, by rw [if_pos (Or.inr c6)], rfl, hL2, hR2, hrz⟩)
        ·
          have c6 : z ≠ 0 := fun q9 => c5 ((zc_0 _ _).2 (by omega))
          refine lv_lload hx hb dX2_round_60 (lv_at hl 0 rfl) ?_
          refine lv_ldc2 (v := jv (-9223372036854775808)) hx hb hown (hts (.constantLong RX2 101 (jv (-9223372036854775808))) (by decide +kernel)) dX2_round_62 ?_
          refine iw_lorS hx hb (by omega) dX2_round_65 ?_
          refine lv_goto (tgt := 71) hx hb dX2_round_66 (by decide) ?_
          exact ef_lret hx hb hr hlocks hP hD hS dX2_round_71 (⟨_, _, z, by rw [if_neg (fun q9 => q9.elim c4 c6)], rfl, hL2, hR2, hrz⟩)
  ·
    exact absurd rfl c1

set_option maxRecDepth 100000 in
set_option maxHeartbeats 4000000 in
/-- round of 0 -/
theorem c_round1Z (l : Launch) (dC : Nat → ClassId) (dI : Nat → Nat → Nat) {cI : ClassId} {tys : List (ClassId × FieldType)} (ht : tys[0]? = some (cI, .int)) (q : Nat → Nat) {A1 U1 A2 U2 L R : Nat} {b1 e1 b2 e2 : Int} (hA1 : wl A1 ≤ 150) (hU1 : wl U1 ≤ 150) (hA2 : wl A2 ≤ 150) (hU2 : wl U2 ≤ 150) (hL : wl L ≤ 301) (hR : wl R ≤ 301) (nA : A2 = 0) (up : Int) : ef_C l yX2_round wsX2_round ({ frames := 6, cells := 0, slots := 0, locals := 139 } : Room) [.ref (q 0), .int (iv (1)), .int (iv (up))] (dC, dI) vwCl tys (cC cI q (A1) (U1) (b1) (e1) (A2) (U2) (b2) (e2) (L) (R)) (fun o w1 => ∃ L2 R2 : Nat, o = some (.long (jv 0)) ∧ w1 = cC cI q (A1) (U1) (b1) (e1) (A2) (U2) (b2) (e2) (L2) (R2) ∧ wl L2 ≤ 301 ∧ wl R2 ≤ 301) := by
  refine ef_C.of (cc := cX2_round) (maxL := 6) (ret := (some .long)) (by decide) rfl (Nat.le_of_ble_eq_true rfl) ?_
  intro p e s m below meth c ls hx hb hml hr hts hown hlocks hK hNX hP hD hS hl
  have hl : lv_has ls 6 [(0, .ref (q 0)), (1, .int (iv (1))), (2, .int (iv (up)))] := hl
  have hown : s.vm.findClass RX2 = some m.cls := hown
  generalize hH : s.heap = H at hP ⊢
  have hS : va_S (ef_A (cC cI q (A1) (U1) (b1) (e1) (A2) (U2) (b2) (e2) (L) (R))) s.heap H [] := by rw [← hH]; exact hS
  generalize ([] : List Loc) = locs at hS ⊢
  refine lv_aload_n hx hb dX2_round_0 rfl (lv_at hl 0 rfl) ?_
  refine lv_iload_n hx hb dX2_round_1 rfl (lv_at hl 1 rfl) ?_
  refine ef_callV (As := [.int (iv (1))]) (rest := []) ⟨hx, hb, hml, hown, hts⟩ (c_numberOf1 l dC dI ht q) (cwV 1 hts gX2_round_X2_numberOf rfl rfl rfl (by decide +kernel) ⟨Nat.le_of_ble_eq_true rfl, Nat.le_of_ble_eq_true rfl⟩) hK hNX hP hD hS 0 rfl rfl rfl rfl hl.1 rfl (Nat.le_of_ble_eq_true rfl) dX2_round_2 ⟨Nat.zero_le _, Nat.zero_le _⟩ (fun o w1 H locs hq hP hD hS => ?_)
  obtain ⟨rfl, e9⟩ := hq
  rw [e9] at hP hD
  refine W.eq (g2 := F0 m 5 ls [.ref (q 2)]) rfl ?_
  refine lv_astore_n (lv' := [(3, .ref (q 2)), (0, .ref (q 0)), (1, .int (iv (1))), (2, .int (iv (up)))]) hx hb dX2_round_5 rfl hl (by decide) rfl (fun ls hl => ?_)
  refine lv_aload_n hx hb dX2_round_6 rfl (lv_at hl 0 rfl) ?_
  refine lv_ifnonnull (tgt := 14) hx hb dX2_round_7 (by decide) ?_
  refine lv_aload_n hx hb dX2_round_14 rfl (lv_at hl 0 rfl) ?_
  refine va_get (D := (dC, dI)) (ci := 0) (v := .ref (q 7)) (C := RX0) (T := TX0) (N := 4) hx hb hts (by decide +kernel) hown hK hP 2 rfl rfl 0 (by decide) (hts (.fieldLink RX2 65 "ExactFractions$Fraction" "above" "LExactFractions$Whole;") (by decide +kernel)) (fun _ h9 => h9) rfl dX2_round_15 ?_
  refine ef_callV (As := []) (rest := []) ⟨hx, hb, hml, hown, hts⟩ (c_isZero l dC dI ht (isW_c (X := A2) (ws := cC cI q (A1) (U1) (b1) (e1) (A2) (U2) (b2) (e2) (L) (R)) (k0 := 7) (k1 := 8) (by decide) rfl rfl) (by omega)) (cwV 0 hts gX2_round_X1_isZero rfl rfl rfl (by decide +kernel) ⟨Nat.le_of_ble_eq_true rfl, Nat.le_of_ble_eq_true rfl⟩) hK hNX hP hD hS 7 rfl rfl rfl rfl hl.1 rfl (Nat.le_of_ble_eq_true rfl) dX2_round_18 ⟨Nat.zero_le _, Nat.zero_le _⟩ (fun o w1 H locs hq hP hD hS => ?_)
  obtain ⟨rfl, e9⟩ := hq
  rw [e9] at hP hD
  refine W.eq (g2 := F0 m 21 ls [.int (iv (if A2 = 0 then 1 else 0))]) rfl ?_
  refine iw_topi (y := iv (1)) (congrArg iv (by rw [if_pos nA] : ((if A2 = 0 then 1 else 0) : Int) = (1))) ?_
  refine iw_if_eq (tgt := 26) hx hb dX2_round_21 (by decide) ⟨by omega, by omega⟩ (fun c1 => ?_) (fun c1 => ?_)
  ·
    exact absurd c1 (by decide)
  ·
    refine lv_lconst (v := jv (0)) hx hb dX2_round_24 (by decide) ?_
    exact ef_lret hx hb hr hlocks hP hD hS dX2_round_25 (⟨_, _, rfl, rfl, hL, hR⟩)

set_option maxRecDepth 100000 in
set_option maxHeartbeats 4000000 in
/-- round of no number -/
theorem c_roundx (l : Launch) (dC : Nat → ClassId) (dI : Nat → Nat → Nat) {cI : ClassId} {tys : List (ClassId × FieldType)} (ht : tys[0]? = some (cI, .int)) (q : Nat → Nat) {A1 U1 A2 U2 L R : Nat} {b1 e1 b2 e2 : Int} (hA1 : wl A1 ≤ 150) (hU1 : wl U1 ≤ 150) (hA2 : wl A2 ≤ 150) (hU2 : wl U2 ≤ 150) (hL : wl L ≤ 301) (hR : wl R ≤ 301) (z : Int) (hz : ir z) (hz0 : z ≠ 0) (hz1 : z ≠ 1) (up : Int) : ef_C l yX2_round wsX2_round ({ frames := 6, cells := 0, slots := 0, locals := 139 } : Room) [.ref (q 0), .int (iv (z)), .int (iv (up))] (dC, dI) vwCl tys (cC cI q (A1) (U1) (b1) (e1) (A2) (U2) (b2) (e2) (L) (R)) (fun o w1 => ∃ L2 R2 : Nat, o = some (.long (jv 9221120237041090560)) ∧ w1 = cC cI q (A1) (U1) (b1) (e1) (A2) (U2) (b2) (e2) (L2) (R2) ∧ wl L2 ≤ 301 ∧ wl R2 ≤ 301) := by
  refine ef_C.of (cc := cX2_round) (maxL := 6) (ret := (some .long)) (by decide) rfl (Nat.le_of_ble_eq_true rfl) ?_
  intro p e s m below meth c ls hx hb hml hr hts hown hlocks hK hNX hP hD hS hl
  have hl : lv_has ls 6 [(0, .ref (q 0)), (1, .int (iv (z))), (2, .int (iv (up)))] := hl
  have hown : s.vm.findClass RX2 = some m.cls := hown
  generalize hH : s.heap = H at hP ⊢
  have hS : va_S (ef_A (cC cI q (A1) (U1) (b1) (e1) (A2) (U2) (b2) (e2) (L) (R))) s.heap H [] := by rw [← hH]; exact hS
  generalize ([] : List Loc) = locs at hS ⊢
  refine lv_aload_n hx hb dX2_round_0 rfl (lv_at hl 0 rfl) ?_
  refine lv_iload_n hx hb dX2_round_1 rfl (lv_at hl 1 rfl) ?_
  refine ef_callV (As := [.int (iv (z))]) (rest := []) ⟨hx, hb, hml, hown, hts⟩ (c_numberOfx l dC dI ht q z hz hz0 hz1) (cwV 1 hts gX2_round_X2_numberOf rfl rfl rfl (by decide +kernel) ⟨Nat.le_of_ble_eq_true rfl, Nat.le_of_ble_eq_true rfl⟩) hK hNX hP hD hS 0 rfl rfl rfl rfl hl.1 rfl (Nat.le_of_ble_eq_true rfl) dX2_round_2 ⟨Nat.zero_le _, Nat.zero_le _⟩ (fun o w1 H locs hq hP hD hS => ?_)
  obtain ⟨rfl, e9⟩ := hq
  rw [e9] at hP hD
  refine W.eq (g2 := F0 m 5 ls [.null]) rfl ?_
  refine lv_astore_nN (lv' := [(3, .null), (0, .ref (q 0)), (1, .int (iv (z))), (2, .int (iv (up)))]) hx hb dX2_round_5 rfl hl (by decide) rfl (fun ls hl => ?_)
  refine lv_aload_nN hx hb dX2_round_6 rfl (lv_at hl 0 rfl) ?_
  refine lv_ifnonnullN hx hb dX2_round_7 ?_
  refine lv_ldc2 (v := jv (9221120237041090560)) hx hb hown (hts (.constantLong RX2 95 (jv (9221120237041090560))) (by decide +kernel)) dX2_round_10 ?_
  exact ef_lret hx hb hr hlocks hP hD hS dX2_round_13 (⟨_, _, rfl, rfl, hL, hR⟩)
end
