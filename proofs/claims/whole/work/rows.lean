section
-- ===== PART A: goes FIRST, ahead of the names: the tables' words, and 'selects' of the private methods out of them =====
/-- a private method of a class that the tables say can be made, by its rows of tables_1 -/
def lw_okq (q : MethodName × Nat) : Prop := (q.1.cls ≠ "java/lang/invoke/MethodHandle" ∧ q.1.cls ≠ "java/lang/invoke/VarHandle") ∧ Cond.instantiable q.1.cls q.2 ∈ tables_1 ∧ Cond.privateMethod q.1 ∈ tables_1 ∧ Cond.instanceMethod q.1 ∈ tables_1
theorem lw_p0 : lw_okq (⟨"ExactFractions$Whole", "put", "(IJ)V"⟩, 2) := ⟨⟨by decide +kernel, by decide +kernel⟩, List.mem_of_getElem? (i := 23) (by decide +kernel), List.mem_of_getElem? (i := 45) (by decide +kernel), List.mem_of_getElem? (i := 46) (by decide +kernel)⟩
theorem lw_p1 : lw_okq (⟨"ExactFractions$Whole", "settle", "(I)V"⟩, 2) := ⟨⟨by decide +kernel, by decide +kernel⟩, List.mem_of_getElem? (i := 23) (by decide +kernel), List.mem_of_getElem? (i := 49) (by decide +kernel), List.mem_of_getElem? (i := 50) (by decide +kernel)⟩
theorem lw_p2 : lw_okq (⟨"ExactFractions", "numberOf", "(I)LExactFractions$Fraction;"⟩, 4) := ⟨⟨by decide +kernel, by decide +kernel⟩, List.mem_of_getElem? (i := 9) (by decide +kernel), List.mem_of_getElem? (i := 96) (by decide +kernel), List.mem_of_getElem? (i := 97) (by decide +kernel)⟩
theorem lw_p3 : lw_okq (⟨"ExactFractions", "partOf", "(II)LExactFractions$Whole;"⟩, 4) := ⟨⟨by decide +kernel, by decide +kernel⟩, List.mem_of_getElem? (i := 9) (by decide +kernel), List.mem_of_getElem? (i := 105) (by decide +kernel), List.mem_of_getElem? (i := 106) (by decide +kernel)⟩
theorem lw_p4 : lw_okq (⟨"ExactFractions$Whole", "valueAt", "(I)J"⟩, 2) := ⟨⟨by decide +kernel, by decide +kernel⟩, List.mem_of_getElem? (i := 23) (by decide +kernel), List.mem_of_getElem? (i := 114) (by decide +kernel), List.mem_of_getElem? (i := 115) (by decide +kernel)⟩
theorem lw_p5 : lw_okq (⟨"ExactFractions", "keepLeftIn", "(LExactFractions$Whole;)I"⟩, 4) := ⟨⟨by decide +kernel, by decide +kernel⟩, List.mem_of_getElem? (i := 9) (by decide +kernel), List.mem_of_getElem? (i := 119) (by decide +kernel), List.mem_of_getElem? (i := 120) (by decide +kernel)⟩
theorem lw_p6 : lw_okq (⟨"ExactFractions", "orderOfSizes", "()I"⟩, 4) := ⟨⟨by decide +kernel, by decide +kernel⟩, List.mem_of_getElem? (i := 9) (by decide +kernel), List.mem_of_getElem? (i := 190) (by decide +kernel), List.mem_of_getElem? (i := 191) (by decide +kernel)⟩
theorem lw_p7 : lw_okq (⟨"ExactFractions$Whole", "addMultiple", "(LExactFractions$Whole;JI)V"⟩, 2) := ⟨⟨by decide +kernel, by decide +kernel⟩, List.mem_of_getElem? (i := 23) (by decide +kernel), List.mem_of_getElem? (i := 203) (by decide +kernel), List.mem_of_getElem? (i := 204) (by decide +kernel)⟩
theorem lw_p8 : lw_okq (⟨"ExactFractions", "alignTops", "(I)V"⟩, 4) := ⟨⟨by decide +kernel, by decide +kernel⟩, List.mem_of_getElem? (i := 9) (by decide +kernel), List.mem_of_getElem? (i := 207) (by decide +kernel), List.mem_of_getElem? (i := 208) (by decide +kernel)⟩
theorem lw_p9 : lw_okq (⟨"ExactFractions", "roundedSize", "(LExactFractions$Fraction;Z)J"⟩, 4) := ⟨⟨by decide +kernel, by decide +kernel⟩, List.mem_of_getElem? (i := 9) (by decide +kernel), List.mem_of_getElem? (i := 220) (by decide +kernel), List.mem_of_getElem? (i := 221) (by decide +kernel)⟩
theorem lw_p10 : lw_okq (⟨"ExactFractions", "layOut", "(LExactFractions$Fraction;)I"⟩, 4) := ⟨⟨by decide +kernel, by decide +kernel⟩, List.mem_of_getElem? (i := 9) (by decide +kernel), List.mem_of_getElem? (i := 224) (by decide +kernel), List.mem_of_getElem? (i := 225) (by decide +kernel)⟩
theorem lw_p11 : lw_okq (⟨"ExactFractions", "quotient", "(I)J"⟩, 4) := ⟨⟨by decide +kernel, by decide +kernel⟩, List.mem_of_getElem? (i := 9) (by decide +kernel), List.mem_of_getElem? (i := 231) (by decide +kernel), List.mem_of_getElem? (i := 232) (by decide +kernel)⟩
theorem lw_p12 : lw_okq (⟨"ExactFractionsModel", "numberOf", "(I)LExactFractionsModel$Num;"⟩, 7) := ⟨⟨by decide +kernel, by decide +kernel⟩, List.mem_of_getElem? (i := 236) (by decide +kernel), List.mem_of_getElem? (i := 321) (by decide +kernel), List.mem_of_getElem? (i := 322) (by decide +kernel)⟩
theorem lw_p13 : lw_okq (⟨"ExactFractionsModel", "partOf", "(II)LExactFractionsModel$Big;"⟩, 7) := ⟨⟨by decide +kernel, by decide +kernel⟩, List.mem_of_getElem? (i := 236) (by decide +kernel), List.mem_of_getElem? (i := 330) (by decide +kernel), List.mem_of_getElem? (i := 331) (by decide +kernel)⟩
theorem lw_p14 : lw_okq (⟨"ExactFractionsModel$Big", "trim", "()V"⟩, 2) := ⟨⟨by decide +kernel, by decide +kernel⟩, List.mem_of_getElem? (i := 242) (by decide +kernel), List.mem_of_getElem? (i := 376) (by decide +kernel), List.mem_of_getElem? (i := 377) (by decide +kernel)⟩
theorem lw_p15 : lw_okq (⟨"ExactFractionsModel", "orderOf", "(LExactFractionsModel$Num;LExactFractionsModel$Num;)I"⟩, 7) := ⟨⟨by decide +kernel, by decide +kernel⟩, List.mem_of_getElem? (i := 236) (by decide +kernel), List.mem_of_getElem? (i := 392) (by decide +kernel), List.mem_of_getElem? (i := 393) (by decide +kernel)⟩
def lw_privs_1 : List (MethodName × Nat) := [(⟨"ExactFractions$Whole", "put", "(IJ)V"⟩, 2), (⟨"ExactFractions$Whole", "settle", "(I)V"⟩, 2), (⟨"ExactFractions", "numberOf", "(I)LExactFractions$Fraction;"⟩, 4), (⟨"ExactFractions", "partOf", "(II)LExactFractions$Whole;"⟩, 4), (⟨"ExactFractions$Whole", "valueAt", "(I)J"⟩, 2), (⟨"ExactFractions", "keepLeftIn", "(LExactFractions$Whole;)I"⟩, 4), (⟨"ExactFractions", "orderOfSizes", "()I"⟩, 4), (⟨"ExactFractions$Whole", "addMultiple", "(LExactFractions$Whole;JI)V"⟩, 2), (⟨"ExactFractions", "alignTops", "(I)V"⟩, 4), (⟨"ExactFractions", "roundedSize", "(LExactFractions$Fraction;Z)J"⟩, 4), (⟨"ExactFractions", "layOut", "(LExactFractions$Fraction;)I"⟩, 4), (⟨"ExactFractions", "quotient", "(I)J"⟩, 4), (⟨"ExactFractionsModel", "numberOf", "(I)LExactFractionsModel$Num;"⟩, 7), (⟨"ExactFractionsModel", "partOf", "(II)LExactFractionsModel$Big;"⟩, 7), (⟨"ExactFractionsModel$Big", "trim", "()V"⟩, 2), (⟨"ExactFractionsModel", "orderOf", "(LExactFractionsModel$Num;LExactFractionsModel$Num;)I"⟩, 7)]
theorem lw_r1 : ∀ q ∈ lw_privs_1, lw_okq q := List.forall_mem_cons.mpr ⟨lw_p0, List.forall_mem_cons.mpr ⟨lw_p1, List.forall_mem_cons.mpr ⟨lw_p2, List.forall_mem_cons.mpr ⟨lw_p3, List.forall_mem_cons.mpr ⟨lw_p4, List.forall_mem_cons.mpr ⟨lw_p5, List.forall_mem_cons.mpr ⟨lw_p6, List.forall_mem_cons.mpr ⟨lw_p7, List.forall_mem_cons.mpr ⟨lw_p8, List.forall_mem_cons.mpr ⟨lw_p9, List.forall_mem_cons.mpr ⟨lw_p10, List.forall_mem_cons.mpr ⟨lw_p11, List.forall_mem_cons.mpr ⟨lw_p12, List.forall_mem_cons.mpr ⟨lw_p13, List.forall_mem_cons.mpr ⟨lw_p14, List.forall_mem_cons.mpr ⟨lw_p15, fun _ h => absurd h List.not_mem_nil⟩⟩⟩⟩⟩⟩⟩⟩⟩⟩⟩⟩⟩⟩⟩⟩
theorem lw_p16 : lw_okq (⟨"ExactFractionsModel", "compareSizes", "(LExactFractionsModel$Num;LExactFractionsModel$Num;)I"⟩, 7) := ⟨⟨by decide +kernel, by decide +kernel⟩, List.mem_of_getElem? (i := 236) (by decide +kernel), List.mem_of_getElem? (i := 400) (by decide +kernel), List.mem_of_getElem? (i := 401) (by decide +kernel)⟩
theorem lw_p17 : lw_okq (⟨"ExactFractionsModel", "up", "(LExactFractionsModel$Num;)J"⟩, 7) := ⟨⟨by decide +kernel, by decide +kernel⟩, List.mem_of_getElem? (i := 236) (by decide +kernel), List.mem_of_getElem? (i := 422) (by decide +kernel), List.mem_of_getElem? (i := 423) (by decide +kernel)⟩
theorem lw_p18 : lw_okq (⟨"ExactFractionsModel", "down", "(LExactFractionsModel$Num;)J"⟩, 7) := ⟨⟨by decide +kernel, by decide +kernel⟩, List.mem_of_getElem? (i := 236) (by decide +kernel), List.mem_of_getElem? (i := 431) (by decide +kernel), List.mem_of_getElem? (i := 432) (by decide +kernel)⟩
def lw_privs_2 : List (MethodName × Nat) := [(⟨"ExactFractionsModel", "compareSizes", "(LExactFractionsModel$Num;LExactFractionsModel$Num;)I"⟩, 7), (⟨"ExactFractionsModel", "up", "(LExactFractionsModel$Num;)J"⟩, 7), (⟨"ExactFractionsModel", "down", "(LExactFractionsModel$Num;)J"⟩, 7)]
theorem lw_r2 : ∀ q ∈ lw_privs_2, lw_okq q := List.forall_mem_cons.mpr ⟨lw_p16, List.forall_mem_cons.mpr ⟨lw_p17, List.forall_mem_cons.mpr ⟨lw_p18, fun _ h => absurd h List.not_mem_nil⟩⟩⟩
def lw_privs : List (MethodName × Nat) := lw_privs_1 ++ (lw_privs_2)
def lw_tbl : List Cond := k2_sels lw_privs ++ tables_1
theorem lw_privs_ok : ∀ q ∈ lw_privs, lw_okq q := by
  show ∀ q ∈ lw_privs_1 ++ (lw_privs_2), lw_okq q
  exact List.forall_mem_append.mpr ⟨lw_r1, lw_r2⟩
end
section
/-! ===== BEGIN words of one list among another's, by their places ===== -/
theorem goodIn_r {big : List Cond} (ws : List Cond) (ps : List Nat) (hp : ws = ps.filterMap (fun i => big[i]?)) (h : ws.all goodWord = true) : GoodIn big ws := by
  intro w hw
  have h1 := List.all_eq_true.mp h w hw
  rw [hp] at hw
  obtain ⟨i, -, hi⟩ := List.mem_filterMap.mp hw
  have hm : w ∈ big := by first | exact List.mem_of_getElem? hi | exact List.getElem?_mem hi
  exact ⟨hm, good_of_word h1⟩
theorem goodIn_app {big a b : List Cond} (ha : GoodIn big a) (hb : GoodIn big b) : GoodIn big (a ++ b) := fun w h => (List.mem_append.mp h).elim (ha w) (hb w)
theorem goodIn_ca {big a b : List Cond} {c : Cond} (ha : GoodIn big (c :: a)) (hb : GoodIn big b) : GoodIn big (c :: (a ++ b)) := fun w h => (List.mem_cons.mp h).elim (fun e => ha w (List.mem_cons.mpr (Or.inl e))) (fun h => (List.mem_append.mp h).elim (fun h => ha w (List.mem_cons.mpr (Or.inr h))) (hb w))
theorem goodIn_sub {big ws : List Cond} (hm : ∀ w ∈ ws, w ∈ big) (h : ws.all goodWord = true) : GoodIn big ws := fun w hw => ⟨hm w hw, good_of_word (List.all_eq_true.mp h w hw)⟩
/-! ===== END ===== -/

/-! ===== BEGIN printed: names, fields, word lists, decode rows ===== -/
def RX0 : String := "ExactFractions$Fraction"
def TX0 : u_T := fun k => match k with
  | 0 => ("ExactFractions$Fraction", "above", "LExactFractions$Whole;", false)
  | 1 => ("ExactFractions$Fraction", "under", "LExactFractions$Whole;", false)
  | 2 => ("ExactFractions$Fraction", "below", "Z", false)
  | _ => ("ExactFractions$Fraction", "exponent", "I", false)
def tyX0 : Nat → FieldType := fun k => match k with
  | 0 => .object "ExactFractions$Whole"
  | 1 => .object "ExactFractions$Whole"
  | 2 => .boolean
  | _ => .int
abbrev wsX00 : List Cond := u_ws RX0 TX0 4
theorem nmX0 : ∀ a, a < 4 → ∀ b, b < 4 → a ≠ b → (TX0 a).2.1 ≠ (TX0 b).2.1 := by decide +kernel
theorem tyX0_ok : ∀ k, k < 4 → parseFieldDescriptor (TX0 k).2.2.1 = some (tyX0 k) := by decide +kernel
abbrev cX0_init : ByteArray := prog_2_method_1_code
def yX0_init : MethodName := ⟨RX0, "<init>", "()V"⟩
abbrev cX0_restart : ByteArray := prog_2_method_2_code
def yX0_restart : MethodName := ⟨RX0, "restart", "()V"⟩
abbrev cX0_flip : ByteArray := prog_2_method_3_code
def yX0_flip : MethodName := ⟨RX0, "flip", "()V"⟩
abbrev cX0_sign : ByteArray := prog_2_method_4_code
def yX0_sign : MethodName := ⟨RX0, "sign", "()I"⟩
abbrev cX0_rank : ByteArray := prog_2_method_5_code
def yX0_rank : MethodName := ⟨RX0, "rank", "()I"⟩
def RX1 : String := "ExactFractions$Whole"
def TX1 : u_T := fun k => match k with
  | 0 => ("ExactFractions$Whole", "words", "[I", true)
  | _ => ("ExactFractions$Whole", "used", "I", false)
def tyX1 : Nat → FieldType := fun k => match k with
  | 0 => .array .int
  | _ => .int
abbrev wsX10 : List Cond := u_ws RX1 TX1 2
theorem nmX1 : ∀ a, a < 2 → ∀ b, b < 2 → a ≠ b → (TX1 a).2.1 ≠ (TX1 b).2.1 := by decide +kernel
theorem tyX1_ok : ∀ k, k < 2 → parseFieldDescriptor (TX1 k).2.2.1 = some (tyX1 k) := by decide +kernel
abbrev cX1_init : ByteArray := prog_3_method_1_code
def yX1_init : MethodName := ⟨RX1, "<init>", "()V"⟩
abbrev cX1_wordAt : ByteArray := prog_3_method_2_code
def yX1_wordAt : MethodName := ⟨RX1, "wordAt", "(I)I"⟩
abbrev cX1_valueAt : ByteArray := prog_3_method_3_code
def yX1_valueAt : MethodName := ⟨RX1, "valueAt", "(I)J"⟩
abbrev cX1_put : ByteArray := prog_3_method_4_code
def yX1_put : MethodName := ⟨RX1, "put", "(IJ)V"⟩
abbrev cX1_settle : ByteArray := prog_3_method_5_code
def yX1_settle : MethodName := ⟨RX1, "settle", "(I)V"⟩
abbrev cX1_isZero : ByteArray := prog_3_method_6_code
def yX1_isZero : MethodName := ⟨RX1, "isZero", "()Z"⟩
abbrev cX1_length : ByteArray := prog_3_method_7_code
def yX1_length : MethodName := ⟨RX1, "length", "()I"⟩
abbrev cX1_order : ByteArray := prog_3_method_8_code
def yX1_order : MethodName := ⟨RX1, "order", "(LExactFractions$Whole;)I"⟩
abbrev cX1_become : ByteArray := prog_3_method_9_code
def yX1_become : MethodName := ⟨RX1, "become", "(J)V"⟩
abbrev cX1_copy : ByteArray := prog_3_method_10_code
def yX1_copy : MethodName := ⟨RX1, "copy", "(LExactFractions$Whole;)V"⟩
abbrev cX1_becomeMultiple : ByteArray := prog_3_method_11_code
def yX1_becomeMultiple : MethodName := ⟨RX1, "becomeMultiple", "(LExactFractions$Whole;II)V"⟩
abbrev cX1_becomeSum : ByteArray := prog_3_method_12_code
def yX1_becomeSum : MethodName := ⟨RX1, "becomeSum", "(LExactFractions$Whole;LExactFractions$Whole;)V"⟩
abbrev cX1_becomeDifference : ByteArray := prog_3_method_13_code
def yX1_becomeDifference : MethodName := ⟨RX1, "becomeDifference", "(LExactFractions$Whole;LExactFractions$Whole;)V"⟩
abbrev cX1_becomeProduct : ByteArray := prog_3_method_14_code
def yX1_becomeProduct : MethodName := ⟨RX1, "becomeProduct", "(LExactFractions$Whole;LExactFractions$Whole;)V"⟩
abbrev cX1_addMultiple : ByteArray := prog_3_method_15_code
def yX1_addMultiple : MethodName := ⟨RX1, "addMultiple", "(LExactFractions$Whole;JI)V"⟩
abbrev cX1_shiftUp : ByteArray := prog_3_method_16_code
def yX1_shiftUp : MethodName := ⟨RX1, "shiftUp", "(I)V"⟩
def RX2 : String := "ExactFractions"
def TX2 : u_T := fun k => match k with
  | 0 => ("ExactFractions", "first", "LExactFractions$Fraction;", true)
  | 1 => ("ExactFractions", "second", "LExactFractions$Fraction;", true)
  | 2 => ("ExactFractions", "left", "LExactFractions$Whole;", true)
  | _ => ("ExactFractions", "right", "LExactFractions$Whole;", true)
def tyX2 : Nat → FieldType := fun k => match k with
  | 0 => .object "ExactFractions$Fraction"
  | 1 => .object "ExactFractions$Fraction"
  | 2 => .object "ExactFractions$Whole"
  | _ => .object "ExactFractions$Whole"
abbrev wsX20 : List Cond := u_ws RX2 TX2 4
theorem nmX2 : ∀ a, a < 4 → ∀ b, b < 4 → a ≠ b → (TX2 a).2.1 ≠ (TX2 b).2.1 := by decide +kernel
theorem tyX2_ok : ∀ k, k < 4 → parseFieldDescriptor (TX2 k).2.2.1 = some (tyX2 k) := by decide +kernel
abbrev cX2_init : ByteArray := prog_1_method_1_code
def yX2_init : MethodName := ⟨RX2, "<init>", "()V"⟩
abbrev cX2_begin : ByteArray := prog_1_method_2_code
def yX2_begin : MethodName := ⟨RX2, "begin", "(I)I"⟩
abbrev cX2_digit : ByteArray := prog_1_method_3_code
def yX2_digit : MethodName := ⟨RX2, "digit", "(IIII)I"⟩
abbrev cX2_set : ByteArray := prog_1_method_4_code
def yX2_set : MethodName := ⟨RX2, "set", "(IIJ)I"⟩
abbrev cX2_scale : ByteArray := prog_1_method_5_code
def yX2_scale : MethodName := ⟨RX2, "scale", "(IZI)I"⟩
abbrev cX2_turn : ByteArray := prog_1_method_6_code
def yX2_turn : MethodName := ⟨RX2, "turn", "(I)I"⟩
abbrev cX2_move : ByteArray := prog_1_method_7_code
def yX2_move : MethodName := ⟨RX2, "move", "(IZ)I"⟩
abbrev cX2_bits : ByteArray := prog_1_method_8_code
def yX2_bits : MethodName := ⟨RX2, "bits", "(II)I"⟩
abbrev cX2_word : ByteArray := prog_1_method_9_code
def yX2_word : MethodName := ⟨RX2, "word", "(III)I"⟩
abbrev cX2_compare : ByteArray := prog_1_method_10_code
def yX2_compare : MethodName := ⟨RX2, "compare", "()I"⟩
abbrev cX2_round : ByteArray := prog_1_method_11_code
def yX2_round : MethodName := ⟨RX2, "round", "(IZ)J"⟩
abbrev cX2_numberOf : ByteArray := prog_1_method_12_code
def yX2_numberOf : MethodName := ⟨RX2, "numberOf", "(I)LExactFractions$Fraction;"⟩
abbrev cX2_partOf : ByteArray := prog_1_method_13_code
def yX2_partOf : MethodName := ⟨RX2, "partOf", "(II)LExactFractions$Whole;"⟩
abbrev cX2_keepLeftIn : ByteArray := prog_1_method_14_code
def yX2_keepLeftIn : MethodName := ⟨RX2, "keepLeftIn", "(LExactFractions$Whole;)I"⟩
abbrev cX2_orderOfSizes : ByteArray := prog_1_method_15_code
def yX2_orderOfSizes : MethodName := ⟨RX2, "orderOfSizes", "()I"⟩
abbrev cX2_alignTops : ByteArray := prog_1_method_16_code
def yX2_alignTops : MethodName := ⟨RX2, "alignTops", "(I)V"⟩
abbrev cX2_roundedSize : ByteArray := prog_1_method_17_code
def yX2_roundedSize : MethodName := ⟨RX2, "roundedSize", "(LExactFractions$Fraction;Z)J"⟩
abbrev cX2_layOut : ByteArray := prog_1_method_18_code
def yX2_layOut : MethodName := ⟨RX2, "layOut", "(LExactFractions$Fraction;)I"⟩
abbrev cX2_quotient : ByteArray := prog_1_method_19_code
def yX2_quotient : MethodName := ⟨RX2, "quotient", "(I)J"⟩
def RJ9 : String := "java/lang/Math"
def TJ9 : u_T := fun k => match k with
  | _ => ("", "", "", false)
def tyJ9 : Nat → FieldType := fun k => match k with
  | _ => .int
theorem nmJ9 : ∀ a, a < 0 → ∀ b, b < 0 → a ≠ b → (TJ9 a).2.1 ≠ (TJ9 b).2.1 := by decide +kernel
theorem tyJ9_ok : ∀ k, k < 0 → parseFieldDescriptor (TJ9 k).2.2.1 = some (tyJ9 k) := by decide +kernel
abbrev cJ9_max_7cf53 : ByteArray := prog_8_method_65_code
def yJ9_max_7cf53 : MethodName := ⟨RJ9, "max", "(II)I"⟩
abbrev cJ9_min_7cf53 : ByteArray := prog_8_method_69_code
def yJ9_min_7cf53 : MethodName := ⟨RJ9, "min", "(II)I"⟩
def RL : String := "ExactFractionsLaw"
abbrev cL_law : ByteArray := code
def yL_law : MethodName := ⟨RL, "law", "([I)Z"⟩
def wsX1_init : List Cond := .code yX1_init cX1_init 1 none :: ([.methodLink RX1 3 objectInit, .instanceMethod objectInit, .code objectInit ⟨#[0xb1]⟩ 1 none, .arrayClass .int, .fieldLink RX1 9 "ExactFractions$Whole" "words" "[I", .fieldLink RX1 15 "ExactFractions$Whole" "used" "I"] ++ wsX10)
def wsX1_put : List Cond := .code yX1_put cX1_put 4 none :: ([.fieldLink RX1 9 "ExactFractions$Whole" "words" "[I"] ++ wsX10)
def wsX1_wordAt : List Cond := .code yX1_wordAt cX1_wordAt 2 (some .int) :: ([.fieldLink RX1 9 "ExactFractions$Whole" "words" "[I"] ++ wsX10)
def wsX1_settle : List Cond := .code yX1_settle cX1_settle 3 none :: ([.fieldLink RX1 15 "ExactFractions$Whole" "used" "I", .fieldLink RX1 9 "ExactFractions$Whole" "words" "[I", .methodLink RX1 29 Lib.Math.min.name, .static Lib.Math.min.name, .initialized "java/lang/Math", .code Lib.Math.min.name Lib.Math.min.code 2 (some .int), .methodLink RX1 25 yX1_put, .instanceMethod yX1_put, .selects RX1 yX1_put yX1_put, .initialized RX1, .code yX1_put cX1_put 4 none, .methodLink RX1 19 yX1_wordAt, .instanceMethod yX1_wordAt, .selects RX1 yX1_wordAt yX1_wordAt, .code yX1_wordAt cX1_wordAt 2 (some .int)] ++ wsX10)
def wsX1_become : List Cond := .code yX1_become cX1_become 3 none :: ([.methodLink RX1 25 yX1_put, .instanceMethod yX1_put, .selects RX1 yX1_put yX1_put, .initialized RX1, .code yX1_put cX1_put 4 none, .fieldLink RX1 9 "ExactFractions$Whole" "words" "[I", .methodLink RX1 46 yX1_settle, .instanceMethod yX1_settle, .selects RX1 yX1_settle yX1_settle, .code yX1_settle cX1_settle 3 none, .fieldLink RX1 15 "ExactFractions$Whole" "used" "I", .methodLink RX1 29 Lib.Math.min.name, .static Lib.Math.min.name, .initialized "java/lang/Math", .code Lib.Math.min.name Lib.Math.min.code 2 (some .int), .methodLink RX1 19 yX1_wordAt, .instanceMethod yX1_wordAt, .selects RX1 yX1_wordAt yX1_wordAt, .code yX1_wordAt cX1_wordAt 2 (some .int)] ++ wsX10)
def wsX0_restart_r1 : List Cond := [Cond.fieldLink RX0 10 "ExactFractions$Fraction" "above" "LExactFractions$Whole;", Cond.fieldLink RX0 16 "ExactFractions$Fraction" "under" "LExactFractions$Whole;", Cond.fieldLink RX0 26 "ExactFractions$Fraction" "below" "Z", Cond.fieldLink RX0 30 "ExactFractions$Fraction" "exponent" "I", Cond.methodLink RX0 22 yX1_become, Cond.instanceMethod yX1_become, Cond.selects RX1 yX1_become yX1_become, Cond.initialized RX1, Cond.code yX1_become cX1_become 3 none, Cond.methodLink RX1 25 yX1_put, Cond.instanceMethod yX1_put, Cond.selects RX1 yX1_put yX1_put, Cond.code yX1_put cX1_put 4 none, Cond.fieldLink RX1 9 "ExactFractions$Whole" "words" "[I", Cond.methodLink RX1 46 yX1_settle, Cond.instanceMethod yX1_settle, Cond.selects RX1 yX1_settle yX1_settle, Cond.code yX1_settle cX1_settle 3 none, Cond.fieldLink RX1 15 "ExactFractions$Whole" "used" "I", Cond.methodLink RX1 29 Lib.Math.min.name, Cond.static Lib.Math.min.name, Cond.initialized "java/lang/Math", Cond.code Lib.Math.min.name Lib.Math.min.code 2 (some .int), Cond.methodLink RX1 19 yX1_wordAt]
def wsX0_restart_r2 : List Cond := [Cond.instanceMethod yX1_wordAt, Cond.selects RX1 yX1_wordAt yX1_wordAt, Cond.code yX1_wordAt cX1_wordAt 2 (some .int)]
def wsX0_restart : List Cond := .code yX0_restart cX0_restart 1 none :: ((wsX0_restart_r1 ++ wsX0_restart_r2) ++ wsX00 ++ wsX10)
def wsX0_init_r1 : List Cond := [Cond.methodLink RX0 1 objectInit, Cond.instanceMethod objectInit, Cond.code objectInit ⟨#[0xb1]⟩ 1 none, Cond.classLink RX0 7 RX1, Cond.instantiable RX1 2, Cond.initialized RX1, Cond.fieldLink RX0 10 "ExactFractions$Fraction" "above" "LExactFractions$Whole;", Cond.fieldLink RX0 16 "ExactFractions$Fraction" "under" "LExactFractions$Whole;", Cond.methodLink RX0 9 yX1_init, Cond.instanceMethod yX1_init, Cond.code yX1_init cX1_init 1 none, Cond.methodLink RX1 3 objectInit, Cond.arrayClass .int, Cond.fieldLink RX1 9 "ExactFractions$Whole" "words" "[I", Cond.fieldLink RX1 15 "ExactFractions$Whole" "used" "I", Cond.methodLink RX0 19 yX0_restart, Cond.instanceMethod yX0_restart, Cond.selects RX0 yX0_restart yX0_restart, Cond.initialized RX0, Cond.code yX0_restart cX0_restart 1 none, Cond.fieldLink RX0 26 "ExactFractions$Fraction" "below" "Z", Cond.fieldLink RX0 30 "ExactFractions$Fraction" "exponent" "I", Cond.methodLink RX0 22 yX1_become, Cond.instanceMethod yX1_become]
def wsX0_init_r2 : List Cond := [Cond.selects RX1 yX1_become yX1_become, Cond.code yX1_become cX1_become 3 none, Cond.methodLink RX1 25 yX1_put, Cond.instanceMethod yX1_put, Cond.selects RX1 yX1_put yX1_put, Cond.code yX1_put cX1_put 4 none, Cond.methodLink RX1 46 yX1_settle, Cond.instanceMethod yX1_settle, Cond.selects RX1 yX1_settle yX1_settle, Cond.code yX1_settle cX1_settle 3 none, Cond.methodLink RX1 29 Lib.Math.min.name, Cond.static Lib.Math.min.name, Cond.initialized "java/lang/Math", Cond.code Lib.Math.min.name Lib.Math.min.code 2 (some .int), Cond.methodLink RX1 19 yX1_wordAt, Cond.instanceMethod yX1_wordAt, Cond.selects RX1 yX1_wordAt yX1_wordAt, Cond.code yX1_wordAt cX1_wordAt 2 (some .int)]
def wsX0_init : List Cond := .code yX0_init cX0_init 1 none :: ((wsX0_init_r1 ++ wsX0_init_r2) ++ wsX10 ++ wsX00)
def wsX0_flip : List Cond := .code yX0_flip cX0_flip 2 none :: ([.fieldLink RX0 10 "ExactFractions$Fraction" "above" "LExactFractions$Whole;", .fieldLink RX0 16 "ExactFractions$Fraction" "under" "LExactFractions$Whole;", .fieldLink RX0 30 "ExactFractions$Fraction" "exponent" "I"] ++ wsX00)
def wsX1_isZero : List Cond := .code yX1_isZero cX1_isZero 1 (some .boolean) :: ([.fieldLink RX1 15 "ExactFractions$Whole" "used" "I"] ++ wsX10)
def wsX0_sign : List Cond := .code yX0_sign cX0_sign 1 (some .int) :: ([.fieldLink RX0 10 "ExactFractions$Fraction" "above" "LExactFractions$Whole;", .fieldLink RX0 26 "ExactFractions$Fraction" "below" "Z", .methodLink RX0 34 yX1_isZero, .instanceMethod yX1_isZero, .selects RX1 yX1_isZero yX1_isZero, .initialized RX1, .code yX1_isZero cX1_isZero 1 (some .boolean), .fieldLink RX1 15 "ExactFractions$Whole" "used" "I"] ++ wsX00 ++ wsX10)
def wsX1_length : List Cond := .code yX1_length cX1_length 3 (some .int) :: ([.fieldLink RX1 15 "ExactFractions$Whole" "used" "I", .methodLink RX1 35 yX1_isZero, .instanceMethod yX1_isZero, .selects RX1 yX1_isZero yX1_isZero, .initialized RX1, .code yX1_isZero cX1_isZero 1 (some .boolean), .methodLink RX1 19 yX1_wordAt, .instanceMethod yX1_wordAt, .selects RX1 yX1_wordAt yX1_wordAt, .code yX1_wordAt cX1_wordAt 2 (some .int), .fieldLink RX1 9 "ExactFractions$Whole" "words" "[I"] ++ wsX10)
def wsX0_rank : List Cond := .code yX0_rank cX0_rank 1 (some .int) :: ([.fieldLink RX0 10 "ExactFractions$Fraction" "above" "LExactFractions$Whole;", .fieldLink RX0 16 "ExactFractions$Fraction" "under" "LExactFractions$Whole;", .fieldLink RX0 30 "ExactFractions$Fraction" "exponent" "I", .methodLink RX0 38 yX1_length, .instanceMethod yX1_length, .selects RX1 yX1_length yX1_length, .initialized RX1, .code yX1_length cX1_length 3 (some .int), .fieldLink RX1 15 "ExactFractions$Whole" "used" "I", .methodLink RX1 35 yX1_isZero, .instanceMethod yX1_isZero, .selects RX1 yX1_isZero yX1_isZero, .code yX1_isZero cX1_isZero 1 (some .boolean), .methodLink RX1 19 yX1_wordAt, .instanceMethod yX1_wordAt, .selects RX1 yX1_wordAt yX1_wordAt, .code yX1_wordAt cX1_wordAt 2 (some .int), .fieldLink RX1 9 "ExactFractions$Whole" "words" "[I"] ++ wsX00 ++ wsX10)
def wsX1_valueAt : List Cond := .code yX1_valueAt cX1_valueAt 2 (some .long) :: ([.constantLong RX1 23 (4294967295), .methodLink RX1 19 yX1_wordAt, .instanceMethod yX1_wordAt, .selects RX1 yX1_wordAt yX1_wordAt, .initialized RX1, .code yX1_wordAt cX1_wordAt 2 (some .int), .fieldLink RX1 9 "ExactFractions$Whole" "words" "[I"] ++ wsX10)
def wsX1_order : List Cond := .code yX1_order cX1_order 5 (some .int) :: ([.fieldLink RX1 15 "ExactFractions$Whole" "used" "I", .methodLink RX1 39 Lib.Math.max.name, .static Lib.Math.max.name, .initialized "java/lang/Math", .code Lib.Math.max.name Lib.Math.max.code 2 (some .int), .methodLink RX1 42 yX1_valueAt, .instanceMethod yX1_valueAt, .selects RX1 yX1_valueAt yX1_valueAt, .initialized RX1, .code yX1_valueAt cX1_valueAt 2 (some .long), .constantLong RX1 23 (4294967295), .methodLink RX1 19 yX1_wordAt, .instanceMethod yX1_wordAt, .selects RX1 yX1_wordAt yX1_wordAt, .code yX1_wordAt cX1_wordAt 2 (some .int), .fieldLink RX1 9 "ExactFractions$Whole" "words" "[I"] ++ wsX10)
def wsX1_copy : List Cond := .code yX1_copy cX1_copy 3 none :: ([.fieldLink RX1 15 "ExactFractions$Whole" "used" "I", .methodLink RX1 19 yX1_wordAt, .instanceMethod yX1_wordAt, .selects RX1 yX1_wordAt yX1_wordAt, .initialized RX1, .code yX1_wordAt cX1_wordAt 2 (some .int), .fieldLink RX1 9 "ExactFractions$Whole" "words" "[I", .methodLink RX1 25 yX1_put, .instanceMethod yX1_put, .selects RX1 yX1_put yX1_put, .code yX1_put cX1_put 4 none, .methodLink RX1 46 yX1_settle, .instanceMethod yX1_settle, .selects RX1 yX1_settle yX1_settle, .code yX1_settle cX1_settle 3 none, .methodLink RX1 29 Lib.Math.min.name, .static Lib.Math.min.name, .initialized "java/lang/Math", .code Lib.Math.min.name Lib.Math.min.code 2 (some .int)] ++ wsX10)
def wsX1_becomeMultiple : List Cond := .code yX1_becomeMultiple cX1_becomeMultiple 7 none :: ([.fieldLink RX1 15 "ExactFractions$Whole" "used" "I", .methodLink RX1 42 yX1_valueAt, .instanceMethod yX1_valueAt, .selects RX1 yX1_valueAt yX1_valueAt, .initialized RX1, .code yX1_valueAt cX1_valueAt 2 (some .long), .constantLong RX1 23 (4294967295), .methodLink RX1 19 yX1_wordAt, .instanceMethod yX1_wordAt, .selects RX1 yX1_wordAt yX1_wordAt, .code yX1_wordAt cX1_wordAt 2 (some .int), .fieldLink RX1 9 "ExactFractions$Whole" "words" "[I", .methodLink RX1 25 yX1_put, .instanceMethod yX1_put, .selects RX1 yX1_put yX1_put, .code yX1_put cX1_put 4 none, .methodLink RX1 46 yX1_settle, .instanceMethod yX1_settle, .selects RX1 yX1_settle yX1_settle, .code yX1_settle cX1_settle 3 none, .methodLink RX1 29 Lib.Math.min.name, .static Lib.Math.min.name, .initialized "java/lang/Math", .code Lib.Math.min.name Lib.Math.min.code 2 (some .int)] ++ wsX10)
def wsX1_becomeSum_r1 : List Cond := [Cond.fieldLink RX1 15 "ExactFractions$Whole" "used" "I", Cond.methodLink RX1 39 Lib.Math.max.name, Cond.static Lib.Math.max.name, Cond.initialized "java/lang/Math", Cond.code Lib.Math.max.name Lib.Math.max.code 2 (some .int), Cond.methodLink RX1 42 yX1_valueAt, Cond.instanceMethod yX1_valueAt, Cond.selects RX1 yX1_valueAt yX1_valueAt, Cond.initialized RX1, Cond.code yX1_valueAt cX1_valueAt 2 (some .long), Cond.constantLong RX1 23 (4294967295), Cond.methodLink RX1 19 yX1_wordAt, Cond.instanceMethod yX1_wordAt, Cond.selects RX1 yX1_wordAt yX1_wordAt, Cond.code yX1_wordAt cX1_wordAt 2 (some .int), Cond.fieldLink RX1 9 "ExactFractions$Whole" "words" "[I", Cond.methodLink RX1 25 yX1_put, Cond.instanceMethod yX1_put, Cond.selects RX1 yX1_put yX1_put, Cond.code yX1_put cX1_put 4 none, Cond.methodLink RX1 46 yX1_settle, Cond.instanceMethod yX1_settle, Cond.selects RX1 yX1_settle yX1_settle, Cond.code yX1_settle cX1_settle 3 none]
def wsX1_becomeSum_r2 : List Cond := [Cond.methodLink RX1 29 Lib.Math.min.name, Cond.static Lib.Math.min.name, Cond.code Lib.Math.min.name Lib.Math.min.code 2 (some .int)]
def wsX1_becomeSum : List Cond := .code yX1_becomeSum cX1_becomeSum 7 none :: ((wsX1_becomeSum_r1 ++ wsX1_becomeSum_r2) ++ wsX10)
def wsX1_becomeDifference : List Cond := .code yX1_becomeDifference cX1_becomeDifference 6 none :: ([.fieldLink RX1 15 "ExactFractions$Whole" "used" "I", .methodLink RX1 42 yX1_valueAt, .instanceMethod yX1_valueAt, .selects RX1 yX1_valueAt yX1_valueAt, .initialized RX1, .code yX1_valueAt cX1_valueAt 2 (some .long), .constantLong RX1 23 (4294967295), .methodLink RX1 19 yX1_wordAt, .instanceMethod yX1_wordAt, .selects RX1 yX1_wordAt yX1_wordAt, .code yX1_wordAt cX1_wordAt 2 (some .int), .fieldLink RX1 9 "ExactFractions$Whole" "words" "[I", .methodLink RX1 25 yX1_put, .instanceMethod yX1_put, .selects RX1 yX1_put yX1_put, .code yX1_put cX1_put 4 none, .methodLink RX1 46 yX1_settle, .instanceMethod yX1_settle, .selects RX1 yX1_settle yX1_settle, .code yX1_settle cX1_settle 3 none, .methodLink RX1 29 Lib.Math.min.name, .static Lib.Math.min.name, .initialized "java/lang/Math", .code Lib.Math.min.name Lib.Math.min.code 2 (some .int)] ++ wsX10)
def wsX1_addMultiple : List Cond := .code yX1_addMultiple cX1_addMultiple 8 none :: ([.fieldLink RX1 15 "ExactFractions$Whole" "used" "I", .methodLink RX1 42 yX1_valueAt, .instanceMethod yX1_valueAt, .selects RX1 yX1_valueAt yX1_valueAt, .initialized RX1, .code yX1_valueAt cX1_valueAt 2 (some .long), .constantLong RX1 23 (4294967295), .methodLink RX1 19 yX1_wordAt, .instanceMethod yX1_wordAt, .selects RX1 yX1_wordAt yX1_wordAt, .code yX1_wordAt cX1_wordAt 2 (some .int), .fieldLink RX1 9 "ExactFractions$Whole" "words" "[I", .methodLink RX1 25 yX1_put, .instanceMethod yX1_put, .selects RX1 yX1_put yX1_put, .code yX1_put cX1_put 4 none] ++ wsX10)
def wsX1_becomeProduct_r1 : List Cond := [Cond.fieldLink RX1 15 "ExactFractions$Whole" "used" "I", Cond.methodLink RX1 46 yX1_settle, Cond.instanceMethod yX1_settle, Cond.selects RX1 yX1_settle yX1_settle, Cond.initialized RX1, Cond.code yX1_settle cX1_settle 3 none, Cond.fieldLink RX1 9 "ExactFractions$Whole" "words" "[I", Cond.methodLink RX1 29 Lib.Math.min.name, Cond.static Lib.Math.min.name, Cond.initialized "java/lang/Math", Cond.code Lib.Math.min.name Lib.Math.min.code 2 (some .int), Cond.methodLink RX1 25 yX1_put, Cond.instanceMethod yX1_put, Cond.selects RX1 yX1_put yX1_put, Cond.code yX1_put cX1_put 4 none, Cond.methodLink RX1 19 yX1_wordAt, Cond.instanceMethod yX1_wordAt, Cond.selects RX1 yX1_wordAt yX1_wordAt, Cond.code yX1_wordAt cX1_wordAt 2 (some .int), Cond.methodLink RX1 42 yX1_valueAt, Cond.instanceMethod yX1_valueAt, Cond.selects RX1 yX1_valueAt yX1_valueAt, Cond.code yX1_valueAt cX1_valueAt 2 (some .long), Cond.constantLong RX1 23 (4294967295)]
def wsX1_becomeProduct_r2 : List Cond := [Cond.methodLink RX1 50 yX1_addMultiple, Cond.instanceMethod yX1_addMultiple, Cond.selects RX1 yX1_addMultiple yX1_addMultiple, Cond.code yX1_addMultiple cX1_addMultiple 8 none]
def wsX1_becomeProduct : List Cond := .code yX1_becomeProduct cX1_becomeProduct 4 none :: ((wsX1_becomeProduct_r1 ++ wsX1_becomeProduct_r2) ++ wsX10)
def wsX1_shiftUp : List Cond := .code yX1_shiftUp cX1_shiftUp 8 none :: ([.fieldLink RX1 15 "ExactFractions$Whole" "used" "I", .methodLink RX1 42 yX1_valueAt, .instanceMethod yX1_valueAt, .selects RX1 yX1_valueAt yX1_valueAt, .initialized RX1, .code yX1_valueAt cX1_valueAt 2 (some .long), .constantLong RX1 23 (4294967295), .methodLink RX1 19 yX1_wordAt, .instanceMethod yX1_wordAt, .selects RX1 yX1_wordAt yX1_wordAt, .code yX1_wordAt cX1_wordAt 2 (some .int), .fieldLink RX1 9 "ExactFractions$Whole" "words" "[I", .methodLink RX1 25 yX1_put, .instanceMethod yX1_put, .selects RX1 yX1_put yX1_put, .code yX1_put cX1_put 4 none, .methodLink RX1 46 yX1_settle, .instanceMethod yX1_settle, .selects RX1 yX1_settle yX1_settle, .code yX1_settle cX1_settle 3 none, .methodLink RX1 29 Lib.Math.min.name, .static Lib.Math.min.name, .initialized "java/lang/Math", .code Lib.Math.min.name Lib.Math.min.code 2 (some .int)] ++ wsX10)
def wsX2_init_r1 : List Cond := [Cond.methodLink RX2 3 objectInit, Cond.instanceMethod objectInit, Cond.code objectInit ⟨#[0xb1]⟩ 1 none, Cond.classLink RX2 9 RX0, Cond.instantiable RX0 4, Cond.initialized RX0, Cond.fieldLink RX2 12 "ExactFractions" "first" "LExactFractions$Fraction;", Cond.fieldLink RX2 16 "ExactFractions" "second" "LExactFractions$Fraction;", Cond.classLink RX2 19 RX1, Cond.instantiable RX1 2, Cond.initialized RX1, Cond.fieldLink RX2 22 "ExactFractions" "left" "LExactFractions$Whole;", Cond.fieldLink RX2 26 "ExactFractions" "right" "LExactFractions$Whole;", Cond.methodLink RX2 11 yX0_init, Cond.instanceMethod yX0_init, Cond.code yX0_init cX0_init 1 none, Cond.methodLink RX0 1 objectInit, Cond.classLink RX0 7 RX1, Cond.fieldLink RX0 10 "ExactFractions$Fraction" "above" "LExactFractions$Whole;", Cond.fieldLink RX0 16 "ExactFractions$Fraction" "under" "LExactFractions$Whole;", Cond.methodLink RX0 9 yX1_init, Cond.instanceMethod yX1_init, Cond.code yX1_init cX1_init 1 none, Cond.methodLink RX1 3 objectInit]
def wsX2_init_r2 : List Cond := [Cond.arrayClass .int, Cond.fieldLink RX1 9 "ExactFractions$Whole" "words" "[I", Cond.fieldLink RX1 15 "ExactFractions$Whole" "used" "I", Cond.methodLink RX0 19 yX0_restart, Cond.instanceMethod yX0_restart, Cond.selects RX0 yX0_restart yX0_restart, Cond.code yX0_restart cX0_restart 1 none, Cond.fieldLink RX0 26 "ExactFractions$Fraction" "below" "Z", Cond.fieldLink RX0 30 "ExactFractions$Fraction" "exponent" "I", Cond.methodLink RX0 22 yX1_become, Cond.instanceMethod yX1_become, Cond.selects RX1 yX1_become yX1_become, Cond.code yX1_become cX1_become 3 none, Cond.methodLink RX1 25 yX1_put, Cond.instanceMethod yX1_put, Cond.selects RX1 yX1_put yX1_put, Cond.code yX1_put cX1_put 4 none, Cond.methodLink RX1 46 yX1_settle, Cond.instanceMethod yX1_settle, Cond.selects RX1 yX1_settle yX1_settle, Cond.code yX1_settle cX1_settle 3 none, Cond.methodLink RX1 29 Lib.Math.min.name, Cond.static Lib.Math.min.name, Cond.initialized "java/lang/Math"]
def wsX2_init_r3 : List Cond := [Cond.code Lib.Math.min.name Lib.Math.min.code 2 (some .int), Cond.methodLink RX1 19 yX1_wordAt, Cond.instanceMethod yX1_wordAt, Cond.selects RX1 yX1_wordAt yX1_wordAt, Cond.code yX1_wordAt cX1_wordAt 2 (some .int), Cond.methodLink RX2 21 yX1_init]
def wsX2_init : List Cond := .code yX2_init cX2_init 1 none :: ((wsX2_init_r1 ++ (wsX2_init_r2 ++ wsX2_init_r3)) ++ wsX00 ++ wsX20 ++ wsX10)
def wsX2_numberOf : List Cond := .code yX2_numberOf cX2_numberOf 2 (some (.object "ExactFractions$Fraction")) :: ([.fieldLink RX2 12 "ExactFractions" "first" "LExactFractions$Fraction;", .fieldLink RX2 16 "ExactFractions" "second" "LExactFractions$Fraction;"] ++ wsX20)
def wsX2_begin_r1 : List Cond := [Cond.methodLink RX2 29 yX2_numberOf, Cond.instanceMethod yX2_numberOf, Cond.selects RX2 yX2_numberOf yX2_numberOf, Cond.initialized RX2, Cond.code yX2_numberOf cX2_numberOf 2 (some (.object "ExactFractions$Fraction")), Cond.fieldLink RX2 12 "ExactFractions" "first" "LExactFractions$Fraction;", Cond.fieldLink RX2 16 "ExactFractions" "second" "LExactFractions$Fraction;", Cond.methodLink RX2 33 yX0_restart, Cond.instanceMethod yX0_restart, Cond.selects RX0 yX0_restart yX0_restart, Cond.initialized RX0, Cond.code yX0_restart cX0_restart 1 none, Cond.fieldLink RX0 10 "ExactFractions$Fraction" "above" "LExactFractions$Whole;", Cond.fieldLink RX0 16 "ExactFractions$Fraction" "under" "LExactFractions$Whole;", Cond.fieldLink RX0 26 "ExactFractions$Fraction" "below" "Z", Cond.fieldLink RX0 30 "ExactFractions$Fraction" "exponent" "I", Cond.methodLink RX0 22 yX1_become, Cond.instanceMethod yX1_become, Cond.selects RX1 yX1_become yX1_become, Cond.initialized RX1, Cond.code yX1_become cX1_become 3 none, Cond.methodLink RX1 25 yX1_put, Cond.instanceMethod yX1_put, Cond.selects RX1 yX1_put yX1_put]
def wsX2_begin_r2 : List Cond := [Cond.code yX1_put cX1_put 4 none, Cond.fieldLink RX1 9 "ExactFractions$Whole" "words" "[I", Cond.methodLink RX1 46 yX1_settle, Cond.instanceMethod yX1_settle, Cond.selects RX1 yX1_settle yX1_settle, Cond.code yX1_settle cX1_settle 3 none, Cond.fieldLink RX1 15 "ExactFractions$Whole" "used" "I", Cond.methodLink RX1 29 Lib.Math.min.name, Cond.static Lib.Math.min.name, Cond.initialized "java/lang/Math", Cond.code Lib.Math.min.name Lib.Math.min.code 2 (some .int), Cond.methodLink RX1 19 yX1_wordAt, Cond.instanceMethod yX1_wordAt, Cond.selects RX1 yX1_wordAt yX1_wordAt, Cond.code yX1_wordAt cX1_wordAt 2 (some .int)]
def wsX2_begin : List Cond := .code yX2_begin cX2_begin 3 (some .int) :: ((wsX2_begin_r1 ++ wsX2_begin_r2) ++ wsX20 ++ wsX00 ++ wsX10)
def wsX2_partOf : List Cond := .code yX2_partOf cX2_partOf 4 (some (.object "ExactFractions$Whole")) :: ([.fieldLink RX2 65 "ExactFractions$Fraction" "above" "LExactFractions$Whole;", .fieldLink RX2 103 "ExactFractions$Fraction" "under" "LExactFractions$Whole;", .methodLink RX2 29 yX2_numberOf, .instanceMethod yX2_numberOf, .selects RX2 yX2_numberOf yX2_numberOf, .initialized RX2, .code yX2_numberOf cX2_numberOf 2 (some (.object "ExactFractions$Fraction")), .fieldLink RX2 12 "ExactFractions" "first" "LExactFractions$Fraction;", .fieldLink RX2 16 "ExactFractions" "second" "LExactFractions$Fraction;"] ++ wsX00 ++ wsX20)
def wsX2_keepLeftIn_r1 : List Cond := [Cond.fieldLink RX2 22 "ExactFractions" "left" "LExactFractions$Whole;", Cond.methodLink RX2 53 yX1_length, Cond.instanceMethod yX1_length, Cond.selects RX1 yX1_length yX1_length, Cond.initialized RX1, Cond.code yX1_length cX1_length 3 (some .int), Cond.fieldLink RX1 15 "ExactFractions$Whole" "used" "I", Cond.methodLink RX1 35 yX1_isZero, Cond.instanceMethod yX1_isZero, Cond.selects RX1 yX1_isZero yX1_isZero, Cond.code yX1_isZero cX1_isZero 1 (some .boolean), Cond.methodLink RX1 19 yX1_wordAt, Cond.instanceMethod yX1_wordAt, Cond.selects RX1 yX1_wordAt yX1_wordAt, Cond.code yX1_wordAt cX1_wordAt 2 (some .int), Cond.fieldLink RX1 9 "ExactFractions$Whole" "words" "[I", Cond.methodLink RX2 106 yX1_copy, Cond.instanceMethod yX1_copy, Cond.selects RX1 yX1_copy yX1_copy, Cond.code yX1_copy cX1_copy 3 none, Cond.methodLink RX1 25 yX1_put, Cond.instanceMethod yX1_put, Cond.selects RX1 yX1_put yX1_put, Cond.code yX1_put cX1_put 4 none]
def wsX2_keepLeftIn_r2 : List Cond := [Cond.methodLink RX1 46 yX1_settle, Cond.instanceMethod yX1_settle, Cond.selects RX1 yX1_settle yX1_settle, Cond.code yX1_settle cX1_settle 3 none, Cond.methodLink RX1 29 Lib.Math.min.name, Cond.static Lib.Math.min.name, Cond.initialized "java/lang/Math", Cond.code Lib.Math.min.name Lib.Math.min.code 2 (some .int)]
def wsX2_keepLeftIn : List Cond := .code yX2_keepLeftIn cX2_keepLeftIn 2 (some .int) :: ((wsX2_keepLeftIn_r1 ++ wsX2_keepLeftIn_r2) ++ wsX20 ++ wsX10)
def wsX2_digit_r1 : List Cond := [Cond.constant RX2 40 (1000000), Cond.fieldLink RX2 22 "ExactFractions" "left" "LExactFractions$Whole;", Cond.methodLink RX2 36 yX2_partOf, Cond.instanceMethod yX2_partOf, Cond.selects RX2 yX2_partOf yX2_partOf, Cond.initialized RX2, Cond.code yX2_partOf cX2_partOf 4 (some (.object "ExactFractions$Whole")), Cond.fieldLink RX2 65 "ExactFractions$Fraction" "above" "LExactFractions$Whole;", Cond.fieldLink RX2 103 "ExactFractions$Fraction" "under" "LExactFractions$Whole;", Cond.methodLink RX2 29 yX2_numberOf, Cond.instanceMethod yX2_numberOf, Cond.selects RX2 yX2_numberOf yX2_numberOf, Cond.code yX2_numberOf cX2_numberOf 2 (some (.object "ExactFractions$Fraction")), Cond.fieldLink RX2 12 "ExactFractions" "first" "LExactFractions$Fraction;", Cond.fieldLink RX2 16 "ExactFractions" "second" "LExactFractions$Fraction;", Cond.methodLink RX2 41 yX1_becomeMultiple, Cond.instanceMethod yX1_becomeMultiple, Cond.selects RX1 yX1_becomeMultiple yX1_becomeMultiple, Cond.initialized RX1, Cond.code yX1_becomeMultiple cX1_becomeMultiple 7 none, Cond.fieldLink RX1 15 "ExactFractions$Whole" "used" "I", Cond.methodLink RX1 42 yX1_valueAt, Cond.instanceMethod yX1_valueAt, Cond.selects RX1 yX1_valueAt yX1_valueAt]
def wsX2_digit_r2 : List Cond := [Cond.code yX1_valueAt cX1_valueAt 2 (some .long), Cond.constantLong RX1 23 (4294967295), Cond.methodLink RX1 19 yX1_wordAt, Cond.instanceMethod yX1_wordAt, Cond.selects RX1 yX1_wordAt yX1_wordAt, Cond.code yX1_wordAt cX1_wordAt 2 (some .int), Cond.fieldLink RX1 9 "ExactFractions$Whole" "words" "[I", Cond.methodLink RX1 25 yX1_put, Cond.instanceMethod yX1_put, Cond.selects RX1 yX1_put yX1_put, Cond.code yX1_put cX1_put 4 none, Cond.methodLink RX1 46 yX1_settle, Cond.instanceMethod yX1_settle, Cond.selects RX1 yX1_settle yX1_settle, Cond.code yX1_settle cX1_settle 3 none, Cond.methodLink RX1 29 Lib.Math.min.name, Cond.static Lib.Math.min.name, Cond.initialized "java/lang/Math", Cond.code Lib.Math.min.name Lib.Math.min.code 2 (some .int), Cond.methodLink RX2 45 yX2_keepLeftIn, Cond.instanceMethod yX2_keepLeftIn, Cond.selects RX2 yX2_keepLeftIn yX2_keepLeftIn, Cond.code yX2_keepLeftIn cX2_keepLeftIn 2 (some .int), Cond.methodLink RX2 53 yX1_length]
def wsX2_digit_r3 : List Cond := [Cond.instanceMethod yX1_length, Cond.selects RX1 yX1_length yX1_length, Cond.code yX1_length cX1_length 3 (some .int), Cond.methodLink RX1 35 yX1_isZero, Cond.instanceMethod yX1_isZero, Cond.selects RX1 yX1_isZero yX1_isZero, Cond.code yX1_isZero cX1_isZero 1 (some .boolean), Cond.methodLink RX2 106 yX1_copy, Cond.instanceMethod yX1_copy, Cond.selects RX1 yX1_copy yX1_copy, Cond.code yX1_copy cX1_copy 3 none]
def wsX2_digit : List Cond := .code yX2_digit cX2_digit 6 (some .int) :: ((wsX2_digit_r1 ++ (wsX2_digit_r2 ++ wsX2_digit_r3)) ++ wsX20 ++ wsX00 ++ wsX10)
def wsX2_set_r1 : List Cond := [Cond.methodLink RX2 36 yX2_partOf, Cond.instanceMethod yX2_partOf, Cond.selects RX2 yX2_partOf yX2_partOf, Cond.initialized RX2, Cond.code yX2_partOf cX2_partOf 4 (some (.object "ExactFractions$Whole")), Cond.fieldLink RX2 65 "ExactFractions$Fraction" "above" "LExactFractions$Whole;", Cond.fieldLink RX2 103 "ExactFractions$Fraction" "under" "LExactFractions$Whole;", Cond.methodLink RX2 29 yX2_numberOf, Cond.instanceMethod yX2_numberOf, Cond.selects RX2 yX2_numberOf yX2_numberOf, Cond.code yX2_numberOf cX2_numberOf 2 (some (.object "ExactFractions$Fraction")), Cond.fieldLink RX2 12 "ExactFractions" "first" "LExactFractions$Fraction;", Cond.fieldLink RX2 16 "ExactFractions" "second" "LExactFractions$Fraction;", Cond.methodLink RX2 49 yX1_become, Cond.instanceMethod yX1_become, Cond.selects RX1 yX1_become yX1_become, Cond.initialized RX1, Cond.code yX1_become cX1_become 3 none, Cond.methodLink RX1 25 yX1_put, Cond.instanceMethod yX1_put, Cond.selects RX1 yX1_put yX1_put, Cond.code yX1_put cX1_put 4 none, Cond.fieldLink RX1 9 "ExactFractions$Whole" "words" "[I", Cond.methodLink RX1 46 yX1_settle]
def wsX2_set_r2 : List Cond := [Cond.instanceMethod yX1_settle, Cond.selects RX1 yX1_settle yX1_settle, Cond.code yX1_settle cX1_settle 3 none, Cond.fieldLink RX1 15 "ExactFractions$Whole" "used" "I", Cond.methodLink RX1 29 Lib.Math.min.name, Cond.static Lib.Math.min.name, Cond.initialized "java/lang/Math", Cond.code Lib.Math.min.name Lib.Math.min.code 2 (some .int), Cond.methodLink RX1 19 yX1_wordAt, Cond.instanceMethod yX1_wordAt, Cond.selects RX1 yX1_wordAt yX1_wordAt, Cond.code yX1_wordAt cX1_wordAt 2 (some .int), Cond.methodLink RX2 53 yX1_length, Cond.instanceMethod yX1_length, Cond.selects RX1 yX1_length yX1_length, Cond.code yX1_length cX1_length 3 (some .int), Cond.methodLink RX1 35 yX1_isZero, Cond.instanceMethod yX1_isZero, Cond.selects RX1 yX1_isZero yX1_isZero, Cond.code yX1_isZero cX1_isZero 1 (some .boolean)]
def wsX2_set : List Cond := .code yX2_set cX2_set 6 (some .int) :: ((wsX2_set_r1 ++ wsX2_set_r2) ++ wsX00 ++ wsX20 ++ wsX10)
def wsX2_scale : List Cond := .code yX2_scale cX2_scale 5 (some .int) :: ([.fieldLink RX2 57 "ExactFractions$Fraction" "below" "Z", .fieldLink RX2 61 "ExactFractions$Fraction" "exponent" "I", .methodLink RX2 29 yX2_numberOf, .instanceMethod yX2_numberOf, .selects RX2 yX2_numberOf yX2_numberOf, .initialized RX2, .code yX2_numberOf cX2_numberOf 2 (some (.object "ExactFractions$Fraction")), .fieldLink RX2 12 "ExactFractions" "first" "LExactFractions$Fraction;", .fieldLink RX2 16 "ExactFractions" "second" "LExactFractions$Fraction;"] ++ wsX00 ++ wsX20)
def wsX2_turn : List Cond := .code yX2_turn cX2_turn 3 (some .int) :: ([.fieldLink RX2 65 "ExactFractions$Fraction" "above" "LExactFractions$Whole;", .methodLink RX2 29 yX2_numberOf, .instanceMethod yX2_numberOf, .selects RX2 yX2_numberOf yX2_numberOf, .initialized RX2, .code yX2_numberOf cX2_numberOf 2 (some (.object "ExactFractions$Fraction")), .fieldLink RX2 12 "ExactFractions" "first" "LExactFractions$Fraction;", .fieldLink RX2 16 "ExactFractions" "second" "LExactFractions$Fraction;", .methodLink RX2 68 yX1_isZero, .instanceMethod yX1_isZero, .selects RX1 yX1_isZero yX1_isZero, .initialized RX1, .code yX1_isZero cX1_isZero 1 (some .boolean), .fieldLink RX1 15 "ExactFractions$Whole" "used" "I", .methodLink RX2 72 yX0_flip, .instanceMethod yX0_flip, .selects RX0 yX0_flip yX0_flip, .initialized RX0, .code yX0_flip cX0_flip 2 none, .fieldLink RX0 10 "ExactFractions$Fraction" "above" "LExactFractions$Whole;", .fieldLink RX0 16 "ExactFractions$Fraction" "under" "LExactFractions$Whole;", .fieldLink RX0 30 "ExactFractions$Fraction" "exponent" "I"] ++ wsX00 ++ wsX20 ++ wsX10)
def wsX2_move_r1 : List Cond := [Cond.fieldLink RX2 16 "ExactFractions" "second" "LExactFractions$Fraction;", Cond.fieldLink RX2 65 "ExactFractions$Fraction" "above" "LExactFractions$Whole;", Cond.fieldLink RX2 12 "ExactFractions" "first" "LExactFractions$Fraction;", Cond.fieldLink RX2 57 "ExactFractions$Fraction" "below" "Z", Cond.fieldLink RX2 22 "ExactFractions" "left" "LExactFractions$Whole;", Cond.methodLink RX2 29 yX2_numberOf, Cond.instanceMethod yX2_numberOf, Cond.selects RX2 yX2_numberOf yX2_numberOf, Cond.initialized RX2, Cond.code yX2_numberOf cX2_numberOf 2 (some (.object "ExactFractions$Fraction")), Cond.methodLink RX2 75 yX1_becomeSum, Cond.instanceMethod yX1_becomeSum, Cond.selects RX1 yX1_becomeSum yX1_becomeSum, Cond.initialized RX1, Cond.code yX1_becomeSum cX1_becomeSum 7 none, Cond.fieldLink RX1 15 "ExactFractions$Whole" "used" "I", Cond.methodLink RX1 39 Lib.Math.max.name, Cond.static Lib.Math.max.name, Cond.initialized "java/lang/Math", Cond.code Lib.Math.max.name Lib.Math.max.code 2 (some .int), Cond.methodLink RX1 42 yX1_valueAt, Cond.instanceMethod yX1_valueAt, Cond.selects RX1 yX1_valueAt yX1_valueAt, Cond.code yX1_valueAt cX1_valueAt 2 (some .long)]
def wsX2_move_r2 : List Cond := [Cond.constantLong RX1 23 (4294967295), Cond.methodLink RX1 19 yX1_wordAt, Cond.instanceMethod yX1_wordAt, Cond.selects RX1 yX1_wordAt yX1_wordAt, Cond.code yX1_wordAt cX1_wordAt 2 (some .int), Cond.fieldLink RX1 9 "ExactFractions$Whole" "words" "[I", Cond.methodLink RX1 25 yX1_put, Cond.instanceMethod yX1_put, Cond.selects RX1 yX1_put yX1_put, Cond.code yX1_put cX1_put 4 none, Cond.methodLink RX1 46 yX1_settle, Cond.instanceMethod yX1_settle, Cond.selects RX1 yX1_settle yX1_settle, Cond.code yX1_settle cX1_settle 3 none, Cond.methodLink RX1 29 Lib.Math.min.name, Cond.static Lib.Math.min.name, Cond.code Lib.Math.min.name Lib.Math.min.code 2 (some .int), Cond.methodLink RX2 79 yX1_order, Cond.instanceMethod yX1_order, Cond.selects RX1 yX1_order yX1_order, Cond.code yX1_order cX1_order 5 (some .int), Cond.methodLink RX2 82 yX1_becomeDifference, Cond.instanceMethod yX1_becomeDifference, Cond.selects RX1 yX1_becomeDifference yX1_becomeDifference]
def wsX2_move_r3 : List Cond := [Cond.code yX1_becomeDifference cX1_becomeDifference 6 none, Cond.methodLink RX2 45 yX2_keepLeftIn, Cond.instanceMethod yX2_keepLeftIn, Cond.selects RX2 yX2_keepLeftIn yX2_keepLeftIn, Cond.code yX2_keepLeftIn cX2_keepLeftIn 2 (some .int), Cond.methodLink RX2 53 yX1_length, Cond.instanceMethod yX1_length, Cond.selects RX1 yX1_length yX1_length, Cond.code yX1_length cX1_length 3 (some .int), Cond.methodLink RX1 35 yX1_isZero, Cond.instanceMethod yX1_isZero, Cond.selects RX1 yX1_isZero yX1_isZero, Cond.code yX1_isZero cX1_isZero 1 (some .boolean), Cond.methodLink RX2 106 yX1_copy, Cond.instanceMethod yX1_copy, Cond.selects RX1 yX1_copy yX1_copy, Cond.code yX1_copy cX1_copy 3 none]
def wsX2_move : List Cond := .code yX2_move cX2_move 5 (some .int) :: ((wsX2_move_r1 ++ (wsX2_move_r2 ++ wsX2_move_r3)) ++ wsX20 ++ wsX00 ++ wsX10)
def wsX2_bits_r1 : List Cond := [Cond.methodLink RX2 36 yX2_partOf, Cond.instanceMethod yX2_partOf, Cond.selects RX2 yX2_partOf yX2_partOf, Cond.initialized RX2, Cond.code yX2_partOf cX2_partOf 4 (some (.object "ExactFractions$Whole")), Cond.fieldLink RX2 65 "ExactFractions$Fraction" "above" "LExactFractions$Whole;", Cond.fieldLink RX2 103 "ExactFractions$Fraction" "under" "LExactFractions$Whole;", Cond.methodLink RX2 29 yX2_numberOf, Cond.instanceMethod yX2_numberOf, Cond.selects RX2 yX2_numberOf yX2_numberOf, Cond.code yX2_numberOf cX2_numberOf 2 (some (.object "ExactFractions$Fraction")), Cond.fieldLink RX2 12 "ExactFractions" "first" "LExactFractions$Fraction;", Cond.fieldLink RX2 16 "ExactFractions" "second" "LExactFractions$Fraction;", Cond.methodLink RX2 53 yX1_length, Cond.instanceMethod yX1_length, Cond.selects RX1 yX1_length yX1_length, Cond.initialized RX1, Cond.code yX1_length cX1_length 3 (some .int), Cond.fieldLink RX1 15 "ExactFractions$Whole" "used" "I", Cond.methodLink RX1 35 yX1_isZero, Cond.instanceMethod yX1_isZero, Cond.selects RX1 yX1_isZero yX1_isZero, Cond.code yX1_isZero cX1_isZero 1 (some .boolean), Cond.methodLink RX1 19 yX1_wordAt]
def wsX2_bits_r2 : List Cond := [Cond.instanceMethod yX1_wordAt, Cond.selects RX1 yX1_wordAt yX1_wordAt, Cond.code yX1_wordAt cX1_wordAt 2 (some .int), Cond.fieldLink RX1 9 "ExactFractions$Whole" "words" "[I"]
def wsX2_bits : List Cond := .code yX2_bits cX2_bits 4 (some .int) :: ((wsX2_bits_r1 ++ wsX2_bits_r2) ++ wsX00 ++ wsX20 ++ wsX10)
def wsX2_word : List Cond := .code yX2_word cX2_word 5 (some .int) :: ([.methodLink RX2 36 yX2_partOf, .instanceMethod yX2_partOf, .selects RX2 yX2_partOf yX2_partOf, .initialized RX2, .code yX2_partOf cX2_partOf 4 (some (.object "ExactFractions$Whole")), .fieldLink RX2 65 "ExactFractions$Fraction" "above" "LExactFractions$Whole;", .fieldLink RX2 103 "ExactFractions$Fraction" "under" "LExactFractions$Whole;", .methodLink RX2 29 yX2_numberOf, .instanceMethod yX2_numberOf, .selects RX2 yX2_numberOf yX2_numberOf, .code yX2_numberOf cX2_numberOf 2 (some (.object "ExactFractions$Fraction")), .fieldLink RX2 12 "ExactFractions" "first" "LExactFractions$Fraction;", .fieldLink RX2 16 "ExactFractions" "second" "LExactFractions$Fraction;", .methodLink RX2 85 yX1_wordAt, .instanceMethod yX1_wordAt, .selects RX1 yX1_wordAt yX1_wordAt, .initialized RX1, .code yX1_wordAt cX1_wordAt 2 (some .int), .fieldLink RX1 9 "ExactFractions$Whole" "words" "[I"] ++ wsX00 ++ wsX20 ++ wsX10)
def wsX2_alignTops_r1 : List Cond := [Cond.fieldLink RX2 22 "ExactFractions" "left" "LExactFractions$Whole;", Cond.fieldLink RX2 26 "ExactFractions" "right" "LExactFractions$Whole;", Cond.methodLink RX2 120 yX1_shiftUp, Cond.instanceMethod yX1_shiftUp, Cond.selects RX1 yX1_shiftUp yX1_shiftUp, Cond.initialized RX1, Cond.code yX1_shiftUp cX1_shiftUp 8 none, Cond.fieldLink RX1 15 "ExactFractions$Whole" "used" "I", Cond.methodLink RX1 42 yX1_valueAt, Cond.instanceMethod yX1_valueAt, Cond.selects RX1 yX1_valueAt yX1_valueAt, Cond.code yX1_valueAt cX1_valueAt 2 (some .long), Cond.constantLong RX1 23 (4294967295), Cond.methodLink RX1 19 yX1_wordAt, Cond.instanceMethod yX1_wordAt, Cond.selects RX1 yX1_wordAt yX1_wordAt, Cond.code yX1_wordAt cX1_wordAt 2 (some .int), Cond.fieldLink RX1 9 "ExactFractions$Whole" "words" "[I", Cond.methodLink RX1 25 yX1_put, Cond.instanceMethod yX1_put, Cond.selects RX1 yX1_put yX1_put, Cond.code yX1_put cX1_put 4 none, Cond.methodLink RX1 46 yX1_settle, Cond.instanceMethod yX1_settle]
def wsX2_alignTops_r2 : List Cond := [Cond.selects RX1 yX1_settle yX1_settle, Cond.code yX1_settle cX1_settle 3 none, Cond.methodLink RX1 29 Lib.Math.min.name, Cond.static Lib.Math.min.name, Cond.initialized "java/lang/Math", Cond.code Lib.Math.min.name Lib.Math.min.code 2 (some .int)]
def wsX2_alignTops : List Cond := .code yX2_alignTops cX2_alignTops 2 none :: ((wsX2_alignTops_r1 ++ wsX2_alignTops_r2) ++ wsX20 ++ wsX10)
def wsX2_orderOfSizes_r1 : List Cond := [Cond.fieldLink RX2 12 "ExactFractions" "first" "LExactFractions$Fraction;", Cond.fieldLink RX2 16 "ExactFractions" "second" "LExactFractions$Fraction;", Cond.fieldLink RX2 22 "ExactFractions" "left" "LExactFractions$Whole;", Cond.fieldLink RX2 65 "ExactFractions$Fraction" "above" "LExactFractions$Whole;", Cond.fieldLink RX2 103 "ExactFractions$Fraction" "under" "LExactFractions$Whole;", Cond.fieldLink RX2 26 "ExactFractions" "right" "LExactFractions$Whole;", Cond.fieldLink RX2 61 "ExactFractions$Fraction" "exponent" "I", Cond.methodLink RX2 110 yX0_rank, Cond.instanceMethod yX0_rank, Cond.selects RX0 yX0_rank yX0_rank, Cond.initialized RX0, Cond.code yX0_rank cX0_rank 1 (some .int), Cond.fieldLink RX0 10 "ExactFractions$Fraction" "above" "LExactFractions$Whole;", Cond.fieldLink RX0 16 "ExactFractions$Fraction" "under" "LExactFractions$Whole;", Cond.fieldLink RX0 30 "ExactFractions$Fraction" "exponent" "I", Cond.methodLink RX0 38 yX1_length, Cond.instanceMethod yX1_length, Cond.selects RX1 yX1_length yX1_length, Cond.initialized RX1, Cond.code yX1_length cX1_length 3 (some .int), Cond.fieldLink RX1 15 "ExactFractions$Whole" "used" "I", Cond.methodLink RX1 35 yX1_isZero, Cond.instanceMethod yX1_isZero, Cond.selects RX1 yX1_isZero yX1_isZero]
def wsX2_orderOfSizes_r2 : List Cond := [Cond.code yX1_isZero cX1_isZero 1 (some .boolean), Cond.methodLink RX1 19 yX1_wordAt, Cond.instanceMethod yX1_wordAt, Cond.selects RX1 yX1_wordAt yX1_wordAt, Cond.code yX1_wordAt cX1_wordAt 2 (some .int), Cond.fieldLink RX1 9 "ExactFractions$Whole" "words" "[I", Cond.methodLink RX2 113 yX1_becomeProduct, Cond.instanceMethod yX1_becomeProduct, Cond.selects RX1 yX1_becomeProduct yX1_becomeProduct, Cond.code yX1_becomeProduct cX1_becomeProduct 4 none, Cond.methodLink RX1 46 yX1_settle, Cond.instanceMethod yX1_settle, Cond.selects RX1 yX1_settle yX1_settle, Cond.code yX1_settle cX1_settle 3 none, Cond.methodLink RX1 29 Lib.Math.min.name, Cond.static Lib.Math.min.name, Cond.initialized "java/lang/Math", Cond.code Lib.Math.min.name Lib.Math.min.code 2 (some .int), Cond.methodLink RX1 25 yX1_put, Cond.instanceMethod yX1_put, Cond.selects RX1 yX1_put yX1_put, Cond.code yX1_put cX1_put 4 none, Cond.methodLink RX1 42 yX1_valueAt, Cond.instanceMethod yX1_valueAt]
def wsX2_orderOfSizes_r3 : List Cond := [Cond.selects RX1 yX1_valueAt yX1_valueAt, Cond.code yX1_valueAt cX1_valueAt 2 (some .long), Cond.constantLong RX1 23 (4294967295), Cond.methodLink RX1 50 yX1_addMultiple, Cond.instanceMethod yX1_addMultiple, Cond.selects RX1 yX1_addMultiple yX1_addMultiple, Cond.code yX1_addMultiple cX1_addMultiple 8 none, Cond.methodLink RX2 53 yX1_length, Cond.methodLink RX2 116 yX2_alignTops, Cond.instanceMethod yX2_alignTops, Cond.selects RX2 yX2_alignTops yX2_alignTops, Cond.initialized RX2, Cond.code yX2_alignTops cX2_alignTops 2 none, Cond.methodLink RX2 120 yX1_shiftUp, Cond.instanceMethod yX1_shiftUp, Cond.selects RX1 yX1_shiftUp yX1_shiftUp, Cond.code yX1_shiftUp cX1_shiftUp 8 none, Cond.methodLink RX2 79 yX1_order, Cond.instanceMethod yX1_order, Cond.selects RX1 yX1_order yX1_order, Cond.code yX1_order cX1_order 5 (some .int), Cond.methodLink RX1 39 Lib.Math.max.name, Cond.static Lib.Math.max.name, Cond.code Lib.Math.max.name Lib.Math.max.code 2 (some .int)]
def wsX2_orderOfSizes : List Cond := .code yX2_orderOfSizes cX2_orderOfSizes 3 (some .int) :: ((wsX2_orderOfSizes_r1 ++ (wsX2_orderOfSizes_r2 ++ wsX2_orderOfSizes_r3)) ++ wsX20 ++ wsX00 ++ wsX10)
def wsX2_compare_r1 : List Cond := [Cond.fieldLink RX2 12 "ExactFractions" "first" "LExactFractions$Fraction;", Cond.fieldLink RX2 16 "ExactFractions" "second" "LExactFractions$Fraction;", Cond.methodLink RX2 89 yX0_sign, Cond.instanceMethod yX0_sign, Cond.selects RX0 yX0_sign yX0_sign, Cond.initialized RX0, Cond.code yX0_sign cX0_sign 1 (some .int), Cond.fieldLink RX0 10 "ExactFractions$Fraction" "above" "LExactFractions$Whole;", Cond.fieldLink RX0 26 "ExactFractions$Fraction" "below" "Z", Cond.methodLink RX0 34 yX1_isZero, Cond.instanceMethod yX1_isZero, Cond.selects RX1 yX1_isZero yX1_isZero, Cond.initialized RX1, Cond.code yX1_isZero cX1_isZero 1 (some .boolean), Cond.fieldLink RX1 15 "ExactFractions$Whole" "used" "I", Cond.methodLink RX2 92 yX2_orderOfSizes, Cond.instanceMethod yX2_orderOfSizes, Cond.selects RX2 yX2_orderOfSizes yX2_orderOfSizes, Cond.initialized RX2, Cond.code yX2_orderOfSizes cX2_orderOfSizes 3 (some .int), Cond.fieldLink RX2 22 "ExactFractions" "left" "LExactFractions$Whole;", Cond.fieldLink RX2 65 "ExactFractions$Fraction" "above" "LExactFractions$Whole;", Cond.fieldLink RX2 103 "ExactFractions$Fraction" "under" "LExactFractions$Whole;", Cond.fieldLink RX2 26 "ExactFractions" "right" "LExactFractions$Whole;"]
def wsX2_compare_r2 : List Cond := [Cond.fieldLink RX2 61 "ExactFractions$Fraction" "exponent" "I", Cond.methodLink RX2 110 yX0_rank, Cond.instanceMethod yX0_rank, Cond.selects RX0 yX0_rank yX0_rank, Cond.code yX0_rank cX0_rank 1 (some .int), Cond.fieldLink RX0 16 "ExactFractions$Fraction" "under" "LExactFractions$Whole;", Cond.fieldLink RX0 30 "ExactFractions$Fraction" "exponent" "I", Cond.methodLink RX0 38 yX1_length, Cond.instanceMethod yX1_length, Cond.selects RX1 yX1_length yX1_length, Cond.code yX1_length cX1_length 3 (some .int), Cond.methodLink RX1 35 yX1_isZero, Cond.methodLink RX1 19 yX1_wordAt, Cond.instanceMethod yX1_wordAt, Cond.selects RX1 yX1_wordAt yX1_wordAt, Cond.code yX1_wordAt cX1_wordAt 2 (some .int), Cond.fieldLink RX1 9 "ExactFractions$Whole" "words" "[I", Cond.methodLink RX2 113 yX1_becomeProduct, Cond.instanceMethod yX1_becomeProduct, Cond.selects RX1 yX1_becomeProduct yX1_becomeProduct, Cond.code yX1_becomeProduct cX1_becomeProduct 4 none, Cond.methodLink RX1 46 yX1_settle, Cond.instanceMethod yX1_settle, Cond.selects RX1 yX1_settle yX1_settle]
def wsX2_compare_r3 : List Cond := [Cond.code yX1_settle cX1_settle 3 none, Cond.methodLink RX1 29 Lib.Math.min.name, Cond.static Lib.Math.min.name, Cond.initialized "java/lang/Math", Cond.code Lib.Math.min.name Lib.Math.min.code 2 (some .int), Cond.methodLink RX1 25 yX1_put, Cond.instanceMethod yX1_put, Cond.selects RX1 yX1_put yX1_put, Cond.code yX1_put cX1_put 4 none, Cond.methodLink RX1 42 yX1_valueAt, Cond.instanceMethod yX1_valueAt, Cond.selects RX1 yX1_valueAt yX1_valueAt, Cond.code yX1_valueAt cX1_valueAt 2 (some .long), Cond.constantLong RX1 23 (4294967295), Cond.methodLink RX1 50 yX1_addMultiple, Cond.instanceMethod yX1_addMultiple, Cond.selects RX1 yX1_addMultiple yX1_addMultiple, Cond.code yX1_addMultiple cX1_addMultiple 8 none, Cond.methodLink RX2 53 yX1_length, Cond.methodLink RX2 116 yX2_alignTops, Cond.instanceMethod yX2_alignTops, Cond.selects RX2 yX2_alignTops yX2_alignTops, Cond.code yX2_alignTops cX2_alignTops 2 none, Cond.methodLink RX2 120 yX1_shiftUp]
def wsX2_compare_r4 : List Cond := [Cond.instanceMethod yX1_shiftUp, Cond.selects RX1 yX1_shiftUp yX1_shiftUp, Cond.code yX1_shiftUp cX1_shiftUp 8 none, Cond.methodLink RX2 79 yX1_order, Cond.instanceMethod yX1_order, Cond.selects RX1 yX1_order yX1_order, Cond.code yX1_order cX1_order 5 (some .int), Cond.methodLink RX1 39 Lib.Math.max.name, Cond.static Lib.Math.max.name, Cond.code Lib.Math.max.name Lib.Math.max.code 2 (some .int)]
def wsX2_compare : List Cond := .code yX2_compare cX2_compare 3 (some .int) :: ((wsX2_compare_r1 ++ (wsX2_compare_r2 ++ (wsX2_compare_r3 ++ wsX2_compare_r4))) ++ wsX20 ++ wsX00 ++ wsX10)
def wsX2_layOut_r1 : List Cond := [Cond.fieldLink RX2 22 "ExactFractions" "left" "LExactFractions$Whole;", Cond.fieldLink RX2 65 "ExactFractions$Fraction" "above" "LExactFractions$Whole;", Cond.fieldLink RX2 26 "ExactFractions" "right" "LExactFractions$Whole;", Cond.fieldLink RX2 103 "ExactFractions$Fraction" "under" "LExactFractions$Whole;", Cond.methodLink RX2 106 yX1_copy, Cond.instanceMethod yX1_copy, Cond.selects RX1 yX1_copy yX1_copy, Cond.initialized RX1, Cond.code yX1_copy cX1_copy 3 none, Cond.fieldLink RX1 15 "ExactFractions$Whole" "used" "I", Cond.methodLink RX1 19 yX1_wordAt, Cond.instanceMethod yX1_wordAt, Cond.selects RX1 yX1_wordAt yX1_wordAt, Cond.code yX1_wordAt cX1_wordAt 2 (some .int), Cond.fieldLink RX1 9 "ExactFractions$Whole" "words" "[I", Cond.methodLink RX1 25 yX1_put, Cond.instanceMethod yX1_put, Cond.selects RX1 yX1_put yX1_put, Cond.code yX1_put cX1_put 4 none, Cond.methodLink RX1 46 yX1_settle, Cond.instanceMethod yX1_settle, Cond.selects RX1 yX1_settle yX1_settle, Cond.code yX1_settle cX1_settle 3 none, Cond.methodLink RX1 29 Lib.Math.min.name]
def wsX2_layOut_r2 : List Cond := [Cond.static Lib.Math.min.name, Cond.initialized "java/lang/Math", Cond.code Lib.Math.min.name Lib.Math.min.code 2 (some .int), Cond.methodLink RX2 53 yX1_length, Cond.instanceMethod yX1_length, Cond.selects RX1 yX1_length yX1_length, Cond.code yX1_length cX1_length 3 (some .int), Cond.methodLink RX1 35 yX1_isZero, Cond.instanceMethod yX1_isZero, Cond.selects RX1 yX1_isZero yX1_isZero, Cond.code yX1_isZero cX1_isZero 1 (some .boolean), Cond.methodLink RX2 116 yX2_alignTops, Cond.instanceMethod yX2_alignTops, Cond.selects RX2 yX2_alignTops yX2_alignTops, Cond.initialized RX2, Cond.code yX2_alignTops cX2_alignTops 2 none, Cond.methodLink RX2 120 yX1_shiftUp, Cond.instanceMethod yX1_shiftUp, Cond.selects RX1 yX1_shiftUp yX1_shiftUp, Cond.code yX1_shiftUp cX1_shiftUp 8 none, Cond.methodLink RX1 42 yX1_valueAt, Cond.instanceMethod yX1_valueAt, Cond.selects RX1 yX1_valueAt yX1_valueAt, Cond.code yX1_valueAt cX1_valueAt 2 (some .long)]
def wsX2_layOut_r3 : List Cond := [Cond.constantLong RX1 23 (4294967295), Cond.methodLink RX2 79 yX1_order, Cond.instanceMethod yX1_order, Cond.selects RX1 yX1_order yX1_order, Cond.code yX1_order cX1_order 5 (some .int), Cond.methodLink RX1 39 Lib.Math.max.name, Cond.static Lib.Math.max.name, Cond.code Lib.Math.max.name Lib.Math.max.code 2 (some .int), Cond.methodLink RX2 110 yX0_rank, Cond.instanceMethod yX0_rank, Cond.selects RX0 yX0_rank yX0_rank, Cond.initialized RX0, Cond.code yX0_rank cX0_rank 1 (some .int), Cond.fieldLink RX0 10 "ExactFractions$Fraction" "above" "LExactFractions$Whole;", Cond.fieldLink RX0 16 "ExactFractions$Fraction" "under" "LExactFractions$Whole;", Cond.fieldLink RX0 30 "ExactFractions$Fraction" "exponent" "I", Cond.methodLink RX0 38 yX1_length]
def wsX2_layOut : List Cond := .code yX2_layOut cX2_layOut 2 (some .int) :: ((wsX2_layOut_r1 ++ (wsX2_layOut_r2 ++ wsX2_layOut_r3)) ++ wsX20 ++ wsX00 ++ wsX10)
def wsX2_quotient_r1 : List Cond := [Cond.fieldLink RX2 22 "ExactFractions" "left" "LExactFractions$Whole;", Cond.fieldLink RX2 26 "ExactFractions" "right" "LExactFractions$Whole;", Cond.methodLink RX2 79 yX1_order, Cond.instanceMethod yX1_order, Cond.selects RX1 yX1_order yX1_order, Cond.initialized RX1, Cond.code yX1_order cX1_order 5 (some .int), Cond.fieldLink RX1 15 "ExactFractions$Whole" "used" "I", Cond.methodLink RX1 39 Lib.Math.max.name, Cond.static Lib.Math.max.name, Cond.initialized "java/lang/Math", Cond.code Lib.Math.max.name Lib.Math.max.code 2 (some .int), Cond.methodLink RX1 42 yX1_valueAt, Cond.instanceMethod yX1_valueAt, Cond.selects RX1 yX1_valueAt yX1_valueAt, Cond.code yX1_valueAt cX1_valueAt 2 (some .long), Cond.constantLong RX1 23 (4294967295), Cond.methodLink RX1 19 yX1_wordAt, Cond.instanceMethod yX1_wordAt, Cond.selects RX1 yX1_wordAt yX1_wordAt, Cond.code yX1_wordAt cX1_wordAt 2 (some .int), Cond.fieldLink RX1 9 "ExactFractions$Whole" "words" "[I", Cond.methodLink RX2 82 yX1_becomeDifference, Cond.instanceMethod yX1_becomeDifference]
def wsX2_quotient_r2 : List Cond := [Cond.selects RX1 yX1_becomeDifference yX1_becomeDifference, Cond.code yX1_becomeDifference cX1_becomeDifference 6 none, Cond.methodLink RX1 25 yX1_put, Cond.instanceMethod yX1_put, Cond.selects RX1 yX1_put yX1_put, Cond.code yX1_put cX1_put 4 none, Cond.methodLink RX1 46 yX1_settle, Cond.instanceMethod yX1_settle, Cond.selects RX1 yX1_settle yX1_settle, Cond.code yX1_settle cX1_settle 3 none, Cond.methodLink RX1 29 Lib.Math.min.name, Cond.static Lib.Math.min.name, Cond.code Lib.Math.min.name Lib.Math.min.code 2 (some .int), Cond.methodLink RX2 120 yX1_shiftUp, Cond.instanceMethod yX1_shiftUp, Cond.selects RX1 yX1_shiftUp yX1_shiftUp, Cond.code yX1_shiftUp cX1_shiftUp 8 none]
def wsX2_quotient : List Cond := .code yX2_quotient cX2_quotient 5 (some .long) :: ((wsX2_quotient_r1 ++ wsX2_quotient_r2) ++ wsX20 ++ wsX10)
def wsX2_roundedSize_r1 : List Cond := [Cond.constantLong RX2 127 (9218868437227405312), Cond.constantLong RX2 129 (9218868437227405311), Cond.methodLink RX2 131 Lib.Math.min.name, Cond.static Lib.Math.min.name, Cond.initialized "java/lang/Math", Cond.code Lib.Math.min.name Lib.Math.min.code 2 (some .int), Cond.fieldLink RX2 22 "ExactFractions" "left" "LExactFractions$Whole;", Cond.methodLink RX2 123 yX2_layOut, Cond.instanceMethod yX2_layOut, Cond.selects RX2 yX2_layOut yX2_layOut, Cond.initialized RX2, Cond.code yX2_layOut cX2_layOut 2 (some .int), Cond.fieldLink RX2 65 "ExactFractions$Fraction" "above" "LExactFractions$Whole;", Cond.fieldLink RX2 26 "ExactFractions" "right" "LExactFractions$Whole;", Cond.fieldLink RX2 103 "ExactFractions$Fraction" "under" "LExactFractions$Whole;", Cond.methodLink RX2 106 yX1_copy, Cond.instanceMethod yX1_copy, Cond.selects RX1 yX1_copy yX1_copy, Cond.initialized RX1, Cond.code yX1_copy cX1_copy 3 none, Cond.fieldLink RX1 15 "ExactFractions$Whole" "used" "I", Cond.methodLink RX1 19 yX1_wordAt, Cond.instanceMethod yX1_wordAt, Cond.selects RX1 yX1_wordAt yX1_wordAt]
def wsX2_roundedSize_r2 : List Cond := [Cond.code yX1_wordAt cX1_wordAt 2 (some .int), Cond.fieldLink RX1 9 "ExactFractions$Whole" "words" "[I", Cond.methodLink RX1 25 yX1_put, Cond.instanceMethod yX1_put, Cond.selects RX1 yX1_put yX1_put, Cond.code yX1_put cX1_put 4 none, Cond.methodLink RX1 46 yX1_settle, Cond.instanceMethod yX1_settle, Cond.selects RX1 yX1_settle yX1_settle, Cond.code yX1_settle cX1_settle 3 none, Cond.methodLink RX1 29 Lib.Math.min.name, Cond.methodLink RX2 53 yX1_length, Cond.instanceMethod yX1_length, Cond.selects RX1 yX1_length yX1_length, Cond.code yX1_length cX1_length 3 (some .int), Cond.methodLink RX1 35 yX1_isZero, Cond.instanceMethod yX1_isZero, Cond.selects RX1 yX1_isZero yX1_isZero, Cond.code yX1_isZero cX1_isZero 1 (some .boolean), Cond.methodLink RX2 116 yX2_alignTops, Cond.instanceMethod yX2_alignTops, Cond.selects RX2 yX2_alignTops yX2_alignTops, Cond.code yX2_alignTops cX2_alignTops 2 none, Cond.methodLink RX2 120 yX1_shiftUp]
def wsX2_roundedSize_r3 : List Cond := [Cond.instanceMethod yX1_shiftUp, Cond.selects RX1 yX1_shiftUp yX1_shiftUp, Cond.code yX1_shiftUp cX1_shiftUp 8 none, Cond.methodLink RX1 42 yX1_valueAt, Cond.instanceMethod yX1_valueAt, Cond.selects RX1 yX1_valueAt yX1_valueAt, Cond.code yX1_valueAt cX1_valueAt 2 (some .long), Cond.constantLong RX1 23 (4294967295), Cond.methodLink RX2 79 yX1_order, Cond.instanceMethod yX1_order, Cond.selects RX1 yX1_order yX1_order, Cond.code yX1_order cX1_order 5 (some .int), Cond.methodLink RX1 39 Lib.Math.max.name, Cond.static Lib.Math.max.name, Cond.code Lib.Math.max.name Lib.Math.max.code 2 (some .int), Cond.methodLink RX2 110 yX0_rank, Cond.instanceMethod yX0_rank, Cond.selects RX0 yX0_rank yX0_rank, Cond.initialized RX0, Cond.code yX0_rank cX0_rank 1 (some .int), Cond.fieldLink RX0 10 "ExactFractions$Fraction" "above" "LExactFractions$Whole;", Cond.fieldLink RX0 16 "ExactFractions$Fraction" "under" "LExactFractions$Whole;", Cond.fieldLink RX0 30 "ExactFractions$Fraction" "exponent" "I", Cond.methodLink RX0 38 yX1_length]
def wsX2_roundedSize_r4 : List Cond := [Cond.methodLink RX2 137 yX2_quotient, Cond.instanceMethod yX2_quotient, Cond.selects RX2 yX2_quotient yX2_quotient, Cond.code yX2_quotient cX2_quotient 5 (some .long), Cond.methodLink RX2 82 yX1_becomeDifference, Cond.instanceMethod yX1_becomeDifference, Cond.selects RX1 yX1_becomeDifference yX1_becomeDifference, Cond.code yX1_becomeDifference cX1_becomeDifference 6 none, Cond.methodLink RX2 68 yX1_isZero]
def wsX2_roundedSize : List Cond := .code yX2_roundedSize cX2_roundedSize 6 (some .long) :: ((wsX2_roundedSize_r1 ++ (wsX2_roundedSize_r2 ++ (wsX2_roundedSize_r3 ++ wsX2_roundedSize_r4))) ++ wsX20 ++ wsX00 ++ wsX10)
def wsX2_round_r1 : List Cond := [Cond.constantLong RX2 95 (9221120237041090560), Cond.fieldLink RX2 65 "ExactFractions$Fraction" "above" "LExactFractions$Whole;", Cond.fieldLink RX2 57 "ExactFractions$Fraction" "below" "Z", Cond.constantLong RX2 101 (-9223372036854775808), Cond.methodLink RX2 29 yX2_numberOf, Cond.instanceMethod yX2_numberOf, Cond.selects RX2 yX2_numberOf yX2_numberOf, Cond.initialized RX2, Cond.code yX2_numberOf cX2_numberOf 2 (some (.object "ExactFractions$Fraction")), Cond.fieldLink RX2 12 "ExactFractions" "first" "LExactFractions$Fraction;", Cond.fieldLink RX2 16 "ExactFractions" "second" "LExactFractions$Fraction;", Cond.methodLink RX2 68 yX1_isZero, Cond.instanceMethod yX1_isZero, Cond.selects RX1 yX1_isZero yX1_isZero, Cond.initialized RX1, Cond.code yX1_isZero cX1_isZero 1 (some .boolean), Cond.fieldLink RX1 15 "ExactFractions$Whole" "used" "I", Cond.methodLink RX2 97 yX2_roundedSize, Cond.instanceMethod yX2_roundedSize, Cond.selects RX2 yX2_roundedSize yX2_roundedSize, Cond.code yX2_roundedSize cX2_roundedSize 6 (some .long), Cond.constantLong RX2 127 (9218868437227405312), Cond.constantLong RX2 129 (9218868437227405311), Cond.methodLink RX2 131 Lib.Math.min.name]
def wsX2_round_r2 : List Cond := [Cond.static Lib.Math.min.name, Cond.initialized "java/lang/Math", Cond.code Lib.Math.min.name Lib.Math.min.code 2 (some .int), Cond.fieldLink RX2 22 "ExactFractions" "left" "LExactFractions$Whole;", Cond.methodLink RX2 123 yX2_layOut, Cond.instanceMethod yX2_layOut, Cond.selects RX2 yX2_layOut yX2_layOut, Cond.code yX2_layOut cX2_layOut 2 (some .int), Cond.fieldLink RX2 26 "ExactFractions" "right" "LExactFractions$Whole;", Cond.fieldLink RX2 103 "ExactFractions$Fraction" "under" "LExactFractions$Whole;", Cond.methodLink RX2 106 yX1_copy, Cond.instanceMethod yX1_copy, Cond.selects RX1 yX1_copy yX1_copy, Cond.code yX1_copy cX1_copy 3 none, Cond.methodLink RX1 19 yX1_wordAt, Cond.instanceMethod yX1_wordAt, Cond.selects RX1 yX1_wordAt yX1_wordAt, Cond.code yX1_wordAt cX1_wordAt 2 (some .int), Cond.fieldLink RX1 9 "ExactFractions$Whole" "words" "[I", Cond.methodLink RX1 25 yX1_put, Cond.instanceMethod yX1_put, Cond.selects RX1 yX1_put yX1_put, Cond.code yX1_put cX1_put 4 none, Cond.methodLink RX1 46 yX1_settle]
def wsX2_round_r3 : List Cond := [Cond.instanceMethod yX1_settle, Cond.selects RX1 yX1_settle yX1_settle, Cond.code yX1_settle cX1_settle 3 none, Cond.methodLink RX1 29 Lib.Math.min.name, Cond.methodLink RX2 53 yX1_length, Cond.instanceMethod yX1_length, Cond.selects RX1 yX1_length yX1_length, Cond.code yX1_length cX1_length 3 (some .int), Cond.methodLink RX1 35 yX1_isZero, Cond.methodLink RX2 116 yX2_alignTops, Cond.instanceMethod yX2_alignTops, Cond.selects RX2 yX2_alignTops yX2_alignTops, Cond.code yX2_alignTops cX2_alignTops 2 none, Cond.methodLink RX2 120 yX1_shiftUp, Cond.instanceMethod yX1_shiftUp, Cond.selects RX1 yX1_shiftUp yX1_shiftUp, Cond.code yX1_shiftUp cX1_shiftUp 8 none, Cond.methodLink RX1 42 yX1_valueAt, Cond.instanceMethod yX1_valueAt, Cond.selects RX1 yX1_valueAt yX1_valueAt, Cond.code yX1_valueAt cX1_valueAt 2 (some .long), Cond.constantLong RX1 23 (4294967295), Cond.methodLink RX2 79 yX1_order, Cond.instanceMethod yX1_order]
def wsX2_round_r4 : List Cond := [Cond.selects RX1 yX1_order yX1_order, Cond.code yX1_order cX1_order 5 (some .int), Cond.methodLink RX1 39 Lib.Math.max.name, Cond.static Lib.Math.max.name, Cond.code Lib.Math.max.name Lib.Math.max.code 2 (some .int), Cond.methodLink RX2 110 yX0_rank, Cond.instanceMethod yX0_rank, Cond.selects RX0 yX0_rank yX0_rank, Cond.initialized RX0, Cond.code yX0_rank cX0_rank 1 (some .int), Cond.fieldLink RX0 10 "ExactFractions$Fraction" "above" "LExactFractions$Whole;", Cond.fieldLink RX0 16 "ExactFractions$Fraction" "under" "LExactFractions$Whole;", Cond.fieldLink RX0 30 "ExactFractions$Fraction" "exponent" "I", Cond.methodLink RX0 38 yX1_length, Cond.methodLink RX2 137 yX2_quotient, Cond.instanceMethod yX2_quotient, Cond.selects RX2 yX2_quotient yX2_quotient, Cond.code yX2_quotient cX2_quotient 5 (some .long), Cond.methodLink RX2 82 yX1_becomeDifference, Cond.instanceMethod yX1_becomeDifference, Cond.selects RX1 yX1_becomeDifference yX1_becomeDifference, Cond.code yX1_becomeDifference cX1_becomeDifference 6 none]
def wsX2_round : List Cond := .code yX2_round cX2_round 6 (some .long) :: ((wsX2_round_r1 ++ (wsX2_round_r2 ++ (wsX2_round_r3 ++ wsX2_round_r4))) ++ wsX00 ++ wsX20 ++ wsX10)
set_option maxRecDepth 20000 in
theorem ggX0_init_X1_init : GoodIn wsX0_init wsX1_init := goodIn_r _ [11, 12, 2, 3, 13, 14, 15, 43, 44] (by decide +kernel) (by decide +kernel)
set_option maxRecDepth 20000 in
theorem gX0_init_X1_init : GoodIn wsX0_init (wsX1_init) := ggX0_init_X1_init
set_option maxRecDepth 20000 in
theorem ggX0_init_X0_restart : GoodIn wsX0_init wsX0_restart := goodIn_r _ [20, 7, 8, 21, 22, 23, 24, 25, 6, 26, 27, 28, 29, 30, 14, 31, 32, 33, 34, 15, 35, 36, 37, 38, 39, 40, 41, 42, 45, 46, 47, 48, 43, 44] (by decide +kernel) (by decide +kernel)
set_option maxRecDepth 20000 in
theorem gX0_init_X0_restart : GoodIn wsX0_init (wsV RX0 19 RX0 yX0_restart wsX0_restart) := goodIn_app (goodIn_of _ (by decide +kernel)) ggX0_init_X0_restart
theorem dX0_init_0 : decode cX0_init 0 = .ok (.aload_n 0, 1) := by decide +kernel
theorem dX0_init_1 : decode cX0_init 1 = .ok (.invokespecial 1, 3) := by decide +kernel
theorem dX0_init_4 : decode cX0_init 4 = .ok (.aload_n 0, 1) := by decide +kernel
theorem dX0_init_5 : decode cX0_init 5 = .ok (.new 7, 3) := by decide +kernel
theorem dX0_init_8 : decode cX0_init 8 = .ok (.dup, 1) := by decide +kernel
theorem dX0_init_9 : decode cX0_init 9 = .ok (.invokespecial 9, 3) := by decide +kernel
theorem dX0_init_12 : decode cX0_init 12 = .ok (.putfield 10, 3) := by decide +kernel
theorem dX0_init_15 : decode cX0_init 15 = .ok (.aload_n 0, 1) := by decide +kernel
theorem dX0_init_16 : decode cX0_init 16 = .ok (.new 7, 3) := by decide +kernel
theorem dX0_init_19 : decode cX0_init 19 = .ok (.dup, 1) := by decide +kernel
theorem dX0_init_20 : decode cX0_init 20 = .ok (.invokespecial 9, 3) := by decide +kernel
theorem dX0_init_23 : decode cX0_init 23 = .ok (.putfield 16, 3) := by decide +kernel
theorem dX0_init_26 : decode cX0_init 26 = .ok (.aload_n 0, 1) := by decide +kernel
theorem dX0_init_27 : decode cX0_init 27 = .ok (.invokevirtual 19, 3) := by decide +kernel
theorem dX0_init_30 : decode cX0_init 30 = .ok (.return_, 1) := by decide +kernel
set_option maxRecDepth 20000 in
theorem ggX0_restart_X1_become : GoodIn wsX0_restart wsX1_become := goodIn_r _ [9, 10, 11, 12, 8, 13, 14, 15, 16, 17, 18, 19, 20, 21, 22, 23, 24, 25, 26, 27, 32, 33] (by decide +kernel) (by decide +kernel)
set_option maxRecDepth 20000 in
theorem gX0_restart_X1_become : GoodIn wsX0_restart (wsV RX0 22 RX1 yX1_become wsX1_become) := goodIn_app (goodIn_of _ (by decide +kernel)) ggX0_restart_X1_become
theorem dX0_restart_0 : decode cX0_restart 0 = .ok (.aload_n 0, 1) := by decide +kernel
theorem dX0_restart_1 : decode cX0_restart 1 = .ok (.getfield 10, 3) := by decide +kernel
theorem dX0_restart_4 : decode cX0_restart 4 = .ok (.lconst 0, 1) := by decide +kernel
theorem dX0_restart_5 : decode cX0_restart 5 = .ok (.invokevirtual 22, 3) := by decide +kernel
theorem dX0_restart_8 : decode cX0_restart 8 = .ok (.aload_n 0, 1) := by decide +kernel
theorem dX0_restart_9 : decode cX0_restart 9 = .ok (.getfield 16, 3) := by decide +kernel
theorem dX0_restart_12 : decode cX0_restart 12 = .ok (.lconst 1, 1) := by decide +kernel
theorem dX0_restart_13 : decode cX0_restart 13 = .ok (.invokevirtual 22, 3) := by decide +kernel
theorem dX0_restart_16 : decode cX0_restart 16 = .ok (.aload_n 0, 1) := by decide +kernel
theorem dX0_restart_17 : decode cX0_restart 17 = .ok (.iconst 0, 1) := by decide +kernel
theorem dX0_restart_18 : decode cX0_restart 18 = .ok (.putfield 26, 3) := by decide +kernel
theorem dX0_restart_21 : decode cX0_restart 21 = .ok (.aload_n 0, 1) := by decide +kernel
theorem dX0_restart_22 : decode cX0_restart 22 = .ok (.iconst 0, 1) := by decide +kernel
theorem dX0_restart_23 : decode cX0_restart 23 = .ok (.putfield 30, 3) := by decide +kernel
theorem dX0_restart_26 : decode cX0_restart 26 = .ok (.return_, 1) := by decide +kernel
theorem dX0_flip_0 : decode cX0_flip 0 = .ok (.aload_n 0, 1) := by decide +kernel
theorem dX0_flip_1 : decode cX0_flip 1 = .ok (.getfield 10, 3) := by decide +kernel
theorem dX0_flip_4 : decode cX0_flip 4 = .ok (.astore_n 1, 1) := by decide +kernel
theorem dX0_flip_5 : decode cX0_flip 5 = .ok (.aload_n 0, 1) := by decide +kernel
theorem dX0_flip_6 : decode cX0_flip 6 = .ok (.aload_n 0, 1) := by decide +kernel
theorem dX0_flip_7 : decode cX0_flip 7 = .ok (.getfield 16, 3) := by decide +kernel
theorem dX0_flip_10 : decode cX0_flip 10 = .ok (.putfield 10, 3) := by decide +kernel
theorem dX0_flip_13 : decode cX0_flip 13 = .ok (.aload_n 0, 1) := by decide +kernel
theorem dX0_flip_14 : decode cX0_flip 14 = .ok (.aload_n 1, 1) := by decide +kernel
theorem dX0_flip_15 : decode cX0_flip 15 = .ok (.putfield 16, 3) := by decide +kernel
theorem dX0_flip_18 : decode cX0_flip 18 = .ok (.aload_n 0, 1) := by decide +kernel
theorem dX0_flip_19 : decode cX0_flip 19 = .ok (.aload_n 0, 1) := by decide +kernel
theorem dX0_flip_20 : decode cX0_flip 20 = .ok (.getfield 30, 3) := by decide +kernel
theorem dX0_flip_23 : decode cX0_flip 23 = .ok (.ineg, 1) := by decide +kernel
theorem dX0_flip_24 : decode cX0_flip 24 = .ok (.putfield 30, 3) := by decide +kernel
theorem dX0_flip_27 : decode cX0_flip 27 = .ok (.return_, 1) := by decide +kernel
set_option maxRecDepth 20000 in
theorem ggX0_sign_X1_isZero : GoodIn wsX0_sign wsX1_isZero := goodIn_r _ [7, 8, 13, 14] (by decide +kernel) (by decide +kernel)
set_option maxRecDepth 20000 in
theorem gX0_sign_X1_isZero : GoodIn wsX0_sign (wsV RX0 34 RX1 yX1_isZero wsX1_isZero) := goodIn_app (goodIn_of _ (by decide +kernel)) ggX0_sign_X1_isZero
theorem dX0_sign_0 : decode cX0_sign 0 = .ok (.aload_n 0, 1) := by decide +kernel
theorem dX0_sign_1 : decode cX0_sign 1 = .ok (.getfield 10, 3) := by decide +kernel
theorem dX0_sign_4 : decode cX0_sign 4 = .ok (.invokevirtual 34, 3) := by decide +kernel
theorem dX0_sign_7 : decode cX0_sign 7 = .ok (.ifCond .eq 5, 3) := by decide +kernel
theorem dX0_sign_10 : decode cX0_sign 10 = .ok (.iconst 0, 1) := by decide +kernel
theorem dX0_sign_11 : decode cX0_sign 11 = .ok (.ireturn, 1) := by decide +kernel
theorem dX0_sign_12 : decode cX0_sign 12 = .ok (.aload_n 0, 1) := by decide +kernel
theorem dX0_sign_13 : decode cX0_sign 13 = .ok (.getfield 26, 3) := by decide +kernel
theorem dX0_sign_16 : decode cX0_sign 16 = .ok (.ifCond .eq 7, 3) := by decide +kernel
theorem dX0_sign_19 : decode cX0_sign 19 = .ok (.iconst (-1), 1) := by decide +kernel
theorem dX0_sign_20 : decode cX0_sign 20 = .ok (.goto 4, 3) := by decide +kernel
theorem dX0_sign_23 : decode cX0_sign 23 = .ok (.iconst 1, 1) := by decide +kernel
theorem dX0_sign_24 : decode cX0_sign 24 = .ok (.ireturn, 1) := by decide +kernel
set_option maxRecDepth 20000 in
theorem ggX0_rank_X1_length : GoodIn wsX0_rank wsX1_length := goodIn_r _ [8, 9, 10, 11, 12, 7, 13, 14, 15, 16, 17, 18, 23, 24] (by decide +kernel) (by decide +kernel)
set_option maxRecDepth 20000 in
theorem gX0_rank_X1_length : GoodIn wsX0_rank (wsV RX0 38 RX1 yX1_length wsX1_length) := goodIn_app (goodIn_of _ (by decide +kernel)) ggX0_rank_X1_length
theorem dX0_rank_0 : decode cX0_rank 0 = .ok (.aload_n 0, 1) := by decide +kernel
theorem dX0_rank_1 : decode cX0_rank 1 = .ok (.getfield 10, 3) := by decide +kernel
theorem dX0_rank_4 : decode cX0_rank 4 = .ok (.invokevirtual 38, 3) := by decide +kernel
theorem dX0_rank_7 : decode cX0_rank 7 = .ok (.aload_n 0, 1) := by decide +kernel
theorem dX0_rank_8 : decode cX0_rank 8 = .ok (.getfield 16, 3) := by decide +kernel
theorem dX0_rank_11 : decode cX0_rank 11 = .ok (.invokevirtual 38, 3) := by decide +kernel
theorem dX0_rank_14 : decode cX0_rank 14 = .ok (.isub, 1) := by decide +kernel
theorem dX0_rank_15 : decode cX0_rank 15 = .ok (.aload_n 0, 1) := by decide +kernel
theorem dX0_rank_16 : decode cX0_rank 16 = .ok (.getfield 30, 3) := by decide +kernel
theorem dX0_rank_19 : decode cX0_rank 19 = .ok (.iadd, 1) := by decide +kernel
theorem dX0_rank_20 : decode cX0_rank 20 = .ok (.ireturn, 1) := by decide +kernel
theorem dX1_init_0 : decode cX1_init 0 = .ok (.aload_n 0, 1) := by decide +kernel
theorem dX1_init_1 : decode cX1_init 1 = .ok (.invokespecial 3, 3) := by decide +kernel
theorem dX1_init_4 : decode cX1_init 4 = .ok (.aload_n 0, 1) := by decide +kernel
theorem dX1_init_5 : decode cX1_init 5 = .ok (.sipush 301, 3) := by decide +kernel
theorem dX1_init_8 : decode cX1_init 8 = .ok (.newarray .int, 2) := by decide +kernel
theorem dX1_init_10 : decode cX1_init 10 = .ok (.putfield 9, 3) := by decide +kernel
theorem dX1_init_13 : decode cX1_init 13 = .ok (.aload_n 0, 1) := by decide +kernel
theorem dX1_init_14 : decode cX1_init 14 = .ok (.iconst 0, 1) := by decide +kernel
theorem dX1_init_15 : decode cX1_init 15 = .ok (.putfield 15, 3) := by decide +kernel
theorem dX1_init_18 : decode cX1_init 18 = .ok (.return_, 1) := by decide +kernel
theorem dX1_wordAt_0 : decode cX1_wordAt 0 = .ok (.iload_n 1, 1) := by decide +kernel
theorem dX1_wordAt_1 : decode cX1_wordAt 1 = .ok (.ifCond .lt 21, 3) := by decide +kernel
theorem dX1_wordAt_4 : decode cX1_wordAt 4 = .ok (.iload_n 1, 1) := by decide +kernel
theorem dX1_wordAt_5 : decode cX1_wordAt 5 = .ok (.aload_n 0, 1) := by decide +kernel
theorem dX1_wordAt_6 : decode cX1_wordAt 6 = .ok (.getfield 9, 3) := by decide +kernel
theorem dX1_wordAt_9 : decode cX1_wordAt 9 = .ok (.arraylength, 1) := by decide +kernel
theorem dX1_wordAt_10 : decode cX1_wordAt 10 = .ok (.if_icmp .ge 12, 3) := by decide +kernel
theorem dX1_wordAt_13 : decode cX1_wordAt 13 = .ok (.aload_n 0, 1) := by decide +kernel
theorem dX1_wordAt_14 : decode cX1_wordAt 14 = .ok (.getfield 9, 3) := by decide +kernel
theorem dX1_wordAt_17 : decode cX1_wordAt 17 = .ok (.iload_n 1, 1) := by decide +kernel
theorem dX1_wordAt_18 : decode cX1_wordAt 18 = .ok (.iaload, 1) := by decide +kernel
theorem dX1_wordAt_19 : decode cX1_wordAt 19 = .ok (.goto 4, 3) := by decide +kernel
theorem dX1_wordAt_22 : decode cX1_wordAt 22 = .ok (.iconst 0, 1) := by decide +kernel
theorem dX1_wordAt_23 : decode cX1_wordAt 23 = .ok (.ireturn, 1) := by decide +kernel
set_option maxRecDepth 20000 in
theorem ggX1_valueAt_X1_wordAt : GoodIn wsX1_valueAt wsX1_wordAt := goodIn_r _ [6, 7, 8, 9] (by decide +kernel) (by decide +kernel)
set_option maxRecDepth 20000 in
theorem gX1_valueAt_X1_wordAt : GoodIn wsX1_valueAt (wsV RX1 19 RX1 yX1_wordAt wsX1_wordAt) := goodIn_app (goodIn_of _ (by decide +kernel)) ggX1_valueAt_X1_wordAt
theorem dX1_valueAt_0 : decode cX1_valueAt 0 = .ok (.aload_n 0, 1) := by decide +kernel
theorem dX1_valueAt_1 : decode cX1_valueAt 1 = .ok (.iload_n 1, 1) := by decide +kernel
theorem dX1_valueAt_2 : decode cX1_valueAt 2 = .ok (.invokevirtual 19, 3) := by decide +kernel
theorem dX1_valueAt_5 : decode cX1_valueAt 5 = .ok (.i2l, 1) := by decide +kernel
theorem dX1_valueAt_6 : decode cX1_valueAt 6 = .ok (.ldc2_w 23, 3) := by decide +kernel
theorem dX1_valueAt_9 : decode cX1_valueAt 9 = .ok (.land, 1) := by decide +kernel
theorem dX1_valueAt_10 : decode cX1_valueAt 10 = .ok (.lreturn, 1) := by decide +kernel
theorem dX1_put_0 : decode cX1_put 0 = .ok (.iload_n 1, 1) := by decide +kernel
theorem dX1_put_1 : decode cX1_put 1 = .ok (.ifCond .lt 20, 3) := by decide +kernel
theorem dX1_put_4 : decode cX1_put 4 = .ok (.iload_n 1, 1) := by decide +kernel
theorem dX1_put_5 : decode cX1_put 5 = .ok (.aload_n 0, 1) := by decide +kernel
theorem dX1_put_6 : decode cX1_put 6 = .ok (.getfield 9, 3) := by decide +kernel
theorem dX1_put_9 : decode cX1_put 9 = .ok (.arraylength, 1) := by decide +kernel
theorem dX1_put_10 : decode cX1_put 10 = .ok (.if_icmp .ge 11, 3) := by decide +kernel
theorem dX1_put_13 : decode cX1_put 13 = .ok (.aload_n 0, 1) := by decide +kernel
theorem dX1_put_14 : decode cX1_put 14 = .ok (.getfield 9, 3) := by decide +kernel
theorem dX1_put_17 : decode cX1_put 17 = .ok (.iload_n 1, 1) := by decide +kernel
theorem dX1_put_18 : decode cX1_put 18 = .ok (.lload_n 2, 1) := by decide +kernel
theorem dX1_put_19 : decode cX1_put 19 = .ok (.l2i, 1) := by decide +kernel
theorem dX1_put_20 : decode cX1_put 20 = .ok (.iastore, 1) := by decide +kernel
theorem dX1_put_21 : decode cX1_put 21 = .ok (.return_, 1) := by decide +kernel
set_option maxRecDepth 20000 in
theorem ggX1_settle_X1_put : GoodIn wsX1_settle wsX1_put := goodIn_r _ [11, 2, 16, 17] (by decide +kernel) (by decide +kernel)
set_option maxRecDepth 20000 in
theorem gX1_settle_X1_put : GoodIn wsX1_settle (wsV RX1 25 RX1 yX1_put wsX1_put) := goodIn_app (goodIn_of _ (by decide +kernel)) ggX1_settle_X1_put
set_option maxRecDepth 20000 in
theorem ggX1_settle_X1_wordAt : GoodIn wsX1_settle wsX1_wordAt := goodIn_r _ [15, 2, 16, 17] (by decide +kernel) (by decide +kernel)
set_option maxRecDepth 20000 in
theorem gX1_settle_X1_wordAt : GoodIn wsX1_settle (wsV RX1 19 RX1 yX1_wordAt wsX1_wordAt) := goodIn_app (goodIn_of _ (by decide +kernel)) ggX1_settle_X1_wordAt
theorem dX1_settle_0 : decode cX1_settle 0 = .ok (.iload_n 1, 1) := by decide +kernel
theorem dX1_settle_1 : decode cX1_settle 1 = .ok (.istore_n 2, 1) := by decide +kernel
theorem dX1_settle_2 : decode cX1_settle 2 = .ok (.iload_n 2, 1) := by decide +kernel
theorem dX1_settle_3 : decode cX1_settle 3 = .ok (.aload_n 0, 1) := by decide +kernel
theorem dX1_settle_4 : decode cX1_settle 4 = .ok (.getfield 15, 3) := by decide +kernel
theorem dX1_settle_7 : decode cX1_settle 7 = .ok (.if_icmp .ge 15, 3) := by decide +kernel
theorem dX1_settle_10 : decode cX1_settle 10 = .ok (.aload_n 0, 1) := by decide +kernel
theorem dX1_settle_11 : decode cX1_settle 11 = .ok (.iload_n 2, 1) := by decide +kernel
theorem dX1_settle_12 : decode cX1_settle 12 = .ok (.lconst 0, 1) := by decide +kernel
theorem dX1_settle_13 : decode cX1_settle 13 = .ok (.invokevirtual 25, 3) := by decide +kernel
theorem dX1_settle_16 : decode cX1_settle 16 = .ok (.iinc 2 1, 3) := by decide +kernel
theorem dX1_settle_19 : decode cX1_settle 19 = .ok (.goto (-17), 3) := by decide +kernel
theorem dX1_settle_22 : decode cX1_settle 22 = .ok (.aload_n 0, 1) := by decide +kernel
theorem dX1_settle_23 : decode cX1_settle 23 = .ok (.iload_n 1, 1) := by decide +kernel
theorem dX1_settle_24 : decode cX1_settle 24 = .ok (.aload_n 0, 1) := by decide +kernel
theorem dX1_settle_25 : decode cX1_settle 25 = .ok (.getfield 9, 3) := by decide +kernel
theorem dX1_settle_28 : decode cX1_settle 28 = .ok (.arraylength, 1) := by decide +kernel
theorem dX1_settle_29 : decode cX1_settle 29 = .ok (.invokestatic 29, 3) := by decide +kernel
theorem dX1_settle_32 : decode cX1_settle 32 = .ok (.putfield 15, 3) := by decide +kernel
theorem dX1_settle_35 : decode cX1_settle 35 = .ok (.aload_n 0, 1) := by decide +kernel
theorem dX1_settle_36 : decode cX1_settle 36 = .ok (.getfield 15, 3) := by decide +kernel
theorem dX1_settle_39 : decode cX1_settle 39 = .ok (.ifCond .le 29, 3) := by decide +kernel
theorem dX1_settle_42 : decode cX1_settle 42 = .ok (.aload_n 0, 1) := by decide +kernel
theorem dX1_settle_43 : decode cX1_settle 43 = .ok (.aload_n 0, 1) := by decide +kernel
theorem dX1_settle_44 : decode cX1_settle 44 = .ok (.getfield 15, 3) := by decide +kernel
theorem dX1_settle_47 : decode cX1_settle 47 = .ok (.iconst 1, 1) := by decide +kernel
theorem dX1_settle_48 : decode cX1_settle 48 = .ok (.isub, 1) := by decide +kernel
theorem dX1_settle_49 : decode cX1_settle 49 = .ok (.invokevirtual 19, 3) := by decide +kernel
theorem dX1_settle_52 : decode cX1_settle 52 = .ok (.ifCond .ne 16, 3) := by decide +kernel
theorem dX1_settle_55 : decode cX1_settle 55 = .ok (.aload_n 0, 1) := by decide +kernel
theorem dX1_settle_56 : decode cX1_settle 56 = .ok (.dup, 1) := by decide +kernel
theorem dX1_settle_57 : decode cX1_settle 57 = .ok (.getfield 15, 3) := by decide +kernel
theorem dX1_settle_60 : decode cX1_settle 60 = .ok (.iconst 1, 1) := by decide +kernel
theorem dX1_settle_61 : decode cX1_settle 61 = .ok (.isub, 1) := by decide +kernel
theorem dX1_settle_62 : decode cX1_settle 62 = .ok (.putfield 15, 3) := by decide +kernel
theorem dX1_settle_65 : decode cX1_settle 65 = .ok (.goto (-30), 3) := by decide +kernel
theorem dX1_settle_68 : decode cX1_settle 68 = .ok (.return_, 1) := by decide +kernel
theorem dX1_isZero_0 : decode cX1_isZero 0 = .ok (.aload_n 0, 1) := by decide +kernel
theorem dX1_isZero_1 : decode cX1_isZero 1 = .ok (.getfield 15, 3) := by decide +kernel
theorem dX1_isZero_4 : decode cX1_isZero 4 = .ok (.ifCond .ne 7, 3) := by decide +kernel
end
section
theorem dX1_isZero_7 : decode cX1_isZero 7 = .ok (.iconst 1, 1) := by decide +kernel
theorem dX1_isZero_8 : decode cX1_isZero 8 = .ok (.goto 4, 3) := by decide +kernel
theorem dX1_isZero_11 : decode cX1_isZero 11 = .ok (.iconst 0, 1) := by decide +kernel
theorem dX1_isZero_12 : decode cX1_isZero 12 = .ok (.ireturn, 1) := by decide +kernel
set_option maxRecDepth 20000 in
theorem ggX1_length_X1_isZero : GoodIn wsX1_length wsX1_isZero := goodIn_r _ [6, 1, 12, 13] (by decide +kernel) (by decide +kernel)
set_option maxRecDepth 20000 in
theorem gX1_length_X1_isZero : GoodIn wsX1_length (wsV RX1 35 RX1 yX1_isZero wsX1_isZero) := goodIn_app (goodIn_of _ (by decide +kernel)) ggX1_length_X1_isZero
set_option maxRecDepth 20000 in
theorem ggX1_length_X1_wordAt : GoodIn wsX1_length wsX1_wordAt := goodIn_r _ [10, 11, 12, 13] (by decide +kernel) (by decide +kernel)
set_option maxRecDepth 20000 in
theorem gX1_length_X1_wordAt : GoodIn wsX1_length (wsV RX1 19 RX1 yX1_wordAt wsX1_wordAt) := goodIn_app (goodIn_of _ (by decide +kernel)) ggX1_length_X1_wordAt
theorem dX1_length_0 : decode cX1_length 0 = .ok (.aload_n 0, 1) := by decide +kernel
theorem dX1_length_1 : decode cX1_length 1 = .ok (.invokevirtual 35, 3) := by decide +kernel
theorem dX1_length_4 : decode cX1_length 4 = .ok (.ifCond .eq 5, 3) := by decide +kernel
theorem dX1_length_7 : decode cX1_length 7 = .ok (.iconst 0, 1) := by decide +kernel
theorem dX1_length_8 : decode cX1_length 8 = .ok (.ireturn, 1) := by decide +kernel
theorem dX1_length_9 : decode cX1_length 9 = .ok (.aload_n 0, 1) := by decide +kernel
theorem dX1_length_10 : decode cX1_length 10 = .ok (.aload_n 0, 1) := by decide +kernel
theorem dX1_length_11 : decode cX1_length 11 = .ok (.getfield 15, 3) := by decide +kernel
theorem dX1_length_14 : decode cX1_length 14 = .ok (.iconst 1, 1) := by decide +kernel
theorem dX1_length_15 : decode cX1_length 15 = .ok (.isub, 1) := by decide +kernel
theorem dX1_length_16 : decode cX1_length 16 = .ok (.invokevirtual 19, 3) := by decide +kernel
theorem dX1_length_19 : decode cX1_length 19 = .ok (.istore_n 1, 1) := by decide +kernel
theorem dX1_length_20 : decode cX1_length 20 = .ok (.iconst 0, 1) := by decide +kernel
theorem dX1_length_21 : decode cX1_length 21 = .ok (.istore_n 2, 1) := by decide +kernel
theorem dX1_length_22 : decode cX1_length 22 = .ok (.iload_n 2, 1) := by decide +kernel
theorem dX1_length_23 : decode cX1_length 23 = .ok (.bipush 32, 2) := by decide +kernel
theorem dX1_length_25 : decode cX1_length 25 = .ok (.if_icmp .ge 15, 3) := by decide +kernel
theorem dX1_length_28 : decode cX1_length 28 = .ok (.iload_n 1, 1) := by decide +kernel
theorem dX1_length_29 : decode cX1_length 29 = .ok (.iload_n 2, 1) := by decide +kernel
theorem dX1_length_30 : decode cX1_length 30 = .ok (.iushr, 1) := by decide +kernel
theorem dX1_length_31 : decode cX1_length 31 = .ok (.ifCond .eq 9, 3) := by decide +kernel
theorem dX1_length_34 : decode cX1_length 34 = .ok (.iinc 2 1, 3) := by decide +kernel
theorem dX1_length_37 : decode cX1_length 37 = .ok (.goto (-15), 3) := by decide +kernel
theorem dX1_length_40 : decode cX1_length 40 = .ok (.bipush 32, 2) := by decide +kernel
theorem dX1_length_42 : decode cX1_length 42 = .ok (.aload_n 0, 1) := by decide +kernel
theorem dX1_length_43 : decode cX1_length 43 = .ok (.getfield 15, 3) := by decide +kernel
theorem dX1_length_46 : decode cX1_length 46 = .ok (.iconst 1, 1) := by decide +kernel
theorem dX1_length_47 : decode cX1_length 47 = .ok (.isub, 1) := by decide +kernel
theorem dX1_length_48 : decode cX1_length 48 = .ok (.imul, 1) := by decide +kernel
theorem dX1_length_49 : decode cX1_length 49 = .ok (.iload_n 2, 1) := by decide +kernel
theorem dX1_length_50 : decode cX1_length 50 = .ok (.iadd, 1) := by decide +kernel
theorem dX1_length_51 : decode cX1_length 51 = .ok (.ireturn, 1) := by decide +kernel
set_option maxRecDepth 20000 in
theorem ggX1_order_X1_valueAt : GoodIn wsX1_order wsX1_valueAt := goodIn_r _ [10, 11, 12, 13, 14, 9, 15, 16, 17, 18] (by decide +kernel) (by decide +kernel)
set_option maxRecDepth 20000 in
theorem gX1_order_X1_valueAt : GoodIn wsX1_order (wsV RX1 42 RX1 yX1_valueAt wsX1_valueAt) := goodIn_app (goodIn_of _ (by decide +kernel)) ggX1_order_X1_valueAt
theorem dX1_order_0 : decode cX1_order 0 = .ok (.aload_n 0, 1) := by decide +kernel
theorem dX1_order_1 : decode cX1_order 1 = .ok (.getfield 15, 3) := by decide +kernel
theorem dX1_order_4 : decode cX1_order 4 = .ok (.aload_n 1, 1) := by decide +kernel
theorem dX1_order_5 : decode cX1_order 5 = .ok (.getfield 15, 3) := by decide +kernel
theorem dX1_order_8 : decode cX1_order 8 = .ok (.invokestatic 39, 3) := by decide +kernel
theorem dX1_order_11 : decode cX1_order 11 = .ok (.iconst 1, 1) := by decide +kernel
theorem dX1_order_12 : decode cX1_order 12 = .ok (.isub, 1) := by decide +kernel
theorem dX1_order_13 : decode cX1_order 13 = .ok (.istore_n 2, 1) := by decide +kernel
theorem dX1_order_14 : decode cX1_order 14 = .ok (.iload_n 2, 1) := by decide +kernel
theorem dX1_order_15 : decode cX1_order 15 = .ok (.ifCond .lt 39, 3) := by decide +kernel
theorem dX1_order_18 : decode cX1_order 18 = .ok (.aload_n 0, 1) := by decide +kernel
theorem dX1_order_19 : decode cX1_order 19 = .ok (.iload_n 2, 1) := by decide +kernel
theorem dX1_order_20 : decode cX1_order 20 = .ok (.invokevirtual 42, 3) := by decide +kernel
theorem dX1_order_23 : decode cX1_order 23 = .ok (.aload_n 1, 1) := by decide +kernel
theorem dX1_order_24 : decode cX1_order 24 = .ok (.iload_n 2, 1) := by decide +kernel
theorem dX1_order_25 : decode cX1_order 25 = .ok (.invokevirtual 42, 3) := by decide +kernel
theorem dX1_order_28 : decode cX1_order 28 = .ok (.lsub, 1) := by decide +kernel
theorem dX1_order_29 : decode cX1_order 29 = .ok (.lstore_n 3, 1) := by decide +kernel
theorem dX1_order_30 : decode cX1_order 30 = .ok (.lload_n 3, 1) := by decide +kernel
theorem dX1_order_31 : decode cX1_order 31 = .ok (.lconst 0, 1) := by decide +kernel
theorem dX1_order_32 : decode cX1_order 32 = .ok (.lcmp, 1) := by decide +kernel
theorem dX1_order_33 : decode cX1_order 33 = .ok (.ifCond .eq 15, 3) := by decide +kernel
theorem dX1_order_36 : decode cX1_order 36 = .ok (.lload_n 3, 1) := by decide +kernel
theorem dX1_order_37 : decode cX1_order 37 = .ok (.lconst 0, 1) := by decide +kernel
theorem dX1_order_38 : decode cX1_order 38 = .ok (.lcmp, 1) := by decide +kernel
theorem dX1_order_39 : decode cX1_order 39 = .ok (.ifCond .ge 7, 3) := by decide +kernel
theorem dX1_order_42 : decode cX1_order 42 = .ok (.iconst (-1), 1) := by decide +kernel
theorem dX1_order_43 : decode cX1_order 43 = .ok (.goto 4, 3) := by decide +kernel
theorem dX1_order_46 : decode cX1_order 46 = .ok (.iconst 1, 1) := by decide +kernel
theorem dX1_order_47 : decode cX1_order 47 = .ok (.ireturn, 1) := by decide +kernel
theorem dX1_order_48 : decode cX1_order 48 = .ok (.iinc 2 (-1), 3) := by decide +kernel
theorem dX1_order_51 : decode cX1_order 51 = .ok (.goto (-37), 3) := by decide +kernel
theorem dX1_order_54 : decode cX1_order 54 = .ok (.iconst 0, 1) := by decide +kernel
theorem dX1_order_55 : decode cX1_order 55 = .ok (.ireturn, 1) := by decide +kernel
set_option maxRecDepth 20000 in
theorem ggX1_become_X1_put : GoodIn wsX1_become wsX1_put := goodIn_r _ [5, 6, 20, 21] (by decide +kernel) (by decide +kernel)
set_option maxRecDepth 20000 in
theorem gX1_become_X1_put : GoodIn wsX1_become (wsV RX1 25 RX1 yX1_put wsX1_put) := goodIn_app (goodIn_of _ (by decide +kernel)) ggX1_become_X1_put
set_option maxRecDepth 20000 in
theorem ggX1_become_X1_settle : GoodIn wsX1_become wsX1_settle := goodIn_r _ [10, 11, 6, 12, 13, 14, 15, 1, 2, 3, 4, 5, 16, 17, 18, 19, 20, 21] (by decide +kernel) (by decide +kernel)
set_option maxRecDepth 20000 in
theorem gX1_become_X1_settle : GoodIn wsX1_become (wsV RX1 46 RX1 yX1_settle wsX1_settle) := goodIn_app (goodIn_of _ (by decide +kernel)) ggX1_become_X1_settle
theorem dX1_become_0 : decode cX1_become 0 = .ok (.aload_n 0, 1) := by decide +kernel
theorem dX1_become_1 : decode cX1_become 1 = .ok (.iconst 0, 1) := by decide +kernel
theorem dX1_become_2 : decode cX1_become 2 = .ok (.lload_n 1, 1) := by decide +kernel
theorem dX1_become_3 : decode cX1_become 3 = .ok (.invokevirtual 25, 3) := by decide +kernel
theorem dX1_become_6 : decode cX1_become 6 = .ok (.aload_n 0, 1) := by decide +kernel
theorem dX1_become_7 : decode cX1_become 7 = .ok (.iconst 1, 1) := by decide +kernel
theorem dX1_become_8 : decode cX1_become 8 = .ok (.lload_n 1, 1) := by decide +kernel
theorem dX1_become_9 : decode cX1_become 9 = .ok (.bipush 32, 2) := by decide +kernel
theorem dX1_become_11 : decode cX1_become 11 = .ok (.lushr, 1) := by decide +kernel
theorem dX1_become_12 : decode cX1_become 12 = .ok (.invokevirtual 25, 3) := by decide +kernel
theorem dX1_become_15 : decode cX1_become 15 = .ok (.aload_n 0, 1) := by decide +kernel
theorem dX1_become_16 : decode cX1_become 16 = .ok (.iconst 2, 1) := by decide +kernel
theorem dX1_become_17 : decode cX1_become 17 = .ok (.invokevirtual 46, 3) := by decide +kernel
theorem dX1_become_20 : decode cX1_become 20 = .ok (.return_, 1) := by decide +kernel
set_option maxRecDepth 20000 in
theorem ggX1_copy_X1_wordAt : GoodIn wsX1_copy wsX1_wordAt := goodIn_r _ [6, 7, 20, 21] (by decide +kernel) (by decide +kernel)
set_option maxRecDepth 20000 in
theorem gX1_copy_X1_wordAt : GoodIn wsX1_copy (wsV RX1 19 RX1 yX1_wordAt wsX1_wordAt) := goodIn_app (goodIn_of _ (by decide +kernel)) ggX1_copy_X1_wordAt
set_option maxRecDepth 20000 in
theorem ggX1_copy_X1_put : GoodIn wsX1_copy wsX1_put := goodIn_r _ [11, 7, 20, 21] (by decide +kernel) (by decide +kernel)
set_option maxRecDepth 20000 in
theorem gX1_copy_X1_put : GoodIn wsX1_copy (wsV RX1 25 RX1 yX1_put wsX1_put) := goodIn_app (goodIn_of _ (by decide +kernel)) ggX1_copy_X1_put
set_option maxRecDepth 20000 in
theorem ggX1_copy_X1_settle : GoodIn wsX1_copy wsX1_settle := goodIn_r _ [15, 1, 7, 16, 17, 18, 19, 8, 9, 10, 5, 11, 2, 3, 4, 6, 20, 21] (by decide +kernel) (by decide +kernel)
set_option maxRecDepth 20000 in
theorem gX1_copy_X1_settle : GoodIn wsX1_copy (wsV RX1 46 RX1 yX1_settle wsX1_settle) := goodIn_app (goodIn_of _ (by decide +kernel)) ggX1_copy_X1_settle
theorem dX1_copy_0 : decode cX1_copy 0 = .ok (.iconst 0, 1) := by decide +kernel
theorem dX1_copy_1 : decode cX1_copy 1 = .ok (.istore_n 2, 1) := by decide +kernel
theorem dX1_copy_2 : decode cX1_copy 2 = .ok (.iload_n 2, 1) := by decide +kernel
theorem dX1_copy_3 : decode cX1_copy 3 = .ok (.aload_n 1, 1) := by decide +kernel
theorem dX1_copy_4 : decode cX1_copy 4 = .ok (.getfield 15, 3) := by decide +kernel
theorem dX1_copy_7 : decode cX1_copy 7 = .ok (.if_icmp .ge 20, 3) := by decide +kernel
theorem dX1_copy_10 : decode cX1_copy 10 = .ok (.aload_n 0, 1) := by decide +kernel
theorem dX1_copy_11 : decode cX1_copy 11 = .ok (.iload_n 2, 1) := by decide +kernel
theorem dX1_copy_12 : decode cX1_copy 12 = .ok (.aload_n 1, 1) := by decide +kernel
theorem dX1_copy_13 : decode cX1_copy 13 = .ok (.iload_n 2, 1) := by decide +kernel
theorem dX1_copy_14 : decode cX1_copy 14 = .ok (.invokevirtual 19, 3) := by decide +kernel
theorem dX1_copy_17 : decode cX1_copy 17 = .ok (.i2l, 1) := by decide +kernel
theorem dX1_copy_18 : decode cX1_copy 18 = .ok (.invokevirtual 25, 3) := by decide +kernel
theorem dX1_copy_21 : decode cX1_copy 21 = .ok (.iinc 2 1, 3) := by decide +kernel
theorem dX1_copy_24 : decode cX1_copy 24 = .ok (.goto (-22), 3) := by decide +kernel
theorem dX1_copy_27 : decode cX1_copy 27 = .ok (.aload_n 0, 1) := by decide +kernel
theorem dX1_copy_28 : decode cX1_copy 28 = .ok (.aload_n 1, 1) := by decide +kernel
theorem dX1_copy_29 : decode cX1_copy 29 = .ok (.getfield 15, 3) := by decide +kernel
theorem dX1_copy_32 : decode cX1_copy 32 = .ok (.invokevirtual 46, 3) := by decide +kernel
theorem dX1_copy_35 : decode cX1_copy 35 = .ok (.return_, 1) := by decide +kernel
set_option maxRecDepth 20000 in
theorem ggX1_becomeMultiple_X1_valueAt : GoodIn wsX1_becomeMultiple wsX1_valueAt := goodIn_r _ [6, 7, 8, 9, 10, 5, 11, 12, 25, 26] (by decide +kernel) (by decide +kernel)
set_option maxRecDepth 20000 in
theorem gX1_becomeMultiple_X1_valueAt : GoodIn wsX1_becomeMultiple (wsV RX1 42 RX1 yX1_valueAt wsX1_valueAt) := goodIn_app (goodIn_of _ (by decide +kernel)) ggX1_becomeMultiple_X1_valueAt
set_option maxRecDepth 20000 in
theorem ggX1_becomeMultiple_X1_put : GoodIn wsX1_becomeMultiple wsX1_put := goodIn_r _ [16, 12, 25, 26] (by decide +kernel) (by decide +kernel)
set_option maxRecDepth 20000 in
theorem gX1_becomeMultiple_X1_put : GoodIn wsX1_becomeMultiple (wsV RX1 25 RX1 yX1_put wsX1_put) := goodIn_app (goodIn_of _ (by decide +kernel)) ggX1_becomeMultiple_X1_put
set_option maxRecDepth 20000 in
theorem ggX1_becomeMultiple_X1_settle : GoodIn wsX1_becomeMultiple wsX1_settle := goodIn_r _ [20, 1, 12, 21, 22, 23, 24, 13, 14, 15, 5, 16, 8, 9, 10, 11, 25, 26] (by decide +kernel) (by decide +kernel)
set_option maxRecDepth 20000 in
theorem gX1_becomeMultiple_X1_settle : GoodIn wsX1_becomeMultiple (wsV RX1 46 RX1 yX1_settle wsX1_settle) := goodIn_app (goodIn_of _ (by decide +kernel)) ggX1_becomeMultiple_X1_settle
theorem dX1_becomeMultiple_0 : decode cX1_becomeMultiple 0 = .ok (.iload_n 3, 1) := by decide +kernel
theorem dX1_becomeMultiple_1 : decode cX1_becomeMultiple 1 = .ok (.i2l, 1) := by decide +kernel
theorem dX1_becomeMultiple_2 : decode cX1_becomeMultiple 2 = .ok (.lstore 4, 2) := by decide +kernel
theorem dX1_becomeMultiple_4 : decode cX1_becomeMultiple 4 = .ok (.iconst 0, 1) := by decide +kernel
theorem dX1_becomeMultiple_5 : decode cX1_becomeMultiple 5 = .ok (.istore 6, 2) := by decide +kernel
theorem dX1_becomeMultiple_7 : decode cX1_becomeMultiple 7 = .ok (.iload 6, 2) := by decide +kernel
theorem dX1_becomeMultiple_9 : decode cX1_becomeMultiple 9 = .ok (.aload_n 1, 1) := by decide +kernel
theorem dX1_becomeMultiple_10 : decode cX1_becomeMultiple 10 = .ok (.getfield 15, 3) := by decide +kernel
theorem dX1_becomeMultiple_13 : decode cX1_becomeMultiple 13 = .ok (.if_icmp .ge 38, 3) := by decide +kernel
theorem dX1_becomeMultiple_16 : decode cX1_becomeMultiple 16 = .ok (.lload 4, 2) := by decide +kernel
theorem dX1_becomeMultiple_18 : decode cX1_becomeMultiple 18 = .ok (.aload_n 1, 1) := by decide +kernel
theorem dX1_becomeMultiple_19 : decode cX1_becomeMultiple 19 = .ok (.iload 6, 2) := by decide +kernel
theorem dX1_becomeMultiple_21 : decode cX1_becomeMultiple 21 = .ok (.invokevirtual 42, 3) := by decide +kernel
theorem dX1_becomeMultiple_24 : decode cX1_becomeMultiple 24 = .ok (.iload_n 2, 1) := by decide +kernel
theorem dX1_becomeMultiple_25 : decode cX1_becomeMultiple 25 = .ok (.i2l, 1) := by decide +kernel
theorem dX1_becomeMultiple_26 : decode cX1_becomeMultiple 26 = .ok (.lmul, 1) := by decide +kernel
theorem dX1_becomeMultiple_27 : decode cX1_becomeMultiple 27 = .ok (.ladd, 1) := by decide +kernel
theorem dX1_becomeMultiple_28 : decode cX1_becomeMultiple 28 = .ok (.lstore 4, 2) := by decide +kernel
theorem dX1_becomeMultiple_30 : decode cX1_becomeMultiple 30 = .ok (.aload_n 0, 1) := by decide +kernel
theorem dX1_becomeMultiple_31 : decode cX1_becomeMultiple 31 = .ok (.iload 6, 2) := by decide +kernel
theorem dX1_becomeMultiple_33 : decode cX1_becomeMultiple 33 = .ok (.lload 4, 2) := by decide +kernel
theorem dX1_becomeMultiple_35 : decode cX1_becomeMultiple 35 = .ok (.invokevirtual 25, 3) := by decide +kernel
theorem dX1_becomeMultiple_38 : decode cX1_becomeMultiple 38 = .ok (.lload 4, 2) := by decide +kernel
theorem dX1_becomeMultiple_40 : decode cX1_becomeMultiple 40 = .ok (.bipush 32, 2) := by decide +kernel
theorem dX1_becomeMultiple_42 : decode cX1_becomeMultiple 42 = .ok (.lushr, 1) := by decide +kernel
theorem dX1_becomeMultiple_43 : decode cX1_becomeMultiple 43 = .ok (.lstore 4, 2) := by decide +kernel
theorem dX1_becomeMultiple_45 : decode cX1_becomeMultiple 45 = .ok (.iinc 6 1, 3) := by decide +kernel
theorem dX1_becomeMultiple_48 : decode cX1_becomeMultiple 48 = .ok (.goto (-41), 3) := by decide +kernel
theorem dX1_becomeMultiple_51 : decode cX1_becomeMultiple 51 = .ok (.aload_n 0, 1) := by decide +kernel
theorem dX1_becomeMultiple_52 : decode cX1_becomeMultiple 52 = .ok (.aload_n 1, 1) := by decide +kernel
theorem dX1_becomeMultiple_53 : decode cX1_becomeMultiple 53 = .ok (.getfield 15, 3) := by decide +kernel
theorem dX1_becomeMultiple_56 : decode cX1_becomeMultiple 56 = .ok (.lload 4, 2) := by decide +kernel
theorem dX1_becomeMultiple_58 : decode cX1_becomeMultiple 58 = .ok (.invokevirtual 25, 3) := by decide +kernel
theorem dX1_becomeMultiple_61 : decode cX1_becomeMultiple 61 = .ok (.aload_n 0, 1) := by decide +kernel
theorem dX1_becomeMultiple_62 : decode cX1_becomeMultiple 62 = .ok (.aload_n 1, 1) := by decide +kernel
theorem dX1_becomeMultiple_63 : decode cX1_becomeMultiple 63 = .ok (.getfield 15, 3) := by decide +kernel
theorem dX1_becomeMultiple_66 : decode cX1_becomeMultiple 66 = .ok (.iconst 1, 1) := by decide +kernel
theorem dX1_becomeMultiple_67 : decode cX1_becomeMultiple 67 = .ok (.iadd, 1) := by decide +kernel
theorem dX1_becomeMultiple_68 : decode cX1_becomeMultiple 68 = .ok (.invokevirtual 46, 3) := by decide +kernel
theorem dX1_becomeMultiple_71 : decode cX1_becomeMultiple 71 = .ok (.return_, 1) := by decide +kernel
set_option maxRecDepth 20000 in
theorem ggX1_becomeSum_X1_valueAt : GoodIn wsX1_becomeSum wsX1_valueAt := goodIn_r _ [10, 11, 12, 13, 14, 9, 15, 16, 28, 29] (by decide +kernel) (by decide +kernel)
set_option maxRecDepth 20000 in
theorem gX1_becomeSum_X1_valueAt : GoodIn wsX1_becomeSum (wsV RX1 42 RX1 yX1_valueAt wsX1_valueAt) := goodIn_app (goodIn_of _ (by decide +kernel)) ggX1_becomeSum_X1_valueAt
set_option maxRecDepth 20000 in
theorem ggX1_becomeSum_X1_put : GoodIn wsX1_becomeSum wsX1_put := goodIn_r _ [20, 16, 28, 29] (by decide +kernel) (by decide +kernel)
set_option maxRecDepth 20000 in
theorem gX1_becomeSum_X1_put : GoodIn wsX1_becomeSum (wsV RX1 25 RX1 yX1_put wsX1_put) := goodIn_app (goodIn_of _ (by decide +kernel)) ggX1_becomeSum_X1_put
set_option maxRecDepth 20000 in
theorem ggX1_becomeSum_X1_settle : GoodIn wsX1_becomeSum wsX1_settle := goodIn_r _ [24, 1, 16, 25, 26, 4, 27, 17, 18, 19, 9, 20, 12, 13, 14, 15, 28, 29] (by decide +kernel) (by decide +kernel)
set_option maxRecDepth 20000 in
theorem gX1_becomeSum_X1_settle : GoodIn wsX1_becomeSum (wsV RX1 46 RX1 yX1_settle wsX1_settle) := goodIn_app (goodIn_of _ (by decide +kernel)) ggX1_becomeSum_X1_settle
theorem dX1_becomeSum_0 : decode cX1_becomeSum 0 = .ok (.aload_n 1, 1) := by decide +kernel
theorem dX1_becomeSum_1 : decode cX1_becomeSum 1 = .ok (.getfield 15, 3) := by decide +kernel
theorem dX1_becomeSum_4 : decode cX1_becomeSum 4 = .ok (.aload_n 2, 1) := by decide +kernel
theorem dX1_becomeSum_5 : decode cX1_becomeSum 5 = .ok (.getfield 15, 3) := by decide +kernel
theorem dX1_becomeSum_8 : decode cX1_becomeSum 8 = .ok (.invokestatic 39, 3) := by decide +kernel
theorem dX1_becomeSum_11 : decode cX1_becomeSum 11 = .ok (.istore_n 3, 1) := by decide +kernel
theorem dX1_becomeSum_12 : decode cX1_becomeSum 12 = .ok (.lconst 0, 1) := by decide +kernel
theorem dX1_becomeSum_13 : decode cX1_becomeSum 13 = .ok (.lstore 4, 2) := by decide +kernel
theorem dX1_becomeSum_15 : decode cX1_becomeSum 15 = .ok (.iconst 0, 1) := by decide +kernel
theorem dX1_becomeSum_16 : decode cX1_becomeSum 16 = .ok (.istore 6, 2) := by decide +kernel
theorem dX1_becomeSum_18 : decode cX1_becomeSum 18 = .ok (.iload 6, 2) := by decide +kernel
theorem dX1_becomeSum_20 : decode cX1_becomeSum 20 = .ok (.iload_n 3, 1) := by decide +kernel
theorem dX1_becomeSum_21 : decode cX1_becomeSum 21 = .ok (.if_icmp .ge 42, 3) := by decide +kernel
theorem dX1_becomeSum_24 : decode cX1_becomeSum 24 = .ok (.lload 4, 2) := by decide +kernel
theorem dX1_becomeSum_26 : decode cX1_becomeSum 26 = .ok (.aload_n 1, 1) := by decide +kernel
theorem dX1_becomeSum_27 : decode cX1_becomeSum 27 = .ok (.iload 6, 2) := by decide +kernel
theorem dX1_becomeSum_29 : decode cX1_becomeSum 29 = .ok (.invokevirtual 42, 3) := by decide +kernel
theorem dX1_becomeSum_32 : decode cX1_becomeSum 32 = .ok (.aload_n 2, 1) := by decide +kernel
theorem dX1_becomeSum_33 : decode cX1_becomeSum 33 = .ok (.iload 6, 2) := by decide +kernel
theorem dX1_becomeSum_35 : decode cX1_becomeSum 35 = .ok (.invokevirtual 42, 3) := by decide +kernel
theorem dX1_becomeSum_38 : decode cX1_becomeSum 38 = .ok (.ladd, 1) := by decide +kernel
theorem dX1_becomeSum_39 : decode cX1_becomeSum 39 = .ok (.ladd, 1) := by decide +kernel
theorem dX1_becomeSum_40 : decode cX1_becomeSum 40 = .ok (.lstore 4, 2) := by decide +kernel
theorem dX1_becomeSum_42 : decode cX1_becomeSum 42 = .ok (.aload_n 0, 1) := by decide +kernel
theorem dX1_becomeSum_43 : decode cX1_becomeSum 43 = .ok (.iload 6, 2) := by decide +kernel
theorem dX1_becomeSum_45 : decode cX1_becomeSum 45 = .ok (.lload 4, 2) := by decide +kernel
theorem dX1_becomeSum_47 : decode cX1_becomeSum 47 = .ok (.invokevirtual 25, 3) := by decide +kernel
theorem dX1_becomeSum_50 : decode cX1_becomeSum 50 = .ok (.lload 4, 2) := by decide +kernel
theorem dX1_becomeSum_52 : decode cX1_becomeSum 52 = .ok (.bipush 32, 2) := by decide +kernel
theorem dX1_becomeSum_54 : decode cX1_becomeSum 54 = .ok (.lushr, 1) := by decide +kernel
theorem dX1_becomeSum_55 : decode cX1_becomeSum 55 = .ok (.lstore 4, 2) := by decide +kernel
theorem dX1_becomeSum_57 : decode cX1_becomeSum 57 = .ok (.iinc 6 1, 3) := by decide +kernel
theorem dX1_becomeSum_60 : decode cX1_becomeSum 60 = .ok (.goto (-42), 3) := by decide +kernel
theorem dX1_becomeSum_63 : decode cX1_becomeSum 63 = .ok (.aload_n 0, 1) := by decide +kernel
theorem dX1_becomeSum_64 : decode cX1_becomeSum 64 = .ok (.iload_n 3, 1) := by decide +kernel
theorem dX1_becomeSum_65 : decode cX1_becomeSum 65 = .ok (.lload 4, 2) := by decide +kernel
theorem dX1_becomeSum_67 : decode cX1_becomeSum 67 = .ok (.invokevirtual 25, 3) := by decide +kernel
theorem dX1_becomeSum_70 : decode cX1_becomeSum 70 = .ok (.aload_n 0, 1) := by decide +kernel
theorem dX1_becomeSum_71 : decode cX1_becomeSum 71 = .ok (.iload_n 3, 1) := by decide +kernel
theorem dX1_becomeSum_72 : decode cX1_becomeSum 72 = .ok (.iconst 1, 1) := by decide +kernel
theorem dX1_becomeSum_73 : decode cX1_becomeSum 73 = .ok (.iadd, 1) := by decide +kernel
theorem dX1_becomeSum_74 : decode cX1_becomeSum 74 = .ok (.invokevirtual 46, 3) := by decide +kernel
theorem dX1_becomeSum_77 : decode cX1_becomeSum 77 = .ok (.return_, 1) := by decide +kernel
set_option maxRecDepth 20000 in
theorem ggX1_becomeDifference_X1_valueAt : GoodIn wsX1_becomeDifference wsX1_valueAt := goodIn_r _ [6, 7, 8, 9, 10, 5, 11, 12, 25, 26] (by decide +kernel) (by decide +kernel)
set_option maxRecDepth 20000 in
theorem gX1_becomeDifference_X1_valueAt : GoodIn wsX1_becomeDifference (wsV RX1 42 RX1 yX1_valueAt wsX1_valueAt) := goodIn_app (goodIn_of _ (by decide +kernel)) ggX1_becomeDifference_X1_valueAt
set_option maxRecDepth 20000 in
theorem ggX1_becomeDifference_X1_put : GoodIn wsX1_becomeDifference wsX1_put := goodIn_r _ [16, 12, 25, 26] (by decide +kernel) (by decide +kernel)
set_option maxRecDepth 20000 in
theorem gX1_becomeDifference_X1_put : GoodIn wsX1_becomeDifference (wsV RX1 25 RX1 yX1_put wsX1_put) := goodIn_app (goodIn_of _ (by decide +kernel)) ggX1_becomeDifference_X1_put
set_option maxRecDepth 20000 in
theorem ggX1_becomeDifference_X1_settle : GoodIn wsX1_becomeDifference wsX1_settle := goodIn_r _ [20, 1, 12, 21, 22, 23, 24, 13, 14, 15, 5, 16, 8, 9, 10, 11, 25, 26] (by decide +kernel) (by decide +kernel)
set_option maxRecDepth 20000 in
theorem gX1_becomeDifference_X1_settle : GoodIn wsX1_becomeDifference (wsV RX1 46 RX1 yX1_settle wsX1_settle) := goodIn_app (goodIn_of _ (by decide +kernel)) ggX1_becomeDifference_X1_settle
theorem dX1_becomeDifference_0 : decode cX1_becomeDifference 0 = .ok (.lconst 0, 1) := by decide +kernel
theorem dX1_becomeDifference_1 : decode cX1_becomeDifference 1 = .ok (.lstore_n 3, 1) := by decide +kernel
theorem dX1_becomeDifference_2 : decode cX1_becomeDifference 2 = .ok (.iconst 0, 1) := by decide +kernel
theorem dX1_becomeDifference_3 : decode cX1_becomeDifference 3 = .ok (.istore 5, 2) := by decide +kernel
theorem dX1_becomeDifference_5 : decode cX1_becomeDifference 5 = .ok (.iload 5, 2) := by decide +kernel
theorem dX1_becomeDifference_7 : decode cX1_becomeDifference 7 = .ok (.aload_n 1, 1) := by decide +kernel
theorem dX1_becomeDifference_8 : decode cX1_becomeDifference 8 = .ok (.getfield 15, 3) := by decide +kernel
theorem dX1_becomeDifference_11 : decode cX1_becomeDifference 11 = .ok (.if_icmp .ge 37, 3) := by decide +kernel
theorem dX1_becomeDifference_14 : decode cX1_becomeDifference 14 = .ok (.lload_n 3, 1) := by decide +kernel
theorem dX1_becomeDifference_15 : decode cX1_becomeDifference 15 = .ok (.aload_n 1, 1) := by decide +kernel
theorem dX1_becomeDifference_16 : decode cX1_becomeDifference 16 = .ok (.iload 5, 2) := by decide +kernel
theorem dX1_becomeDifference_18 : decode cX1_becomeDifference 18 = .ok (.invokevirtual 42, 3) := by decide +kernel
theorem dX1_becomeDifference_21 : decode cX1_becomeDifference 21 = .ok (.aload_n 2, 1) := by decide +kernel
theorem dX1_becomeDifference_22 : decode cX1_becomeDifference 22 = .ok (.iload 5, 2) := by decide +kernel
theorem dX1_becomeDifference_24 : decode cX1_becomeDifference 24 = .ok (.invokevirtual 42, 3) := by decide +kernel
theorem dX1_becomeDifference_27 : decode cX1_becomeDifference 27 = .ok (.lsub, 1) := by decide +kernel
theorem dX1_becomeDifference_28 : decode cX1_becomeDifference 28 = .ok (.ladd, 1) := by decide +kernel
theorem dX1_becomeDifference_29 : decode cX1_becomeDifference 29 = .ok (.lstore_n 3, 1) := by decide +kernel
theorem dX1_becomeDifference_30 : decode cX1_becomeDifference 30 = .ok (.aload_n 0, 1) := by decide +kernel
theorem dX1_becomeDifference_31 : decode cX1_becomeDifference 31 = .ok (.iload 5, 2) := by decide +kernel
theorem dX1_becomeDifference_33 : decode cX1_becomeDifference 33 = .ok (.lload_n 3, 1) := by decide +kernel
theorem dX1_becomeDifference_34 : decode cX1_becomeDifference 34 = .ok (.invokevirtual 25, 3) := by decide +kernel
theorem dX1_becomeDifference_37 : decode cX1_becomeDifference 37 = .ok (.lload_n 3, 1) := by decide +kernel
theorem dX1_becomeDifference_38 : decode cX1_becomeDifference 38 = .ok (.bipush 32, 2) := by decide +kernel
theorem dX1_becomeDifference_40 : decode cX1_becomeDifference 40 = .ok (.lshr, 1) := by decide +kernel
theorem dX1_becomeDifference_41 : decode cX1_becomeDifference 41 = .ok (.lstore_n 3, 1) := by decide +kernel
theorem dX1_becomeDifference_42 : decode cX1_becomeDifference 42 = .ok (.iinc 5 1, 3) := by decide +kernel
theorem dX1_becomeDifference_45 : decode cX1_becomeDifference 45 = .ok (.goto (-40), 3) := by decide +kernel
theorem dX1_becomeDifference_48 : decode cX1_becomeDifference 48 = .ok (.aload_n 0, 1) := by decide +kernel
theorem dX1_becomeDifference_49 : decode cX1_becomeDifference 49 = .ok (.aload_n 1, 1) := by decide +kernel
theorem dX1_becomeDifference_50 : decode cX1_becomeDifference 50 = .ok (.getfield 15, 3) := by decide +kernel
theorem dX1_becomeDifference_53 : decode cX1_becomeDifference 53 = .ok (.invokevirtual 46, 3) := by decide +kernel
theorem dX1_becomeDifference_56 : decode cX1_becomeDifference 56 = .ok (.return_, 1) := by decide +kernel
set_option maxRecDepth 20000 in
theorem ggX1_becomeProduct_X1_settle : GoodIn wsX1_becomeProduct wsX1_settle := goodIn_r _ [6, 1, 7, 8, 9, 10, 11, 12, 13, 14, 5, 15, 16, 17, 18, 19, 29, 30] (by decide +kernel) (by decide +kernel)
set_option maxRecDepth 20000 in
theorem gX1_becomeProduct_X1_settle : GoodIn wsX1_becomeProduct (wsV RX1 46 RX1 yX1_settle wsX1_settle) := goodIn_app (goodIn_of _ (by decide +kernel)) ggX1_becomeProduct_X1_settle
set_option maxRecDepth 20000 in
theorem ggX1_becomeProduct_X1_valueAt : GoodIn wsX1_becomeProduct wsX1_valueAt := goodIn_r _ [23, 24, 16, 17, 18, 5, 19, 7, 29, 30] (by decide +kernel) (by decide +kernel)
set_option maxRecDepth 20000 in
theorem gX1_becomeProduct_X1_valueAt : GoodIn wsX1_becomeProduct (wsV RX1 42 RX1 yX1_valueAt wsX1_valueAt) := goodIn_app (goodIn_of _ (by decide +kernel)) ggX1_becomeProduct_X1_valueAt
set_option maxRecDepth 20000 in
theorem ggX1_becomeProduct_X1_addMultiple : GoodIn wsX1_becomeProduct wsX1_addMultiple := goodIn_r _ [28, 1, 20, 21, 22, 5, 23, 24, 16, 17, 18, 19, 7, 12, 13, 14, 15, 29, 30] (by decide +kernel) (by decide +kernel)
set_option maxRecDepth 20000 in
theorem gX1_becomeProduct_X1_addMultiple : GoodIn wsX1_becomeProduct (wsV RX1 50 RX1 yX1_addMultiple wsX1_addMultiple) := goodIn_app (goodIn_of _ (by decide +kernel)) ggX1_becomeProduct_X1_addMultiple
theorem dX1_becomeProduct_0 : decode cX1_becomeProduct 0 = .ok (.aload_n 0, 1) := by decide +kernel
theorem dX1_becomeProduct_1 : decode cX1_becomeProduct 1 = .ok (.iconst 0, 1) := by decide +kernel
theorem dX1_becomeProduct_2 : decode cX1_becomeProduct 2 = .ok (.invokevirtual 46, 3) := by decide +kernel
theorem dX1_becomeProduct_5 : decode cX1_becomeProduct 5 = .ok (.iconst 0, 1) := by decide +kernel
theorem dX1_becomeProduct_6 : decode cX1_becomeProduct 6 = .ok (.istore_n 3, 1) := by decide +kernel
theorem dX1_becomeProduct_7 : decode cX1_becomeProduct 7 = .ok (.iload_n 3, 1) := by decide +kernel
theorem dX1_becomeProduct_8 : decode cX1_becomeProduct 8 = .ok (.aload_n 1, 1) := by decide +kernel
theorem dX1_becomeProduct_9 : decode cX1_becomeProduct 9 = .ok (.getfield 15, 3) := by decide +kernel
theorem dX1_becomeProduct_12 : decode cX1_becomeProduct 12 = .ok (.if_icmp .ge 20, 3) := by decide +kernel
theorem dX1_becomeProduct_15 : decode cX1_becomeProduct 15 = .ok (.aload_n 0, 1) := by decide +kernel
theorem dX1_becomeProduct_16 : decode cX1_becomeProduct 16 = .ok (.aload_n 2, 1) := by decide +kernel
theorem dX1_becomeProduct_17 : decode cX1_becomeProduct 17 = .ok (.aload_n 1, 1) := by decide +kernel
theorem dX1_becomeProduct_18 : decode cX1_becomeProduct 18 = .ok (.iload_n 3, 1) := by decide +kernel
theorem dX1_becomeProduct_19 : decode cX1_becomeProduct 19 = .ok (.invokevirtual 42, 3) := by decide +kernel
theorem dX1_becomeProduct_22 : decode cX1_becomeProduct 22 = .ok (.iload_n 3, 1) := by decide +kernel
theorem dX1_becomeProduct_23 : decode cX1_becomeProduct 23 = .ok (.invokevirtual 50, 3) := by decide +kernel
theorem dX1_becomeProduct_26 : decode cX1_becomeProduct 26 = .ok (.iinc 3 1, 3) := by decide +kernel
theorem dX1_becomeProduct_29 : decode cX1_becomeProduct 29 = .ok (.goto (-22), 3) := by decide +kernel
theorem dX1_becomeProduct_32 : decode cX1_becomeProduct 32 = .ok (.aload_n 0, 1) := by decide +kernel
theorem dX1_becomeProduct_33 : decode cX1_becomeProduct 33 = .ok (.aload_n 1, 1) := by decide +kernel
theorem dX1_becomeProduct_34 : decode cX1_becomeProduct 34 = .ok (.getfield 15, 3) := by decide +kernel
theorem dX1_becomeProduct_37 : decode cX1_becomeProduct 37 = .ok (.aload_n 2, 1) := by decide +kernel
theorem dX1_becomeProduct_38 : decode cX1_becomeProduct 38 = .ok (.getfield 15, 3) := by decide +kernel
theorem dX1_becomeProduct_41 : decode cX1_becomeProduct 41 = .ok (.iadd, 1) := by decide +kernel
theorem dX1_becomeProduct_42 : decode cX1_becomeProduct 42 = .ok (.invokevirtual 46, 3) := by decide +kernel
theorem dX1_becomeProduct_45 : decode cX1_becomeProduct 45 = .ok (.return_, 1) := by decide +kernel
set_option maxRecDepth 20000 in
theorem ggX1_addMultiple_X1_valueAt : GoodIn wsX1_addMultiple wsX1_valueAt := goodIn_r _ [6, 7, 8, 9, 10, 5, 11, 12, 17, 18] (by decide +kernel) (by decide +kernel)
set_option maxRecDepth 20000 in
theorem gX1_addMultiple_X1_valueAt : GoodIn wsX1_addMultiple (wsV RX1 42 RX1 yX1_valueAt wsX1_valueAt) := goodIn_app (goodIn_of _ (by decide +kernel)) ggX1_addMultiple_X1_valueAt
set_option maxRecDepth 20000 in
theorem ggX1_addMultiple_X1_put : GoodIn wsX1_addMultiple wsX1_put := goodIn_r _ [16, 12, 17, 18] (by decide +kernel) (by decide +kernel)
set_option maxRecDepth 20000 in
theorem gX1_addMultiple_X1_put : GoodIn wsX1_addMultiple (wsV RX1 25 RX1 yX1_put wsX1_put) := goodIn_app (goodIn_of _ (by decide +kernel)) ggX1_addMultiple_X1_put
theorem dX1_addMultiple_0 : decode cX1_addMultiple 0 = .ok (.lconst 0, 1) := by decide +kernel
theorem dX1_addMultiple_1 : decode cX1_addMultiple 1 = .ok (.lstore 5, 2) := by decide +kernel
theorem dX1_addMultiple_3 : decode cX1_addMultiple 3 = .ok (.iconst 0, 1) := by decide +kernel
theorem dX1_addMultiple_4 : decode cX1_addMultiple 4 = .ok (.istore 7, 2) := by decide +kernel
theorem dX1_addMultiple_6 : decode cX1_addMultiple 6 = .ok (.iload 7, 2) := by decide +kernel
theorem dX1_addMultiple_8 : decode cX1_addMultiple 8 = .ok (.aload_n 1, 1) := by decide +kernel
theorem dX1_addMultiple_9 : decode cX1_addMultiple 9 = .ok (.getfield 15, 3) := by decide +kernel
theorem dX1_addMultiple_12 : decode cX1_addMultiple 12 = .ok (.if_icmp .ge 50, 3) := by decide +kernel
theorem dX1_addMultiple_15 : decode cX1_addMultiple 15 = .ok (.lload 5, 2) := by decide +kernel
theorem dX1_addMultiple_17 : decode cX1_addMultiple 17 = .ok (.aload_n 1, 1) := by decide +kernel
theorem dX1_addMultiple_18 : decode cX1_addMultiple 18 = .ok (.iload 7, 2) := by decide +kernel
theorem dX1_addMultiple_20 : decode cX1_addMultiple 20 = .ok (.invokevirtual 42, 3) := by decide +kernel
theorem dX1_addMultiple_23 : decode cX1_addMultiple 23 = .ok (.lload_n 2, 1) := by decide +kernel
theorem dX1_addMultiple_24 : decode cX1_addMultiple 24 = .ok (.lmul, 1) := by decide +kernel
theorem dX1_addMultiple_25 : decode cX1_addMultiple 25 = .ok (.aload_n 0, 1) := by decide +kernel
theorem dX1_addMultiple_26 : decode cX1_addMultiple 26 = .ok (.iload 4, 2) := by decide +kernel
theorem dX1_addMultiple_28 : decode cX1_addMultiple 28 = .ok (.iload 7, 2) := by decide +kernel
theorem dX1_addMultiple_30 : decode cX1_addMultiple 30 = .ok (.iadd, 1) := by decide +kernel
theorem dX1_addMultiple_31 : decode cX1_addMultiple 31 = .ok (.invokevirtual 42, 3) := by decide +kernel
theorem dX1_addMultiple_34 : decode cX1_addMultiple 34 = .ok (.ladd, 1) := by decide +kernel
theorem dX1_addMultiple_35 : decode cX1_addMultiple 35 = .ok (.ladd, 1) := by decide +kernel
theorem dX1_addMultiple_36 : decode cX1_addMultiple 36 = .ok (.lstore 5, 2) := by decide +kernel
theorem dX1_addMultiple_38 : decode cX1_addMultiple 38 = .ok (.aload_n 0, 1) := by decide +kernel
theorem dX1_addMultiple_39 : decode cX1_addMultiple 39 = .ok (.iload 4, 2) := by decide +kernel
theorem dX1_addMultiple_41 : decode cX1_addMultiple 41 = .ok (.iload 7, 2) := by decide +kernel
theorem dX1_addMultiple_43 : decode cX1_addMultiple 43 = .ok (.iadd, 1) := by decide +kernel
theorem dX1_addMultiple_44 : decode cX1_addMultiple 44 = .ok (.lload 5, 2) := by decide +kernel
theorem dX1_addMultiple_46 : decode cX1_addMultiple 46 = .ok (.invokevirtual 25, 3) := by decide +kernel
theorem dX1_addMultiple_49 : decode cX1_addMultiple 49 = .ok (.lload 5, 2) := by decide +kernel
theorem dX1_addMultiple_51 : decode cX1_addMultiple 51 = .ok (.bipush 32, 2) := by decide +kernel
theorem dX1_addMultiple_53 : decode cX1_addMultiple 53 = .ok (.lushr, 1) := by decide +kernel
theorem dX1_addMultiple_54 : decode cX1_addMultiple 54 = .ok (.lstore 5, 2) := by decide +kernel
theorem dX1_addMultiple_56 : decode cX1_addMultiple 56 = .ok (.iinc 7 1, 3) := by decide +kernel
theorem dX1_addMultiple_59 : decode cX1_addMultiple 59 = .ok (.goto (-53), 3) := by decide +kernel
theorem dX1_addMultiple_62 : decode cX1_addMultiple 62 = .ok (.aload_n 0, 1) := by decide +kernel
theorem dX1_addMultiple_63 : decode cX1_addMultiple 63 = .ok (.iload 4, 2) := by decide +kernel
theorem dX1_addMultiple_65 : decode cX1_addMultiple 65 = .ok (.aload_n 1, 1) := by decide +kernel
theorem dX1_addMultiple_66 : decode cX1_addMultiple 66 = .ok (.getfield 15, 3) := by decide +kernel
theorem dX1_addMultiple_69 : decode cX1_addMultiple 69 = .ok (.iadd, 1) := by decide +kernel
theorem dX1_addMultiple_70 : decode cX1_addMultiple 70 = .ok (.lload 5, 2) := by decide +kernel
theorem dX1_addMultiple_72 : decode cX1_addMultiple 72 = .ok (.invokevirtual 25, 3) := by decide +kernel
theorem dX1_addMultiple_75 : decode cX1_addMultiple 75 = .ok (.return_, 1) := by decide +kernel
set_option maxRecDepth 20000 in
theorem ggX1_shiftUp_X1_valueAt : GoodIn wsX1_shiftUp wsX1_valueAt := goodIn_r _ [6, 7, 8, 9, 10, 5, 11, 12, 25, 26] (by decide +kernel) (by decide +kernel)
set_option maxRecDepth 20000 in
theorem gX1_shiftUp_X1_valueAt : GoodIn wsX1_shiftUp (wsV RX1 42 RX1 yX1_valueAt wsX1_valueAt) := goodIn_app (goodIn_of _ (by decide +kernel)) ggX1_shiftUp_X1_valueAt
set_option maxRecDepth 20000 in
theorem ggX1_shiftUp_X1_put : GoodIn wsX1_shiftUp wsX1_put := goodIn_r _ [16, 12, 25, 26] (by decide +kernel) (by decide +kernel)
set_option maxRecDepth 20000 in
theorem gX1_shiftUp_X1_put : GoodIn wsX1_shiftUp (wsV RX1 25 RX1 yX1_put wsX1_put) := goodIn_app (goodIn_of _ (by decide +kernel)) ggX1_shiftUp_X1_put
set_option maxRecDepth 20000 in
theorem ggX1_shiftUp_X1_settle : GoodIn wsX1_shiftUp wsX1_settle := goodIn_r _ [20, 1, 12, 21, 22, 23, 24, 13, 14, 15, 5, 16, 8, 9, 10, 11, 25, 26] (by decide +kernel) (by decide +kernel)
set_option maxRecDepth 20000 in
theorem gX1_shiftUp_X1_settle : GoodIn wsX1_shiftUp (wsV RX1 46 RX1 yX1_settle wsX1_settle) := goodIn_app (goodIn_of _ (by decide +kernel)) ggX1_shiftUp_X1_settle
theorem dX1_shiftUp_0 : decode cX1_shiftUp 0 = .ok (.iload_n 1, 1) := by decide +kernel
theorem dX1_shiftUp_1 : decode cX1_shiftUp 1 = .ok (.iconst 5, 1) := by decide +kernel
theorem dX1_shiftUp_2 : decode cX1_shiftUp 2 = .ok (.ishr, 1) := by decide +kernel
theorem dX1_shiftUp_3 : decode cX1_shiftUp 3 = .ok (.istore_n 2, 1) := by decide +kernel
theorem dX1_shiftUp_4 : decode cX1_shiftUp 4 = .ok (.iload_n 1, 1) := by decide +kernel
theorem dX1_shiftUp_5 : decode cX1_shiftUp 5 = .ok (.bipush 31, 2) := by decide +kernel
theorem dX1_shiftUp_7 : decode cX1_shiftUp 7 = .ok (.iand, 1) := by decide +kernel
theorem dX1_shiftUp_8 : decode cX1_shiftUp 8 = .ok (.istore_n 3, 1) := by decide +kernel
theorem dX1_shiftUp_9 : decode cX1_shiftUp 9 = .ok (.aload_n 0, 1) := by decide +kernel
theorem dX1_shiftUp_10 : decode cX1_shiftUp 10 = .ok (.getfield 15, 3) := by decide +kernel
theorem dX1_shiftUp_13 : decode cX1_shiftUp 13 = .ok (.iload_n 2, 1) := by decide +kernel
theorem dX1_shiftUp_14 : decode cX1_shiftUp 14 = .ok (.iadd, 1) := by decide +kernel
theorem dX1_shiftUp_15 : decode cX1_shiftUp 15 = .ok (.iconst 1, 1) := by decide +kernel
theorem dX1_shiftUp_16 : decode cX1_shiftUp 16 = .ok (.iadd, 1) := by decide +kernel
theorem dX1_shiftUp_17 : decode cX1_shiftUp 17 = .ok (.istore 4, 2) := by decide +kernel
theorem dX1_shiftUp_19 : decode cX1_shiftUp 19 = .ok (.iload 4, 2) := by decide +kernel
theorem dX1_shiftUp_21 : decode cX1_shiftUp 21 = .ok (.iconst 1, 1) := by decide +kernel
theorem dX1_shiftUp_22 : decode cX1_shiftUp 22 = .ok (.isub, 1) := by decide +kernel
theorem dX1_shiftUp_23 : decode cX1_shiftUp 23 = .ok (.istore 5, 2) := by decide +kernel
theorem dX1_shiftUp_25 : decode cX1_shiftUp 25 = .ok (.iload 5, 2) := by decide +kernel
theorem dX1_shiftUp_27 : decode cX1_shiftUp 27 = .ok (.ifCond .lt 46, 3) := by decide +kernel
theorem dX1_shiftUp_30 : decode cX1_shiftUp 30 = .ok (.aload_n 0, 1) := by decide +kernel
theorem dX1_shiftUp_31 : decode cX1_shiftUp 31 = .ok (.iload 5, 2) := by decide +kernel
theorem dX1_shiftUp_33 : decode cX1_shiftUp 33 = .ok (.iload_n 2, 1) := by decide +kernel
theorem dX1_shiftUp_34 : decode cX1_shiftUp 34 = .ok (.isub, 1) := by decide +kernel
theorem dX1_shiftUp_35 : decode cX1_shiftUp 35 = .ok (.invokevirtual 42, 3) := by decide +kernel
theorem dX1_shiftUp_38 : decode cX1_shiftUp 38 = .ok (.bipush 32, 2) := by decide +kernel
theorem dX1_shiftUp_40 : decode cX1_shiftUp 40 = .ok (.lshl, 1) := by decide +kernel
theorem dX1_shiftUp_41 : decode cX1_shiftUp 41 = .ok (.aload_n 0, 1) := by decide +kernel
theorem dX1_shiftUp_42 : decode cX1_shiftUp 42 = .ok (.iload 5, 2) := by decide +kernel
theorem dX1_shiftUp_44 : decode cX1_shiftUp 44 = .ok (.iload_n 2, 1) := by decide +kernel
theorem dX1_shiftUp_45 : decode cX1_shiftUp 45 = .ok (.isub, 1) := by decide +kernel
end
section
theorem dX1_shiftUp_46 : decode cX1_shiftUp 46 = .ok (.iconst 1, 1) := by decide +kernel
theorem dX1_shiftUp_47 : decode cX1_shiftUp 47 = .ok (.isub, 1) := by decide +kernel
theorem dX1_shiftUp_48 : decode cX1_shiftUp 48 = .ok (.invokevirtual 42, 3) := by decide +kernel
theorem dX1_shiftUp_51 : decode cX1_shiftUp 51 = .ok (.lor, 1) := by decide +kernel
theorem dX1_shiftUp_52 : decode cX1_shiftUp 52 = .ok (.lstore 6, 2) := by decide +kernel
theorem dX1_shiftUp_54 : decode cX1_shiftUp 54 = .ok (.aload_n 0, 1) := by decide +kernel
theorem dX1_shiftUp_55 : decode cX1_shiftUp 55 = .ok (.iload 5, 2) := by decide +kernel
theorem dX1_shiftUp_57 : decode cX1_shiftUp 57 = .ok (.lload 6, 2) := by decide +kernel
theorem dX1_shiftUp_59 : decode cX1_shiftUp 59 = .ok (.bipush 32, 2) := by decide +kernel
theorem dX1_shiftUp_61 : decode cX1_shiftUp 61 = .ok (.iload_n 3, 1) := by decide +kernel
theorem dX1_shiftUp_62 : decode cX1_shiftUp 62 = .ok (.isub, 1) := by decide +kernel
theorem dX1_shiftUp_63 : decode cX1_shiftUp 63 = .ok (.lushr, 1) := by decide +kernel
theorem dX1_shiftUp_64 : decode cX1_shiftUp 64 = .ok (.invokevirtual 25, 3) := by decide +kernel
theorem dX1_shiftUp_67 : decode cX1_shiftUp 67 = .ok (.iinc 5 (-1), 3) := by decide +kernel
theorem dX1_shiftUp_70 : decode cX1_shiftUp 70 = .ok (.goto (-45), 3) := by decide +kernel
theorem dX1_shiftUp_73 : decode cX1_shiftUp 73 = .ok (.aload_n 0, 1) := by decide +kernel
theorem dX1_shiftUp_74 : decode cX1_shiftUp 74 = .ok (.iload 4, 2) := by decide +kernel
theorem dX1_shiftUp_76 : decode cX1_shiftUp 76 = .ok (.invokevirtual 46, 3) := by decide +kernel
theorem dX1_shiftUp_79 : decode cX1_shiftUp 79 = .ok (.return_, 1) := by decide +kernel
set_option maxRecDepth 20000 in
theorem ggX2_init_X0_init : GoodIn wsX2_init wsX0_init := goodIn_r _ [16, 17, 2, 3, 18, 10, 11, 19, 20, 21, 22, 23, 24, 25, 26, 27, 28, 29, 30, 6, 31, 32, 33, 34, 35, 36, 37, 38, 39, 40, 41, 42, 43, 44, 45, 46, 47, 48, 49, 50, 51, 52, 53, 63, 64, 55, 56, 57, 58] (by decide +kernel) (by decide +kernel)
set_option maxRecDepth 20000 in
theorem gX2_init_X0_init : GoodIn wsX2_init (wsX0_init) := ggX2_init_X0_init
set_option maxRecDepth 20000 in
theorem ggX2_init_X1_init : GoodIn wsX2_init wsX1_init := goodIn_r _ [23, 24, 2, 3, 25, 26, 27, 63, 64] (by decide +kernel) (by decide +kernel)
set_option maxRecDepth 20000 in
theorem gX2_init_X1_init : GoodIn wsX2_init (wsX1_init) := ggX2_init_X1_init
theorem dX2_init_0 : decode cX2_init 0 = .ok (.aload_n 0, 1) := by decide +kernel
theorem dX2_init_1 : decode cX2_init 1 = .ok (.invokespecial 3, 3) := by decide +kernel
theorem dX2_init_4 : decode cX2_init 4 = .ok (.aload_n 0, 1) := by decide +kernel
theorem dX2_init_5 : decode cX2_init 5 = .ok (.new 9, 3) := by decide +kernel
theorem dX2_init_8 : decode cX2_init 8 = .ok (.dup, 1) := by decide +kernel
theorem dX2_init_9 : decode cX2_init 9 = .ok (.invokespecial 11, 3) := by decide +kernel
theorem dX2_init_12 : decode cX2_init 12 = .ok (.putfield 12, 3) := by decide +kernel
theorem dX2_init_15 : decode cX2_init 15 = .ok (.aload_n 0, 1) := by decide +kernel
theorem dX2_init_16 : decode cX2_init 16 = .ok (.new 9, 3) := by decide +kernel
theorem dX2_init_19 : decode cX2_init 19 = .ok (.dup, 1) := by decide +kernel
theorem dX2_init_20 : decode cX2_init 20 = .ok (.invokespecial 11, 3) := by decide +kernel
theorem dX2_init_23 : decode cX2_init 23 = .ok (.putfield 16, 3) := by decide +kernel
theorem dX2_init_26 : decode cX2_init 26 = .ok (.aload_n 0, 1) := by decide +kernel
theorem dX2_init_27 : decode cX2_init 27 = .ok (.new 19, 3) := by decide +kernel
theorem dX2_init_30 : decode cX2_init 30 = .ok (.dup, 1) := by decide +kernel
theorem dX2_init_31 : decode cX2_init 31 = .ok (.invokespecial 21, 3) := by decide +kernel
theorem dX2_init_34 : decode cX2_init 34 = .ok (.putfield 22, 3) := by decide +kernel
theorem dX2_init_37 : decode cX2_init 37 = .ok (.aload_n 0, 1) := by decide +kernel
theorem dX2_init_38 : decode cX2_init 38 = .ok (.new 19, 3) := by decide +kernel
theorem dX2_init_41 : decode cX2_init 41 = .ok (.dup, 1) := by decide +kernel
theorem dX2_init_42 : decode cX2_init 42 = .ok (.invokespecial 21, 3) := by decide +kernel
theorem dX2_init_45 : decode cX2_init 45 = .ok (.putfield 26, 3) := by decide +kernel
theorem dX2_init_48 : decode cX2_init 48 = .ok (.return_, 1) := by decide +kernel
set_option maxRecDepth 20000 in
theorem ggX2_begin_X2_numberOf : GoodIn wsX2_begin wsX2_numberOf := goodIn_r _ [5, 6, 7, 40, 41, 42, 43] (by decide +kernel) (by decide +kernel)
set_option maxRecDepth 20000 in
theorem gX2_begin_X2_numberOf : GoodIn wsX2_begin (wsV RX2 29 RX2 yX2_numberOf wsX2_numberOf) := goodIn_app (goodIn_of _ (by decide +kernel)) ggX2_begin_X2_numberOf
set_option maxRecDepth 20000 in
theorem ggX2_begin_X0_restart : GoodIn wsX2_begin wsX0_restart := goodIn_r _ [12, 13, 14, 15, 16, 17, 18, 19, 20, 21, 22, 23, 24, 25, 26, 27, 28, 29, 30, 31, 32, 33, 34, 35, 36, 37, 38, 39, 44, 45, 46, 47, 48, 49] (by decide +kernel) (by decide +kernel)
set_option maxRecDepth 20000 in
theorem gX2_begin_X0_restart : GoodIn wsX2_begin (wsV RX2 33 RX0 yX0_restart wsX0_restart) := goodIn_app (goodIn_of _ (by decide +kernel)) ggX2_begin_X0_restart
theorem dX2_begin_0 : decode cX2_begin 0 = .ok (.aload_n 0, 1) := by decide +kernel
theorem dX2_begin_1 : decode cX2_begin 1 = .ok (.iload_n 1, 1) := by decide +kernel
theorem dX2_begin_2 : decode cX2_begin 2 = .ok (.invokevirtual 29, 3) := by decide +kernel
theorem dX2_begin_5 : decode cX2_begin 5 = .ok (.astore_n 2, 1) := by decide +kernel
theorem dX2_begin_6 : decode cX2_begin 6 = .ok (.aload_n 2, 1) := by decide +kernel
theorem dX2_begin_7 : decode cX2_begin 7 = .ok (.ifnonnull 5, 3) := by decide +kernel
theorem dX2_begin_10 : decode cX2_begin 10 = .ok (.iconst (-1), 1) := by decide +kernel
theorem dX2_begin_11 : decode cX2_begin 11 = .ok (.ireturn, 1) := by decide +kernel
theorem dX2_begin_12 : decode cX2_begin 12 = .ok (.aload_n 2, 1) := by decide +kernel
theorem dX2_begin_13 : decode cX2_begin 13 = .ok (.invokevirtual 33, 3) := by decide +kernel
theorem dX2_begin_16 : decode cX2_begin 16 = .ok (.iconst 0, 1) := by decide +kernel
theorem dX2_begin_17 : decode cX2_begin 17 = .ok (.ireturn, 1) := by decide +kernel
set_option maxRecDepth 20000 in
theorem ggX2_digit_X2_partOf : GoodIn wsX2_digit wsX2_partOf := goodIn_r _ [7, 8, 9, 10, 11, 12, 6, 13, 14, 15, 64, 65, 66, 67, 60, 61, 62, 63] (by decide +kernel) (by decide +kernel)
set_option maxRecDepth 20000 in
theorem gX2_digit_X2_partOf : GoodIn wsX2_digit (wsV RX2 36 RX2 yX2_partOf wsX2_partOf) := goodIn_app (goodIn_of _ (by decide +kernel)) ggX2_digit_X2_partOf
set_option maxRecDepth 20000 in
theorem ggX2_digit_X1_becomeMultiple : GoodIn wsX2_digit wsX1_becomeMultiple := goodIn_r _ [20, 21, 22, 23, 24, 19, 25, 26, 27, 28, 29, 30, 31, 32, 33, 34, 35, 36, 37, 38, 39, 40, 41, 42, 43, 68, 69] (by decide +kernel) (by decide +kernel)
set_option maxRecDepth 20000 in
theorem gX2_digit_X1_becomeMultiple : GoodIn wsX2_digit (wsV RX2 41 RX1 yX1_becomeMultiple wsX1_becomeMultiple) := goodIn_app (goodIn_of _ (by decide +kernel)) ggX2_digit_X1_becomeMultiple
set_option maxRecDepth 20000 in
theorem ggX2_digit_X2_keepLeftIn : GoodIn wsX2_digit wsX2_keepLeftIn := goodIn_r _ [47, 2, 48, 49, 50, 19, 51, 21, 52, 53, 54, 55, 27, 28, 29, 30, 31, 56, 57, 58, 59, 32, 33, 34, 35, 36, 37, 38, 39, 40, 41, 42, 43, 60, 61, 62, 63, 68, 69] (by decide +kernel) (by decide +kernel)
set_option maxRecDepth 20000 in
theorem gX2_digit_X2_keepLeftIn : GoodIn wsX2_digit (wsV RX2 45 RX2 yX2_keepLeftIn wsX2_keepLeftIn) := goodIn_app (goodIn_of _ (by decide +kernel)) ggX2_digit_X2_keepLeftIn
theorem dX2_digit_0 : decode cX2_digit 0 = .ok (.aload_n 0, 1) := by decide +kernel
theorem dX2_digit_1 : decode cX2_digit 1 = .ok (.iload_n 1, 1) := by decide +kernel
theorem dX2_digit_2 : decode cX2_digit 2 = .ok (.iload_n 2, 1) := by decide +kernel
theorem dX2_digit_3 : decode cX2_digit 3 = .ok (.invokevirtual 36, 3) := by decide +kernel
theorem dX2_digit_6 : decode cX2_digit 6 = .ok (.astore 5, 2) := by decide +kernel
theorem dX2_digit_8 : decode cX2_digit 8 = .ok (.aload 5, 2) := by decide +kernel
theorem dX2_digit_10 : decode cX2_digit 10 = .ok (.ifnull 26, 3) := by decide +kernel
theorem dX2_digit_13 : decode cX2_digit 13 = .ok (.iload_n 3, 1) := by decide +kernel
theorem dX2_digit_14 : decode cX2_digit 14 = .ok (.iconst 1, 1) := by decide +kernel
theorem dX2_digit_15 : decode cX2_digit 15 = .ok (.if_icmp .lt 21, 3) := by decide +kernel
theorem dX2_digit_18 : decode cX2_digit 18 = .ok (.iload_n 3, 1) := by decide +kernel
theorem dX2_digit_19 : decode cX2_digit 19 = .ok (.ldc 40, 2) := by decide +kernel
theorem dX2_digit_21 : decode cX2_digit 21 = .ok (.if_icmp .gt 15, 3) := by decide +kernel
theorem dX2_digit_24 : decode cX2_digit 24 = .ok (.iload 4, 2) := by decide +kernel
theorem dX2_digit_26 : decode cX2_digit 26 = .ok (.ifCond .lt 10, 3) := by decide +kernel
theorem dX2_digit_29 : decode cX2_digit 29 = .ok (.iload 4, 2) := by decide +kernel
theorem dX2_digit_31 : decode cX2_digit 31 = .ok (.ldc 40, 2) := by decide +kernel
theorem dX2_digit_33 : decode cX2_digit 33 = .ok (.if_icmp .le 5, 3) := by decide +kernel
theorem dX2_digit_36 : decode cX2_digit 36 = .ok (.iconst (-1), 1) := by decide +kernel
theorem dX2_digit_37 : decode cX2_digit 37 = .ok (.ireturn, 1) := by decide +kernel
theorem dX2_digit_38 : decode cX2_digit 38 = .ok (.aload_n 0, 1) := by decide +kernel
theorem dX2_digit_39 : decode cX2_digit 39 = .ok (.getfield 22, 3) := by decide +kernel
theorem dX2_digit_42 : decode cX2_digit 42 = .ok (.aload 5, 2) := by decide +kernel
theorem dX2_digit_44 : decode cX2_digit 44 = .ok (.iload_n 3, 1) := by decide +kernel
theorem dX2_digit_45 : decode cX2_digit 45 = .ok (.iload 4, 2) := by decide +kernel
theorem dX2_digit_47 : decode cX2_digit 47 = .ok (.invokevirtual 41, 3) := by decide +kernel
theorem dX2_digit_50 : decode cX2_digit 50 = .ok (.aload_n 0, 1) := by decide +kernel
theorem dX2_digit_51 : decode cX2_digit 51 = .ok (.aload 5, 2) := by decide +kernel
theorem dX2_digit_53 : decode cX2_digit 53 = .ok (.invokevirtual 45, 3) := by decide +kernel
theorem dX2_digit_56 : decode cX2_digit 56 = .ok (.ireturn, 1) := by decide +kernel
set_option maxRecDepth 20000 in
theorem ggX2_set_X2_partOf : GoodIn wsX2_set wsX2_partOf := goodIn_r _ [5, 6, 7, 8, 9, 10, 4, 11, 12, 13, 45, 46, 47, 48, 49, 50, 51, 52] (by decide +kernel) (by decide +kernel)
set_option maxRecDepth 20000 in
theorem gX2_set_X2_partOf : GoodIn wsX2_set (wsV RX2 36 RX2 yX2_partOf wsX2_partOf) := goodIn_app (goodIn_of _ (by decide +kernel)) ggX2_set_X2_partOf
set_option maxRecDepth 20000 in
theorem ggX2_set_X1_become : GoodIn wsX2_set wsX1_become := goodIn_r _ [18, 19, 20, 21, 17, 22, 23, 24, 25, 26, 27, 28, 29, 30, 31, 32, 33, 34, 35, 36, 53, 54] (by decide +kernel) (by decide +kernel)
set_option maxRecDepth 20000 in
theorem gX2_set_X1_become : GoodIn wsX2_set (wsV RX2 49 RX1 yX1_become wsX1_become) := goodIn_app (goodIn_of _ (by decide +kernel)) ggX2_set_X1_become
set_option maxRecDepth 20000 in
theorem ggX2_set_X1_length : GoodIn wsX2_set wsX1_length := goodIn_r _ [40, 28, 41, 42, 43, 17, 44, 33, 34, 35, 36, 23, 53, 54] (by decide +kernel) (by decide +kernel)
set_option maxRecDepth 20000 in
theorem gX2_set_X1_length : GoodIn wsX2_set (wsV RX2 53 RX1 yX1_length wsX1_length) := goodIn_app (goodIn_of _ (by decide +kernel)) ggX2_set_X1_length
theorem dX2_set_0 : decode cX2_set 0 = .ok (.aload_n 0, 1) := by decide +kernel
theorem dX2_set_1 : decode cX2_set 1 = .ok (.iload_n 1, 1) := by decide +kernel
theorem dX2_set_2 : decode cX2_set 2 = .ok (.iload_n 2, 1) := by decide +kernel
theorem dX2_set_3 : decode cX2_set 3 = .ok (.invokevirtual 36, 3) := by decide +kernel
theorem dX2_set_6 : decode cX2_set 6 = .ok (.astore 5, 2) := by decide +kernel
theorem dX2_set_8 : decode cX2_set 8 = .ok (.aload 5, 2) := by decide +kernel
theorem dX2_set_10 : decode cX2_set 10 = .ok (.ifnonnull 5, 3) := by decide +kernel
theorem dX2_set_13 : decode cX2_set 13 = .ok (.iconst (-1), 1) := by decide +kernel
theorem dX2_set_14 : decode cX2_set 14 = .ok (.ireturn, 1) := by decide +kernel
theorem dX2_set_15 : decode cX2_set 15 = .ok (.iload_n 2, 1) := by decide +kernel
theorem dX2_set_16 : decode cX2_set 16 = .ok (.iconst 1, 1) := by decide +kernel
theorem dX2_set_17 : decode cX2_set 17 = .ok (.if_icmp .ne 12, 3) := by decide +kernel
theorem dX2_set_20 : decode cX2_set 20 = .ok (.lload_n 3, 1) := by decide +kernel
theorem dX2_set_21 : decode cX2_set 21 = .ok (.lconst 0, 1) := by decide +kernel
theorem dX2_set_22 : decode cX2_set 22 = .ok (.lcmp, 1) := by decide +kernel
theorem dX2_set_23 : decode cX2_set 23 = .ok (.ifCond .ne 6, 3) := by decide +kernel
theorem dX2_set_26 : decode cX2_set 26 = .ok (.bipush (-3), 2) := by decide +kernel
theorem dX2_set_28 : decode cX2_set 28 = .ok (.ireturn, 1) := by decide +kernel
theorem dX2_set_29 : decode cX2_set 29 = .ok (.aload 5, 2) := by decide +kernel
theorem dX2_set_31 : decode cX2_set 31 = .ok (.lload_n 3, 1) := by decide +kernel
theorem dX2_set_32 : decode cX2_set 32 = .ok (.invokevirtual 49, 3) := by decide +kernel
theorem dX2_set_35 : decode cX2_set 35 = .ok (.aload 5, 2) := by decide +kernel
theorem dX2_set_37 : decode cX2_set 37 = .ok (.invokevirtual 53, 3) := by decide +kernel
theorem dX2_set_40 : decode cX2_set 40 = .ok (.ireturn, 1) := by decide +kernel
set_option maxRecDepth 20000 in
theorem ggX2_scale_X2_numberOf : GoodIn wsX2_scale wsX2_numberOf := goodIn_r _ [7, 8, 9, 14, 15, 16, 17] (by decide +kernel) (by decide +kernel)
set_option maxRecDepth 20000 in
theorem gX2_scale_X2_numberOf : GoodIn wsX2_scale (wsV RX2 29 RX2 yX2_numberOf wsX2_numberOf) := goodIn_app (goodIn_of _ (by decide +kernel)) ggX2_scale_X2_numberOf
theorem dX2_scale_0 : decode cX2_scale 0 = .ok (.aload_n 0, 1) := by decide +kernel
theorem dX2_scale_1 : decode cX2_scale 1 = .ok (.iload_n 1, 1) := by decide +kernel
theorem dX2_scale_2 : decode cX2_scale 2 = .ok (.invokevirtual 29, 3) := by decide +kernel
theorem dX2_scale_5 : decode cX2_scale 5 = .ok (.astore 4, 2) := by decide +kernel
theorem dX2_scale_7 : decode cX2_scale 7 = .ok (.aload 4, 2) := by decide +kernel
theorem dX2_scale_9 : decode cX2_scale 9 = .ok (.ifnull 17, 3) := by decide +kernel
theorem dX2_scale_12 : decode cX2_scale 12 = .ok (.iload_n 3, 1) := by decide +kernel
theorem dX2_scale_13 : decode cX2_scale 13 = .ok (.sipush (-12000), 3) := by decide +kernel
theorem dX2_scale_16 : decode cX2_scale 16 = .ok (.if_icmp .lt 10, 3) := by decide +kernel
theorem dX2_scale_19 : decode cX2_scale 19 = .ok (.iload_n 3, 1) := by decide +kernel
theorem dX2_scale_20 : decode cX2_scale 20 = .ok (.sipush 12000, 3) := by decide +kernel
theorem dX2_scale_23 : decode cX2_scale 23 = .ok (.if_icmp .le 5, 3) := by decide +kernel
theorem dX2_scale_26 : decode cX2_scale 26 = .ok (.iconst (-1), 1) := by decide +kernel
theorem dX2_scale_27 : decode cX2_scale 27 = .ok (.ireturn, 1) := by decide +kernel
theorem dX2_scale_28 : decode cX2_scale 28 = .ok (.aload 4, 2) := by decide +kernel
theorem dX2_scale_30 : decode cX2_scale 30 = .ok (.iload_n 2, 1) := by decide +kernel
theorem dX2_scale_31 : decode cX2_scale 31 = .ok (.putfield 57, 3) := by decide +kernel
theorem dX2_scale_34 : decode cX2_scale 34 = .ok (.aload 4, 2) := by decide +kernel
theorem dX2_scale_36 : decode cX2_scale 36 = .ok (.iload_n 3, 1) := by decide +kernel
theorem dX2_scale_37 : decode cX2_scale 37 = .ok (.putfield 61, 3) := by decide +kernel
theorem dX2_scale_40 : decode cX2_scale 40 = .ok (.iconst 0, 1) := by decide +kernel
theorem dX2_scale_41 : decode cX2_scale 41 = .ok (.ireturn, 1) := by decide +kernel
set_option maxRecDepth 20000 in
theorem ggX2_turn_X2_numberOf : GoodIn wsX2_turn wsX2_numberOf := goodIn_r _ [6, 7, 8, 27, 28, 29, 30] (by decide +kernel) (by decide +kernel)
set_option maxRecDepth 20000 in
theorem gX2_turn_X2_numberOf : GoodIn wsX2_turn (wsV RX2 29 RX2 yX2_numberOf wsX2_numberOf) := goodIn_app (goodIn_of _ (by decide +kernel)) ggX2_turn_X2_numberOf
set_option maxRecDepth 20000 in
theorem ggX2_turn_X1_isZero : GoodIn wsX2_turn wsX1_isZero := goodIn_r _ [13, 14, 31, 32] (by decide +kernel) (by decide +kernel)
set_option maxRecDepth 20000 in
theorem gX2_turn_X1_isZero : GoodIn wsX2_turn (wsV RX2 68 RX1 yX1_isZero wsX1_isZero) := goodIn_app (goodIn_of _ (by decide +kernel)) ggX2_turn_X1_isZero
set_option maxRecDepth 20000 in
theorem ggX2_turn_X0_flip : GoodIn wsX2_turn wsX0_flip := goodIn_r _ [19, 20, 21, 22, 23, 24, 25, 26] (by decide +kernel) (by decide +kernel)
set_option maxRecDepth 20000 in
theorem gX2_turn_X0_flip : GoodIn wsX2_turn (wsV RX2 72 RX0 yX0_flip wsX0_flip) := goodIn_app (goodIn_of _ (by decide +kernel)) ggX2_turn_X0_flip
theorem dX2_turn_0 : decode cX2_turn 0 = .ok (.aload_n 0, 1) := by decide +kernel
theorem dX2_turn_1 : decode cX2_turn 1 = .ok (.iload_n 1, 1) := by decide +kernel
theorem dX2_turn_2 : decode cX2_turn 2 = .ok (.invokevirtual 29, 3) := by decide +kernel
theorem dX2_turn_5 : decode cX2_turn 5 = .ok (.astore_n 2, 1) := by decide +kernel
theorem dX2_turn_6 : decode cX2_turn 6 = .ok (.aload_n 2, 1) := by decide +kernel
theorem dX2_turn_7 : decode cX2_turn 7 = .ok (.ifnonnull 5, 3) := by decide +kernel
theorem dX2_turn_10 : decode cX2_turn 10 = .ok (.iconst (-1), 1) := by decide +kernel
theorem dX2_turn_11 : decode cX2_turn 11 = .ok (.ireturn, 1) := by decide +kernel
theorem dX2_turn_12 : decode cX2_turn 12 = .ok (.aload_n 2, 1) := by decide +kernel
theorem dX2_turn_13 : decode cX2_turn 13 = .ok (.getfield 65, 3) := by decide +kernel
theorem dX2_turn_16 : decode cX2_turn 16 = .ok (.invokevirtual 68, 3) := by decide +kernel
theorem dX2_turn_19 : decode cX2_turn 19 = .ok (.ifCond .eq 6, 3) := by decide +kernel
theorem dX2_turn_22 : decode cX2_turn 22 = .ok (.bipush (-3), 2) := by decide +kernel
theorem dX2_turn_24 : decode cX2_turn 24 = .ok (.ireturn, 1) := by decide +kernel
theorem dX2_turn_25 : decode cX2_turn 25 = .ok (.aload_n 2, 1) := by decide +kernel
theorem dX2_turn_26 : decode cX2_turn 26 = .ok (.invokevirtual 72, 3) := by decide +kernel
theorem dX2_turn_29 : decode cX2_turn 29 = .ok (.iconst 0, 1) := by decide +kernel
theorem dX2_turn_30 : decode cX2_turn 30 = .ok (.ireturn, 1) := by decide +kernel
set_option maxRecDepth 20000 in
theorem ggX2_move_X2_numberOf : GoodIn wsX2_move wsX2_numberOf := goodIn_r _ [10, 3, 1, 66, 67, 68, 69] (by decide +kernel) (by decide +kernel)
set_option maxRecDepth 20000 in
theorem gX2_move_X2_numberOf : GoodIn wsX2_move (wsV RX2 29 RX2 yX2_numberOf wsX2_numberOf) := goodIn_app (goodIn_of _ (by decide +kernel)) ggX2_move_X2_numberOf
set_option maxRecDepth 20000 in
theorem ggX2_move_X1_becomeSum : GoodIn wsX2_move wsX1_becomeSum := goodIn_r _ [15, 16, 17, 18, 19, 20, 21, 22, 23, 14, 24, 25, 26, 27, 28, 29, 30, 31, 32, 33, 34, 35, 36, 37, 38, 39, 40, 41, 74, 75] (by decide +kernel) (by decide +kernel)
set_option maxRecDepth 20000 in
theorem gX2_move_X1_becomeSum : GoodIn wsX2_move (wsV RX2 75 RX1 yX1_becomeSum wsX1_becomeSum) := goodIn_app (goodIn_of _ (by decide +kernel)) ggX2_move_X1_becomeSum
set_option maxRecDepth 20000 in
theorem ggX2_move_X1_order : GoodIn wsX2_move wsX1_order := goodIn_r _ [45, 16, 17, 18, 19, 20, 21, 22, 23, 14, 24, 25, 26, 27, 28, 29, 30, 74, 75] (by decide +kernel) (by decide +kernel)
set_option maxRecDepth 20000 in
theorem gX2_move_X1_order : GoodIn wsX2_move (wsV RX2 79 RX1 yX1_order wsX1_order) := goodIn_app (goodIn_of _ (by decide +kernel)) ggX2_move_X1_order
set_option maxRecDepth 20000 in
theorem ggX2_move_X1_becomeDifference : GoodIn wsX2_move wsX1_becomeDifference := goodIn_r _ [49, 16, 21, 22, 23, 14, 24, 25, 26, 27, 28, 29, 30, 31, 32, 33, 34, 35, 36, 37, 38, 39, 40, 19, 41, 74, 75] (by decide +kernel) (by decide +kernel)
set_option maxRecDepth 20000 in
theorem gX2_move_X1_becomeDifference : GoodIn wsX2_move (wsV RX2 82 RX1 yX1_becomeDifference wsX1_becomeDifference) := goodIn_app (goodIn_of _ (by decide +kernel)) ggX2_move_X1_becomeDifference
set_option maxRecDepth 20000 in
theorem ggX2_move_X2_keepLeftIn : GoodIn wsX2_move wsX2_keepLeftIn := goodIn_r _ [53, 5, 54, 55, 56, 14, 57, 16, 58, 59, 60, 61, 26, 27, 28, 29, 30, 62, 63, 64, 65, 31, 32, 33, 34, 35, 36, 37, 38, 39, 40, 19, 41, 66, 67, 68, 69, 74, 75] (by decide +kernel) (by decide +kernel)
set_option maxRecDepth 20000 in
theorem gX2_move_X2_keepLeftIn : GoodIn wsX2_move (wsV RX2 45 RX2 yX2_keepLeftIn wsX2_keepLeftIn) := goodIn_app (goodIn_of _ (by decide +kernel)) ggX2_move_X2_keepLeftIn
theorem dX2_move_0 : decode cX2_move 0 = .ok (.aload_n 0, 1) := by decide +kernel
theorem dX2_move_1 : decode cX2_move 1 = .ok (.iload_n 1, 1) := by decide +kernel
theorem dX2_move_2 : decode cX2_move 2 = .ok (.invokevirtual 29, 3) := by decide +kernel
theorem dX2_move_5 : decode cX2_move 5 = .ok (.astore_n 3, 1) := by decide +kernel
theorem dX2_move_6 : decode cX2_move 6 = .ok (.aload_n 3, 1) := by decide +kernel
theorem dX2_move_7 : decode cX2_move 7 = .ok (.ifnonnull 5, 3) := by decide +kernel
theorem dX2_move_10 : decode cX2_move 10 = .ok (.iconst (-1), 1) := by decide +kernel
theorem dX2_move_11 : decode cX2_move 11 = .ok (.ireturn, 1) := by decide +kernel
theorem dX2_move_12 : decode cX2_move 12 = .ok (.iload_n 1, 1) := by decide +kernel
theorem dX2_move_13 : decode cX2_move 13 = .ok (.ifCond .ne 13, 3) := by decide +kernel
theorem dX2_move_16 : decode cX2_move 16 = .ok (.aload_n 0, 1) := by decide +kernel
theorem dX2_move_17 : decode cX2_move 17 = .ok (.getfield 16, 3) := by decide +kernel
theorem dX2_move_20 : decode cX2_move 20 = .ok (.getfield 65, 3) := by decide +kernel
theorem dX2_move_23 : decode cX2_move 23 = .ok (.goto 10, 3) := by decide +kernel
theorem dX2_move_26 : decode cX2_move 26 = .ok (.aload_n 0, 1) := by decide +kernel
theorem dX2_move_27 : decode cX2_move 27 = .ok (.getfield 12, 3) := by decide +kernel
theorem dX2_move_30 : decode cX2_move 30 = .ok (.getfield 65, 3) := by decide +kernel
theorem dX2_move_33 : decode cX2_move 33 = .ok (.astore 4, 2) := by decide +kernel
theorem dX2_move_35 : decode cX2_move 35 = .ok (.aload_n 3, 1) := by decide +kernel
theorem dX2_move_36 : decode cX2_move 36 = .ok (.getfield 57, 3) := by decide +kernel
theorem dX2_move_39 : decode cX2_move 39 = .ok (.iload_n 2, 1) := by decide +kernel
theorem dX2_move_40 : decode cX2_move 40 = .ok (.if_icmp .ne 19, 3) := by decide +kernel
theorem dX2_move_43 : decode cX2_move 43 = .ok (.aload_n 0, 1) := by decide +kernel
theorem dX2_move_44 : decode cX2_move 44 = .ok (.getfield 22, 3) := by decide +kernel
theorem dX2_move_47 : decode cX2_move 47 = .ok (.aload_n 3, 1) := by decide +kernel
theorem dX2_move_48 : decode cX2_move 48 = .ok (.getfield 65, 3) := by decide +kernel
theorem dX2_move_51 : decode cX2_move 51 = .ok (.aload 4, 2) := by decide +kernel
theorem dX2_move_53 : decode cX2_move 53 = .ok (.invokevirtual 75, 3) := by decide +kernel
theorem dX2_move_56 : decode cX2_move 56 = .ok (.goto 49, 3) := by decide +kernel
theorem dX2_move_59 : decode cX2_move 59 = .ok (.aload_n 3, 1) := by decide +kernel
theorem dX2_move_60 : decode cX2_move 60 = .ok (.getfield 65, 3) := by decide +kernel
theorem dX2_move_63 : decode cX2_move 63 = .ok (.aload 4, 2) := by decide +kernel
theorem dX2_move_65 : decode cX2_move 65 = .ok (.invokevirtual 79, 3) := by decide +kernel
theorem dX2_move_68 : decode cX2_move 68 = .ok (.ifCond .lt 19, 3) := by decide +kernel
theorem dX2_move_71 : decode cX2_move 71 = .ok (.aload_n 0, 1) := by decide +kernel
theorem dX2_move_72 : decode cX2_move 72 = .ok (.getfield 22, 3) := by decide +kernel
theorem dX2_move_75 : decode cX2_move 75 = .ok (.aload_n 3, 1) := by decide +kernel
theorem dX2_move_76 : decode cX2_move 76 = .ok (.getfield 65, 3) := by decide +kernel
theorem dX2_move_79 : decode cX2_move 79 = .ok (.aload 4, 2) := by decide +kernel
theorem dX2_move_81 : decode cX2_move 81 = .ok (.invokevirtual 82, 3) := by decide +kernel
theorem dX2_move_84 : decode cX2_move 84 = .ok (.goto 21, 3) := by decide +kernel
theorem dX2_move_87 : decode cX2_move 87 = .ok (.aload_n 0, 1) := by decide +kernel
theorem dX2_move_88 : decode cX2_move 88 = .ok (.getfield 22, 3) := by decide +kernel
theorem dX2_move_91 : decode cX2_move 91 = .ok (.aload 4, 2) := by decide +kernel
theorem dX2_move_93 : decode cX2_move 93 = .ok (.aload_n 3, 1) := by decide +kernel
theorem dX2_move_94 : decode cX2_move 94 = .ok (.getfield 65, 3) := by decide +kernel
theorem dX2_move_97 : decode cX2_move 97 = .ok (.invokevirtual 82, 3) := by decide +kernel
theorem dX2_move_100 : decode cX2_move 100 = .ok (.aload_n 3, 1) := by decide +kernel
theorem dX2_move_101 : decode cX2_move 101 = .ok (.iload_n 2, 1) := by decide +kernel
theorem dX2_move_102 : decode cX2_move 102 = .ok (.putfield 57, 3) := by decide +kernel
theorem dX2_move_105 : decode cX2_move 105 = .ok (.aload_n 0, 1) := by decide +kernel
theorem dX2_move_106 : decode cX2_move 106 = .ok (.aload_n 3, 1) := by decide +kernel
theorem dX2_move_107 : decode cX2_move 107 = .ok (.getfield 65, 3) := by decide +kernel
theorem dX2_move_110 : decode cX2_move 110 = .ok (.invokevirtual 45, 3) := by decide +kernel
theorem dX2_move_113 : decode cX2_move 113 = .ok (.ireturn, 1) := by decide +kernel
set_option maxRecDepth 20000 in
theorem ggX2_bits_X2_partOf : GoodIn wsX2_bits wsX2_partOf := goodIn_r _ [5, 6, 7, 8, 9, 10, 4, 11, 12, 13, 29, 30, 31, 32, 33, 34, 35, 36] (by decide +kernel) (by decide +kernel)
set_option maxRecDepth 20000 in
theorem gX2_bits_X2_partOf : GoodIn wsX2_bits (wsV RX2 36 RX2 yX2_partOf wsX2_partOf) := goodIn_app (goodIn_of _ (by decide +kernel)) ggX2_bits_X2_partOf
set_option maxRecDepth 20000 in
theorem ggX2_bits_X1_length : GoodIn wsX2_bits wsX1_length := goodIn_r _ [18, 19, 20, 21, 22, 17, 23, 24, 25, 26, 27, 28, 37, 38] (by decide +kernel) (by decide +kernel)
set_option maxRecDepth 20000 in
theorem gX2_bits_X1_length : GoodIn wsX2_bits (wsV RX2 53 RX1 yX1_length wsX1_length) := goodIn_app (goodIn_of _ (by decide +kernel)) ggX2_bits_X1_length
theorem dX2_bits_0 : decode cX2_bits 0 = .ok (.aload_n 0, 1) := by decide +kernel
theorem dX2_bits_1 : decode cX2_bits 1 = .ok (.iload_n 1, 1) := by decide +kernel
theorem dX2_bits_2 : decode cX2_bits 2 = .ok (.iload_n 2, 1) := by decide +kernel
theorem dX2_bits_3 : decode cX2_bits 3 = .ok (.invokevirtual 36, 3) := by decide +kernel
theorem dX2_bits_6 : decode cX2_bits 6 = .ok (.astore_n 3, 1) := by decide +kernel
theorem dX2_bits_7 : decode cX2_bits 7 = .ok (.aload_n 3, 1) := by decide +kernel
theorem dX2_bits_8 : decode cX2_bits 8 = .ok (.ifnonnull 7, 3) := by decide +kernel
theorem dX2_bits_11 : decode cX2_bits 11 = .ok (.iconst (-1), 1) := by decide +kernel
theorem dX2_bits_12 : decode cX2_bits 12 = .ok (.goto 7, 3) := by decide +kernel
theorem dX2_bits_15 : decode cX2_bits 15 = .ok (.aload_n 3, 1) := by decide +kernel
theorem dX2_bits_16 : decode cX2_bits 16 = .ok (.invokevirtual 53, 3) := by decide +kernel
theorem dX2_bits_19 : decode cX2_bits 19 = .ok (.ireturn, 1) := by decide +kernel
set_option maxRecDepth 20000 in
theorem ggX2_word_X2_partOf : GoodIn wsX2_word wsX2_partOf := goodIn_r _ [5, 6, 7, 8, 9, 10, 4, 11, 12, 13, 20, 21, 22, 23, 24, 25, 26, 27] (by decide +kernel) (by decide +kernel)
set_option maxRecDepth 20000 in
theorem gX2_word_X2_partOf : GoodIn wsX2_word (wsV RX2 36 RX2 yX2_partOf wsX2_partOf) := goodIn_app (goodIn_of _ (by decide +kernel)) ggX2_word_X2_partOf
set_option maxRecDepth 20000 in
theorem ggX2_word_X1_wordAt : GoodIn wsX2_word wsX1_wordAt := goodIn_r _ [18, 19, 28, 29] (by decide +kernel) (by decide +kernel)
set_option maxRecDepth 20000 in
theorem gX2_word_X1_wordAt : GoodIn wsX2_word (wsV RX2 85 RX1 yX1_wordAt wsX1_wordAt) := goodIn_app (goodIn_of _ (by decide +kernel)) ggX2_word_X1_wordAt
theorem dX2_word_0 : decode cX2_word 0 = .ok (.aload_n 0, 1) := by decide +kernel
theorem dX2_word_1 : decode cX2_word 1 = .ok (.iload_n 1, 1) := by decide +kernel
theorem dX2_word_2 : decode cX2_word 2 = .ok (.iload_n 2, 1) := by decide +kernel
theorem dX2_word_3 : decode cX2_word 3 = .ok (.invokevirtual 36, 3) := by decide +kernel
theorem dX2_word_6 : decode cX2_word 6 = .ok (.astore 4, 2) := by decide +kernel
theorem dX2_word_8 : decode cX2_word 8 = .ok (.aload 4, 2) := by decide +kernel
theorem dX2_word_10 : decode cX2_word 10 = .ok (.ifnonnull 7, 3) := by decide +kernel
theorem dX2_word_13 : decode cX2_word 13 = .ok (.iconst 0, 1) := by decide +kernel
theorem dX2_word_14 : decode cX2_word 14 = .ok (.goto 9, 3) := by decide +kernel
theorem dX2_word_17 : decode cX2_word 17 = .ok (.aload 4, 2) := by decide +kernel
theorem dX2_word_19 : decode cX2_word 19 = .ok (.iload_n 3, 1) := by decide +kernel
theorem dX2_word_20 : decode cX2_word 20 = .ok (.invokevirtual 85, 3) := by decide +kernel
theorem dX2_word_23 : decode cX2_word 23 = .ok (.ireturn, 1) := by decide +kernel
set_option maxRecDepth 20000 in
theorem ggX2_compare_X0_sign : GoodIn wsX2_compare wsX0_sign := goodIn_r _ [7, 8, 9, 10, 11, 12, 13, 14, 15, 87, 88, 89, 90, 91, 92] (by decide +kernel) (by decide +kernel)
set_option maxRecDepth 20000 in
theorem gX2_compare_X0_sign : GoodIn wsX2_compare (wsV RX2 89 RX0 yX0_sign wsX0_sign) := goodIn_app (goodIn_of _ (by decide +kernel)) ggX2_compare_X0_sign
set_option maxRecDepth 20000 in
theorem ggX2_compare_X2_orderOfSizes : GoodIn wsX2_compare wsX2_orderOfSizes := goodIn_r _ [20, 1, 2, 21, 22, 23, 24, 25, 26, 27, 28, 6, 29, 8, 30, 31, 32, 33, 34, 13, 35, 15, 36, 11, 12, 14, 37, 38, 39, 40, 41, 42, 43, 44, 45, 46, 47, 48, 49, 50, 51, 52, 53, 54, 55, 56, 57, 58, 59, 60, 61, 62, 63, 64, 65, 66, 67, 68, 69, 70, 19, 71, 72, 73, 74, 75, 76, 77, 78, 79, 80, 81, 82, 83, 84, 85, 86, 87, 88, 89, 90, 91, 92] (by decide +kernel) (by decide +kernel)
set_option maxRecDepth 20000 in
theorem gX2_compare_X2_orderOfSizes : GoodIn wsX2_compare (wsV RX2 92 RX2 yX2_orderOfSizes wsX2_orderOfSizes) := goodIn_app (goodIn_of _ (by decide +kernel)) ggX2_compare_X2_orderOfSizes
theorem dX2_compare_0 : decode cX2_compare 0 = .ok (.aload_n 0, 1) := by decide +kernel
theorem dX2_compare_1 : decode cX2_compare 1 = .ok (.getfield 12, 3) := by decide +kernel
theorem dX2_compare_4 : decode cX2_compare 4 = .ok (.invokevirtual 89, 3) := by decide +kernel
theorem dX2_compare_7 : decode cX2_compare 7 = .ok (.istore_n 1, 1) := by decide +kernel
theorem dX2_compare_8 : decode cX2_compare 8 = .ok (.aload_n 0, 1) := by decide +kernel
theorem dX2_compare_9 : decode cX2_compare 9 = .ok (.getfield 16, 3) := by decide +kernel
theorem dX2_compare_12 : decode cX2_compare 12 = .ok (.invokevirtual 89, 3) := by decide +kernel
theorem dX2_compare_15 : decode cX2_compare 15 = .ok (.istore_n 2, 1) := by decide +kernel
theorem dX2_compare_16 : decode cX2_compare 16 = .ok (.iload_n 1, 1) := by decide +kernel
theorem dX2_compare_17 : decode cX2_compare 17 = .ok (.iload_n 2, 1) := by decide +kernel
theorem dX2_compare_18 : decode cX2_compare 18 = .ok (.if_icmp .eq 14, 3) := by decide +kernel
theorem dX2_compare_21 : decode cX2_compare 21 = .ok (.iload_n 1, 1) := by decide +kernel
theorem dX2_compare_22 : decode cX2_compare 22 = .ok (.iload_n 2, 1) := by decide +kernel
theorem dX2_compare_23 : decode cX2_compare 23 = .ok (.if_icmp .ge 7, 3) := by decide +kernel
theorem dX2_compare_26 : decode cX2_compare 26 = .ok (.iconst (-1), 1) := by decide +kernel
theorem dX2_compare_27 : decode cX2_compare 27 = .ok (.goto 4, 3) := by decide +kernel
theorem dX2_compare_30 : decode cX2_compare 30 = .ok (.iconst 1, 1) := by decide +kernel
theorem dX2_compare_31 : decode cX2_compare 31 = .ok (.ireturn, 1) := by decide +kernel
theorem dX2_compare_32 : decode cX2_compare 32 = .ok (.iload_n 1, 1) := by decide +kernel
theorem dX2_compare_33 : decode cX2_compare 33 = .ok (.ifCond .ne 7, 3) := by decide +kernel
theorem dX2_compare_36 : decode cX2_compare 36 = .ok (.iconst 0, 1) := by decide +kernel
theorem dX2_compare_37 : decode cX2_compare 37 = .ok (.goto 9, 3) := by decide +kernel
theorem dX2_compare_40 : decode cX2_compare 40 = .ok (.iload_n 1, 1) := by decide +kernel
theorem dX2_compare_41 : decode cX2_compare 41 = .ok (.aload_n 0, 1) := by decide +kernel
theorem dX2_compare_42 : decode cX2_compare 42 = .ok (.invokevirtual 92, 3) := by decide +kernel
theorem dX2_compare_45 : decode cX2_compare 45 = .ok (.imul, 1) := by decide +kernel
theorem dX2_compare_46 : decode cX2_compare 46 = .ok (.ireturn, 1) := by decide +kernel
set_option maxRecDepth 20000 in
theorem ggX2_round_X2_numberOf : GoodIn wsX2_round wsX2_numberOf := goodIn_r _ [9, 10, 11, 99, 100, 101, 102] (by decide +kernel) (by decide +kernel)
set_option maxRecDepth 20000 in
theorem gX2_round_X2_numberOf : GoodIn wsX2_round (wsV RX2 29 RX2 yX2_numberOf wsX2_numberOf) := goodIn_app (goodIn_of _ (by decide +kernel)) ggX2_round_X2_numberOf
set_option maxRecDepth 20000 in
theorem ggX2_round_X1_isZero : GoodIn wsX2_round wsX1_isZero := goodIn_r _ [16, 17, 103, 104] (by decide +kernel) (by decide +kernel)
set_option maxRecDepth 20000 in
theorem gX2_round_X1_isZero : GoodIn wsX2_round (wsV RX2 68 RX1 yX1_isZero wsX1_isZero) := goodIn_app (goodIn_of _ (by decide +kernel)) ggX2_round_X1_isZero
set_option maxRecDepth 20000 in
theorem ggX2_round_X2_roundedSize : GoodIn wsX2_round wsX2_roundedSize := goodIn_r _ [21, 22, 23, 24, 25, 26, 27, 28, 29, 30, 31, 8, 32, 2, 33, 34, 35, 36, 37, 15, 38, 17, 39, 40, 41, 42, 43, 44, 45, 46, 47, 48, 49, 50, 51, 52, 53, 54, 55, 56, 57, 13, 14, 16, 58, 59, 60, 61, 62, 63, 64, 65, 66, 67, 68, 69, 70, 71, 72, 73, 74, 75, 76, 77, 78, 79, 80, 81, 82, 83, 84, 85, 86, 87, 88, 89, 90, 91, 92, 93, 94, 12, 99, 100, 101, 102, 95, 96, 97, 98, 103, 104] (by decide +kernel) (by decide +kernel)
set_option maxRecDepth 20000 in
theorem gX2_round_X2_roundedSize : GoodIn wsX2_round (wsV RX2 97 RX2 yX2_roundedSize wsX2_roundedSize) := goodIn_app (goodIn_of _ (by decide +kernel)) ggX2_round_X2_roundedSize
theorem dX2_round_0 : decode cX2_round 0 = .ok (.aload_n 0, 1) := by decide +kernel
theorem dX2_round_1 : decode cX2_round 1 = .ok (.iload_n 1, 1) := by decide +kernel
theorem dX2_round_2 : decode cX2_round 2 = .ok (.invokevirtual 29, 3) := by decide +kernel
theorem dX2_round_5 : decode cX2_round 5 = .ok (.astore_n 3, 1) := by decide +kernel
theorem dX2_round_6 : decode cX2_round 6 = .ok (.aload_n 3, 1) := by decide +kernel
theorem dX2_round_7 : decode cX2_round 7 = .ok (.ifnonnull 7, 3) := by decide +kernel
theorem dX2_round_10 : decode cX2_round 10 = .ok (.ldc2_w 95, 3) := by decide +kernel
theorem dX2_round_13 : decode cX2_round 13 = .ok (.lreturn, 1) := by decide +kernel
theorem dX2_round_14 : decode cX2_round 14 = .ok (.aload_n 3, 1) := by decide +kernel
theorem dX2_round_15 : decode cX2_round 15 = .ok (.getfield 65, 3) := by decide +kernel
theorem dX2_round_18 : decode cX2_round 18 = .ok (.invokevirtual 68, 3) := by decide +kernel
theorem dX2_round_21 : decode cX2_round 21 = .ok (.ifCond .eq 5, 3) := by decide +kernel
theorem dX2_round_24 : decode cX2_round 24 = .ok (.lconst 0, 1) := by decide +kernel
theorem dX2_round_25 : decode cX2_round 25 = .ok (.lreturn, 1) := by decide +kernel
theorem dX2_round_26 : decode cX2_round 26 = .ok (.aload_n 0, 1) := by decide +kernel
theorem dX2_round_27 : decode cX2_round 27 = .ok (.aload_n 3, 1) := by decide +kernel
theorem dX2_round_28 : decode cX2_round 28 = .ok (.iload_n 2, 1) := by decide +kernel
theorem dX2_round_29 : decode cX2_round 29 = .ok (.aload_n 3, 1) := by decide +kernel
theorem dX2_round_30 : decode cX2_round 30 = .ok (.getfield 57, 3) := by decide +kernel
theorem dX2_round_33 : decode cX2_round 33 = .ok (.if_icmp .eq 7, 3) := by decide +kernel
theorem dX2_round_36 : decode cX2_round 36 = .ok (.iconst 1, 1) := by decide +kernel
theorem dX2_round_37 : decode cX2_round 37 = .ok (.goto 4, 3) := by decide +kernel
theorem dX2_round_40 : decode cX2_round 40 = .ok (.iconst 0, 1) := by decide +kernel
theorem dX2_round_41 : decode cX2_round 41 = .ok (.invokevirtual 97, 3) := by decide +kernel
theorem dX2_round_44 : decode cX2_round 44 = .ok (.lstore 4, 2) := by decide +kernel
theorem dX2_round_46 : decode cX2_round 46 = .ok (.aload_n 3, 1) := by decide +kernel
theorem dX2_round_47 : decode cX2_round 47 = .ok (.getfield 57, 3) := by decide +kernel
theorem dX2_round_50 : decode cX2_round 50 = .ok (.ifCond .eq 19, 3) := by decide +kernel
theorem dX2_round_53 : decode cX2_round 53 = .ok (.lload 4, 2) := by decide +kernel
theorem dX2_round_55 : decode cX2_round 55 = .ok (.lconst 0, 1) := by decide +kernel
theorem dX2_round_56 : decode cX2_round 56 = .ok (.lcmp, 1) := by decide +kernel
theorem dX2_round_57 : decode cX2_round 57 = .ok (.ifCond .eq 12, 3) := by decide +kernel
theorem dX2_round_60 : decode cX2_round 60 = .ok (.lload 4, 2) := by decide +kernel
theorem dX2_round_62 : decode cX2_round 62 = .ok (.ldc2_w 101, 3) := by decide +kernel
theorem dX2_round_65 : decode cX2_round 65 = .ok (.lor, 1) := by decide +kernel
theorem dX2_round_66 : decode cX2_round 66 = .ok (.goto 5, 3) := by decide +kernel
theorem dX2_round_69 : decode cX2_round 69 = .ok (.lload 4, 2) := by decide +kernel
theorem dX2_round_71 : decode cX2_round 71 = .ok (.lreturn, 1) := by decide +kernel
theorem dX2_numberOf_0 : decode cX2_numberOf 0 = .ok (.iload_n 1, 1) := by decide +kernel
theorem dX2_numberOf_1 : decode cX2_numberOf 1 = .ok (.ifCond .ne 8, 3) := by decide +kernel
theorem dX2_numberOf_4 : decode cX2_numberOf 4 = .ok (.aload_n 0, 1) := by decide +kernel
theorem dX2_numberOf_5 : decode cX2_numberOf 5 = .ok (.getfield 12, 3) := by decide +kernel
theorem dX2_numberOf_8 : decode cX2_numberOf 8 = .ok (.areturn, 1) := by decide +kernel
theorem dX2_numberOf_9 : decode cX2_numberOf 9 = .ok (.iload_n 1, 1) := by decide +kernel
theorem dX2_numberOf_10 : decode cX2_numberOf 10 = .ok (.iconst 1, 1) := by decide +kernel
theorem dX2_numberOf_11 : decode cX2_numberOf 11 = .ok (.if_icmp .ne 10, 3) := by decide +kernel
theorem dX2_numberOf_14 : decode cX2_numberOf 14 = .ok (.aload_n 0, 1) := by decide +kernel
theorem dX2_numberOf_15 : decode cX2_numberOf 15 = .ok (.getfield 16, 3) := by decide +kernel
theorem dX2_numberOf_18 : decode cX2_numberOf 18 = .ok (.goto 4, 3) := by decide +kernel
theorem dX2_numberOf_21 : decode cX2_numberOf 21 = .ok (.aconst_null, 1) := by decide +kernel
theorem dX2_numberOf_22 : decode cX2_numberOf 22 = .ok (.areturn, 1) := by decide +kernel
set_option maxRecDepth 20000 in
theorem ggX2_partOf_X2_numberOf : GoodIn wsX2_partOf wsX2_numberOf := goodIn_r _ [7, 8, 9, 14, 15, 16, 17] (by decide +kernel) (by decide +kernel)
end
section
set_option maxRecDepth 20000 in
theorem gX2_partOf_X2_numberOf : GoodIn wsX2_partOf (wsV RX2 29 RX2 yX2_numberOf wsX2_numberOf) := goodIn_app (goodIn_of _ (by decide +kernel)) ggX2_partOf_X2_numberOf
theorem dX2_partOf_0 : decode cX2_partOf 0 = .ok (.aload_n 0, 1) := by decide +kernel
theorem dX2_partOf_1 : decode cX2_partOf 1 = .ok (.iload_n 1, 1) := by decide +kernel
theorem dX2_partOf_2 : decode cX2_partOf 2 = .ok (.invokevirtual 29, 3) := by decide +kernel
theorem dX2_partOf_5 : decode cX2_partOf 5 = .ok (.astore_n 3, 1) := by decide +kernel
theorem dX2_partOf_6 : decode cX2_partOf 6 = .ok (.aload_n 3, 1) := by decide +kernel
theorem dX2_partOf_7 : decode cX2_partOf 7 = .ok (.ifnonnull 5, 3) := by decide +kernel
theorem dX2_partOf_10 : decode cX2_partOf 10 = .ok (.aconst_null, 1) := by decide +kernel
theorem dX2_partOf_11 : decode cX2_partOf 11 = .ok (.areturn, 1) := by decide +kernel
theorem dX2_partOf_12 : decode cX2_partOf 12 = .ok (.iload_n 2, 1) := by decide +kernel
theorem dX2_partOf_13 : decode cX2_partOf 13 = .ok (.ifCond .ne 8, 3) := by decide +kernel
theorem dX2_partOf_16 : decode cX2_partOf 16 = .ok (.aload_n 3, 1) := by decide +kernel
theorem dX2_partOf_17 : decode cX2_partOf 17 = .ok (.getfield 65, 3) := by decide +kernel
theorem dX2_partOf_20 : decode cX2_partOf 20 = .ok (.areturn, 1) := by decide +kernel
theorem dX2_partOf_21 : decode cX2_partOf 21 = .ok (.iload_n 2, 1) := by decide +kernel
theorem dX2_partOf_22 : decode cX2_partOf 22 = .ok (.iconst 1, 1) := by decide +kernel
theorem dX2_partOf_23 : decode cX2_partOf 23 = .ok (.if_icmp .ne 10, 3) := by decide +kernel
theorem dX2_partOf_26 : decode cX2_partOf 26 = .ok (.aload_n 3, 1) := by decide +kernel
theorem dX2_partOf_27 : decode cX2_partOf 27 = .ok (.getfield 103, 3) := by decide +kernel
theorem dX2_partOf_30 : decode cX2_partOf 30 = .ok (.goto 4, 3) := by decide +kernel
theorem dX2_partOf_33 : decode cX2_partOf 33 = .ok (.aconst_null, 1) := by decide +kernel
theorem dX2_partOf_34 : decode cX2_partOf 34 = .ok (.areturn, 1) := by decide +kernel
set_option maxRecDepth 20000 in
theorem ggX2_keepLeftIn_X1_length : GoodIn wsX2_keepLeftIn wsX1_length := goodIn_r _ [6, 7, 8, 9, 10, 5, 11, 12, 13, 14, 15, 16, 37, 38] (by decide +kernel) (by decide +kernel)
set_option maxRecDepth 20000 in
theorem gX2_keepLeftIn_X1_length : GoodIn wsX2_keepLeftIn (wsV RX2 53 RX1 yX1_length wsX1_length) := goodIn_app (goodIn_of _ (by decide +kernel)) ggX2_keepLeftIn_X1_length
set_option maxRecDepth 20000 in
theorem ggX2_keepLeftIn_X1_copy : GoodIn wsX2_keepLeftIn wsX1_copy := goodIn_r _ [20, 7, 12, 13, 14, 5, 15, 16, 21, 22, 23, 24, 25, 26, 27, 28, 29, 30, 31, 32, 37, 38] (by decide +kernel) (by decide +kernel)
set_option maxRecDepth 20000 in
theorem gX2_keepLeftIn_X1_copy : GoodIn wsX2_keepLeftIn (wsV RX2 106 RX1 yX1_copy wsX1_copy) := goodIn_app (goodIn_of _ (by decide +kernel)) ggX2_keepLeftIn_X1_copy
theorem dX2_keepLeftIn_0 : decode cX2_keepLeftIn 0 = .ok (.aload_n 0, 1) := by decide +kernel
theorem dX2_keepLeftIn_1 : decode cX2_keepLeftIn 1 = .ok (.getfield 22, 3) := by decide +kernel
theorem dX2_keepLeftIn_4 : decode cX2_keepLeftIn 4 = .ok (.invokevirtual 53, 3) := by decide +kernel
theorem dX2_keepLeftIn_7 : decode cX2_keepLeftIn 7 = .ok (.sipush 4800, 3) := by decide +kernel
theorem dX2_keepLeftIn_10 : decode cX2_keepLeftIn 10 = .ok (.if_icmp .le 6, 3) := by decide +kernel
theorem dX2_keepLeftIn_13 : decode cX2_keepLeftIn 13 = .ok (.bipush (-2), 2) := by decide +kernel
theorem dX2_keepLeftIn_15 : decode cX2_keepLeftIn 15 = .ok (.ireturn, 1) := by decide +kernel
theorem dX2_keepLeftIn_16 : decode cX2_keepLeftIn 16 = .ok (.aload_n 1, 1) := by decide +kernel
theorem dX2_keepLeftIn_17 : decode cX2_keepLeftIn 17 = .ok (.aload_n 0, 1) := by decide +kernel
theorem dX2_keepLeftIn_18 : decode cX2_keepLeftIn 18 = .ok (.getfield 22, 3) := by decide +kernel
theorem dX2_keepLeftIn_21 : decode cX2_keepLeftIn 21 = .ok (.invokevirtual 106, 3) := by decide +kernel
theorem dX2_keepLeftIn_24 : decode cX2_keepLeftIn 24 = .ok (.aload_n 1, 1) := by decide +kernel
theorem dX2_keepLeftIn_25 : decode cX2_keepLeftIn 25 = .ok (.invokevirtual 53, 3) := by decide +kernel
theorem dX2_keepLeftIn_28 : decode cX2_keepLeftIn 28 = .ok (.ireturn, 1) := by decide +kernel
set_option maxRecDepth 20000 in
theorem ggX2_orderOfSizes_X0_rank : GoodIn wsX2_orderOfSizes wsX0_rank := goodIn_r _ [12, 13, 14, 15, 16, 17, 18, 19, 20, 21, 22, 23, 24, 25, 26, 27, 28, 29, 30, 77, 78, 79, 80, 81, 82] (by decide +kernel) (by decide +kernel)
set_option maxRecDepth 20000 in
theorem gX2_orderOfSizes_X0_rank : GoodIn wsX2_orderOfSizes (wsV RX2 110 RX0 yX0_rank wsX0_rank) := goodIn_app (goodIn_of _ (by decide +kernel)) ggX2_orderOfSizes_X0_rank
set_option maxRecDepth 20000 in
theorem ggX2_orderOfSizes_X1_becomeProduct : GoodIn wsX2_orderOfSizes wsX1_becomeProduct := goodIn_r _ [34, 21, 35, 36, 37, 19, 38, 30, 39, 40, 41, 42, 43, 44, 45, 46, 26, 27, 28, 29, 47, 48, 49, 50, 51, 52, 53, 54, 55, 81, 82] (by decide +kernel) (by decide +kernel)
set_option maxRecDepth 20000 in
theorem gX2_orderOfSizes_X1_becomeProduct : GoodIn wsX2_orderOfSizes (wsV RX2 113 RX1 yX1_becomeProduct wsX1_becomeProduct) := goodIn_app (goodIn_of _ (by decide +kernel)) ggX2_orderOfSizes_X1_becomeProduct
set_option maxRecDepth 20000 in
theorem ggX2_orderOfSizes_X1_length : GoodIn wsX2_orderOfSizes wsX1_length := goodIn_r _ [20, 21, 22, 23, 24, 19, 25, 26, 27, 28, 29, 30, 81, 82] (by decide +kernel) (by decide +kernel)
set_option maxRecDepth 20000 in
theorem gX2_orderOfSizes_X1_length : GoodIn wsX2_orderOfSizes (wsV RX2 53 RX1 yX1_length wsX1_length) := goodIn_app (goodIn_of _ (by decide +kernel)) ggX2_orderOfSizes_X1_length
set_option maxRecDepth 20000 in
theorem ggX2_orderOfSizes_X2_alignTops : GoodIn wsX2_orderOfSizes wsX2_alignTops := goodIn_r _ [61, 3, 6, 62, 63, 64, 19, 65, 21, 47, 48, 49, 50, 51, 26, 27, 28, 29, 30, 43, 44, 45, 46, 35, 36, 37, 38, 39, 40, 41, 42, 73, 74, 75, 76, 81, 82] (by decide +kernel) (by decide +kernel)
set_option maxRecDepth 20000 in
theorem gX2_orderOfSizes_X2_alignTops : GoodIn wsX2_orderOfSizes (wsV RX2 116 RX2 yX2_alignTops wsX2_alignTops) := goodIn_app (goodIn_of _ (by decide +kernel)) ggX2_orderOfSizes_X2_alignTops
set_option maxRecDepth 20000 in
theorem ggX2_orderOfSizes_X1_order : GoodIn wsX2_orderOfSizes wsX1_order := goodIn_r _ [69, 21, 70, 71, 41, 72, 47, 48, 49, 19, 50, 51, 26, 27, 28, 29, 30, 81, 82] (by decide +kernel) (by decide +kernel)
set_option maxRecDepth 20000 in
theorem gX2_orderOfSizes_X1_order : GoodIn wsX2_orderOfSizes (wsV RX2 79 RX1 yX1_order wsX1_order) := goodIn_app (goodIn_of _ (by decide +kernel)) ggX2_orderOfSizes_X1_order
theorem dX2_orderOfSizes_0 : decode cX2_orderOfSizes 0 = .ok (.aload_n 0, 1) := by decide +kernel
theorem dX2_orderOfSizes_1 : decode cX2_orderOfSizes 1 = .ok (.getfield 12, 3) := by decide +kernel
theorem dX2_orderOfSizes_4 : decode cX2_orderOfSizes 4 = .ok (.invokevirtual 110, 3) := by decide +kernel
theorem dX2_orderOfSizes_7 : decode cX2_orderOfSizes 7 = .ok (.aload_n 0, 1) := by decide +kernel
theorem dX2_orderOfSizes_8 : decode cX2_orderOfSizes 8 = .ok (.getfield 16, 3) := by decide +kernel
theorem dX2_orderOfSizes_11 : decode cX2_orderOfSizes 11 = .ok (.invokevirtual 110, 3) := by decide +kernel
theorem dX2_orderOfSizes_14 : decode cX2_orderOfSizes 14 = .ok (.isub, 1) := by decide +kernel
theorem dX2_orderOfSizes_15 : decode cX2_orderOfSizes 15 = .ok (.istore_n 1, 1) := by decide +kernel
theorem dX2_orderOfSizes_16 : decode cX2_orderOfSizes 16 = .ok (.iload_n 1, 1) := by decide +kernel
theorem dX2_orderOfSizes_17 : decode cX2_orderOfSizes 17 = .ok (.iconst 1, 1) := by decide +kernel
theorem dX2_orderOfSizes_18 : decode cX2_orderOfSizes 18 = .ok (.if_icmp .gt 8, 3) := by decide +kernel
theorem dX2_orderOfSizes_21 : decode cX2_orderOfSizes 21 = .ok (.iload_n 1, 1) := by decide +kernel
theorem dX2_orderOfSizes_22 : decode cX2_orderOfSizes 22 = .ok (.iconst (-1), 1) := by decide +kernel
theorem dX2_orderOfSizes_23 : decode cX2_orderOfSizes 23 = .ok (.if_icmp .ge 13, 3) := by decide +kernel
theorem dX2_orderOfSizes_26 : decode cX2_orderOfSizes 26 = .ok (.iload_n 1, 1) := by decide +kernel
theorem dX2_orderOfSizes_27 : decode cX2_orderOfSizes 27 = .ok (.ifCond .ge 7, 3) := by decide +kernel
theorem dX2_orderOfSizes_30 : decode cX2_orderOfSizes 30 = .ok (.iconst (-1), 1) := by decide +kernel
theorem dX2_orderOfSizes_31 : decode cX2_orderOfSizes 31 = .ok (.goto 4, 3) := by decide +kernel
theorem dX2_orderOfSizes_34 : decode cX2_orderOfSizes 34 = .ok (.iconst 1, 1) := by decide +kernel
theorem dX2_orderOfSizes_35 : decode cX2_orderOfSizes 35 = .ok (.ireturn, 1) := by decide +kernel
theorem dX2_orderOfSizes_36 : decode cX2_orderOfSizes 36 = .ok (.aload_n 0, 1) := by decide +kernel
theorem dX2_orderOfSizes_37 : decode cX2_orderOfSizes 37 = .ok (.getfield 22, 3) := by decide +kernel
theorem dX2_orderOfSizes_40 : decode cX2_orderOfSizes 40 = .ok (.aload_n 0, 1) := by decide +kernel
theorem dX2_orderOfSizes_41 : decode cX2_orderOfSizes 41 = .ok (.getfield 12, 3) := by decide +kernel
theorem dX2_orderOfSizes_44 : decode cX2_orderOfSizes 44 = .ok (.getfield 65, 3) := by decide +kernel
theorem dX2_orderOfSizes_47 : decode cX2_orderOfSizes 47 = .ok (.aload_n 0, 1) := by decide +kernel
theorem dX2_orderOfSizes_48 : decode cX2_orderOfSizes 48 = .ok (.getfield 16, 3) := by decide +kernel
theorem dX2_orderOfSizes_51 : decode cX2_orderOfSizes 51 = .ok (.getfield 103, 3) := by decide +kernel
theorem dX2_orderOfSizes_54 : decode cX2_orderOfSizes 54 = .ok (.invokevirtual 113, 3) := by decide +kernel
theorem dX2_orderOfSizes_57 : decode cX2_orderOfSizes 57 = .ok (.aload_n 0, 1) := by decide +kernel
theorem dX2_orderOfSizes_58 : decode cX2_orderOfSizes 58 = .ok (.getfield 26, 3) := by decide +kernel
theorem dX2_orderOfSizes_61 : decode cX2_orderOfSizes 61 = .ok (.aload_n 0, 1) := by decide +kernel
theorem dX2_orderOfSizes_62 : decode cX2_orderOfSizes 62 = .ok (.getfield 16, 3) := by decide +kernel
theorem dX2_orderOfSizes_65 : decode cX2_orderOfSizes 65 = .ok (.getfield 65, 3) := by decide +kernel
theorem dX2_orderOfSizes_68 : decode cX2_orderOfSizes 68 = .ok (.aload_n 0, 1) := by decide +kernel
theorem dX2_orderOfSizes_69 : decode cX2_orderOfSizes 69 = .ok (.getfield 12, 3) := by decide +kernel
theorem dX2_orderOfSizes_72 : decode cX2_orderOfSizes 72 = .ok (.getfield 103, 3) := by decide +kernel
theorem dX2_orderOfSizes_75 : decode cX2_orderOfSizes 75 = .ok (.invokevirtual 113, 3) := by decide +kernel
theorem dX2_orderOfSizes_78 : decode cX2_orderOfSizes 78 = .ok (.aload_n 0, 1) := by decide +kernel
theorem dX2_orderOfSizes_79 : decode cX2_orderOfSizes 79 = .ok (.getfield 22, 3) := by decide +kernel
theorem dX2_orderOfSizes_82 : decode cX2_orderOfSizes 82 = .ok (.invokevirtual 53, 3) := by decide +kernel
theorem dX2_orderOfSizes_85 : decode cX2_orderOfSizes 85 = .ok (.aload_n 0, 1) := by decide +kernel
theorem dX2_orderOfSizes_86 : decode cX2_orderOfSizes 86 = .ok (.getfield 26, 3) := by decide +kernel
theorem dX2_orderOfSizes_89 : decode cX2_orderOfSizes 89 = .ok (.invokevirtual 53, 3) := by decide +kernel
theorem dX2_orderOfSizes_92 : decode cX2_orderOfSizes 92 = .ok (.isub, 1) := by decide +kernel
theorem dX2_orderOfSizes_93 : decode cX2_orderOfSizes 93 = .ok (.istore_n 2, 1) := by decide +kernel
theorem dX2_orderOfSizes_94 : decode cX2_orderOfSizes 94 = .ok (.iload_n 2, 1) := by decide +kernel
theorem dX2_orderOfSizes_95 : decode cX2_orderOfSizes 95 = .ok (.aload_n 0, 1) := by decide +kernel
theorem dX2_orderOfSizes_96 : decode cX2_orderOfSizes 96 = .ok (.getfield 12, 3) := by decide +kernel
theorem dX2_orderOfSizes_99 : decode cX2_orderOfSizes 99 = .ok (.getfield 61, 3) := by decide +kernel
theorem dX2_orderOfSizes_102 : decode cX2_orderOfSizes 102 = .ok (.iadd, 1) := by decide +kernel
theorem dX2_orderOfSizes_103 : decode cX2_orderOfSizes 103 = .ok (.aload_n 0, 1) := by decide +kernel
theorem dX2_orderOfSizes_104 : decode cX2_orderOfSizes 104 = .ok (.getfield 16, 3) := by decide +kernel
theorem dX2_orderOfSizes_107 : decode cX2_orderOfSizes 107 = .ok (.getfield 61, 3) := by decide +kernel
theorem dX2_orderOfSizes_110 : decode cX2_orderOfSizes 110 = .ok (.isub, 1) := by decide +kernel
theorem dX2_orderOfSizes_111 : decode cX2_orderOfSizes 111 = .ok (.istore_n 1, 1) := by decide +kernel
theorem dX2_orderOfSizes_112 : decode cX2_orderOfSizes 112 = .ok (.iload_n 1, 1) := by decide +kernel
theorem dX2_orderOfSizes_113 : decode cX2_orderOfSizes 113 = .ok (.ifCond .eq 13, 3) := by decide +kernel
theorem dX2_orderOfSizes_116 : decode cX2_orderOfSizes 116 = .ok (.iload_n 1, 1) := by decide +kernel
theorem dX2_orderOfSizes_117 : decode cX2_orderOfSizes 117 = .ok (.ifCond .ge 7, 3) := by decide +kernel
theorem dX2_orderOfSizes_120 : decode cX2_orderOfSizes 120 = .ok (.iconst (-1), 1) := by decide +kernel
theorem dX2_orderOfSizes_121 : decode cX2_orderOfSizes 121 = .ok (.goto 4, 3) := by decide +kernel
theorem dX2_orderOfSizes_124 : decode cX2_orderOfSizes 124 = .ok (.iconst 1, 1) := by decide +kernel
theorem dX2_orderOfSizes_125 : decode cX2_orderOfSizes 125 = .ok (.ireturn, 1) := by decide +kernel
theorem dX2_orderOfSizes_126 : decode cX2_orderOfSizes 126 = .ok (.aload_n 0, 1) := by decide +kernel
theorem dX2_orderOfSizes_127 : decode cX2_orderOfSizes 127 = .ok (.iload_n 2, 1) := by decide +kernel
theorem dX2_orderOfSizes_128 : decode cX2_orderOfSizes 128 = .ok (.invokevirtual 116, 3) := by decide +kernel
theorem dX2_orderOfSizes_131 : decode cX2_orderOfSizes 131 = .ok (.aload_n 0, 1) := by decide +kernel
theorem dX2_orderOfSizes_132 : decode cX2_orderOfSizes 132 = .ok (.getfield 22, 3) := by decide +kernel
theorem dX2_orderOfSizes_135 : decode cX2_orderOfSizes 135 = .ok (.aload_n 0, 1) := by decide +kernel
theorem dX2_orderOfSizes_136 : decode cX2_orderOfSizes 136 = .ok (.getfield 26, 3) := by decide +kernel
theorem dX2_orderOfSizes_139 : decode cX2_orderOfSizes 139 = .ok (.invokevirtual 79, 3) := by decide +kernel
theorem dX2_orderOfSizes_142 : decode cX2_orderOfSizes 142 = .ok (.ireturn, 1) := by decide +kernel
set_option maxRecDepth 20000 in
theorem ggX2_alignTops_X1_shiftUp : GoodIn wsX2_alignTops wsX1_shiftUp := goodIn_r _ [7, 8, 9, 10, 11, 6, 12, 13, 14, 15, 16, 17, 18, 19, 20, 21, 22, 23, 24, 25, 26, 27, 28, 29, 30, 35, 36] (by decide +kernel) (by decide +kernel)
set_option maxRecDepth 20000 in
theorem gX2_alignTops_X1_shiftUp : GoodIn wsX2_alignTops (wsV RX2 120 RX1 yX1_shiftUp wsX1_shiftUp) := goodIn_app (goodIn_of _ (by decide +kernel)) ggX2_alignTops_X1_shiftUp
theorem dX2_alignTops_0 : decode cX2_alignTops 0 = .ok (.iload_n 1, 1) := by decide +kernel
theorem dX2_alignTops_1 : decode cX2_alignTops 1 = .ok (.ifCond .ge 15, 3) := by decide +kernel
theorem dX2_alignTops_4 : decode cX2_alignTops 4 = .ok (.aload_n 0, 1) := by decide +kernel
theorem dX2_alignTops_5 : decode cX2_alignTops 5 = .ok (.getfield 22, 3) := by decide +kernel
theorem dX2_alignTops_8 : decode cX2_alignTops 8 = .ok (.iload_n 1, 1) := by decide +kernel
theorem dX2_alignTops_9 : decode cX2_alignTops 9 = .ok (.ineg, 1) := by decide +kernel
theorem dX2_alignTops_10 : decode cX2_alignTops 10 = .ok (.invokevirtual 120, 3) := by decide +kernel
theorem dX2_alignTops_13 : decode cX2_alignTops 13 = .ok (.goto 11, 3) := by decide +kernel
theorem dX2_alignTops_16 : decode cX2_alignTops 16 = .ok (.aload_n 0, 1) := by decide +kernel
theorem dX2_alignTops_17 : decode cX2_alignTops 17 = .ok (.getfield 26, 3) := by decide +kernel
theorem dX2_alignTops_20 : decode cX2_alignTops 20 = .ok (.iload_n 1, 1) := by decide +kernel
theorem dX2_alignTops_21 : decode cX2_alignTops 21 = .ok (.invokevirtual 120, 3) := by decide +kernel
theorem dX2_alignTops_24 : decode cX2_alignTops 24 = .ok (.return_, 1) := by decide +kernel
set_option maxRecDepth 20000 in
theorem ggX2_roundedSize_X2_layOut : GoodIn wsX2_roundedSize wsX2_layOut := goodIn_r _ [12, 7, 13, 14, 15, 16, 17, 18, 19, 20, 21, 22, 23, 24, 25, 26, 27, 28, 29, 30, 31, 32, 33, 34, 35, 4, 5, 6, 36, 37, 38, 39, 40, 41, 42, 43, 44, 45, 46, 11, 47, 48, 49, 50, 51, 52, 53, 54, 55, 56, 57, 58, 59, 60, 61, 62, 63, 64, 65, 66, 67, 68, 69, 70, 71, 72, 82, 83, 84, 85, 86, 87, 88, 89, 90, 91] (by decide +kernel) (by decide +kernel)
set_option maxRecDepth 20000 in
theorem gX2_roundedSize_X2_layOut : GoodIn wsX2_roundedSize (wsV RX2 123 RX2 yX2_layOut wsX2_layOut) := goodIn_app (goodIn_of _ (by decide +kernel)) ggX2_roundedSize_X2_layOut
set_option maxRecDepth 20000 in
theorem ggX2_roundedSize_X2_quotient : GoodIn wsX2_roundedSize wsX2_quotient := goodIn_r _ [76, 7, 14, 57, 58, 59, 19, 60, 21, 61, 62, 5, 63, 52, 53, 54, 55, 56, 22, 23, 24, 25, 26, 77, 78, 79, 80, 27, 28, 29, 30, 31, 32, 33, 34, 35, 4, 6, 48, 49, 50, 51, 82, 83, 84, 85, 90, 91] (by decide +kernel) (by decide +kernel)
set_option maxRecDepth 20000 in
theorem gX2_roundedSize_X2_quotient : GoodIn wsX2_roundedSize (wsV RX2 137 RX2 yX2_quotient wsX2_quotient) := goodIn_app (goodIn_of _ (by decide +kernel)) ggX2_roundedSize_X2_quotient
set_option maxRecDepth 20000 in
theorem ggX2_roundedSize_X1_isZero : GoodIn wsX2_roundedSize wsX1_isZero := goodIn_r _ [43, 21, 90, 91] (by decide +kernel) (by decide +kernel)
set_option maxRecDepth 20000 in
theorem gX2_roundedSize_X1_isZero : GoodIn wsX2_roundedSize (wsV RX2 68 RX1 yX1_isZero wsX1_isZero) := goodIn_app (goodIn_of _ (by decide +kernel)) ggX2_roundedSize_X1_isZero
theorem dX2_roundedSize_0 : decode cX2_roundedSize 0 = .ok (.aload_n 0, 1) := by decide +kernel
theorem dX2_roundedSize_1 : decode cX2_roundedSize 1 = .ok (.aload_n 1, 1) := by decide +kernel
theorem dX2_roundedSize_2 : decode cX2_roundedSize 2 = .ok (.invokevirtual 123, 3) := by decide +kernel
theorem dX2_roundedSize_5 : decode cX2_roundedSize 5 = .ok (.istore_n 3, 1) := by decide +kernel
theorem dX2_roundedSize_6 : decode cX2_roundedSize 6 = .ok (.iload_n 3, 1) := by decide +kernel
theorem dX2_roundedSize_7 : decode cX2_roundedSize 7 = .ok (.sipush 1023, 3) := by decide +kernel
theorem dX2_roundedSize_10 : decode cX2_roundedSize 10 = .ok (.if_icmp .le 17, 3) := by decide +kernel
theorem dX2_roundedSize_13 : decode cX2_roundedSize 13 = .ok (.iload_n 2, 1) := by decide +kernel
theorem dX2_roundedSize_14 : decode cX2_roundedSize 14 = .ok (.ifCond .eq 9, 3) := by decide +kernel
theorem dX2_roundedSize_17 : decode cX2_roundedSize 17 = .ok (.ldc2_w 127, 3) := by decide +kernel
theorem dX2_roundedSize_20 : decode cX2_roundedSize 20 = .ok (.goto 6, 3) := by decide +kernel
theorem dX2_roundedSize_23 : decode cX2_roundedSize 23 = .ok (.ldc2_w 129, 3) := by decide +kernel
theorem dX2_roundedSize_26 : decode cX2_roundedSize 26 = .ok (.lreturn, 1) := by decide +kernel
theorem dX2_roundedSize_27 : decode cX2_roundedSize 27 = .ok (.aload_n 0, 1) := by decide +kernel
theorem dX2_roundedSize_28 : decode cX2_roundedSize 28 = .ok (.bipush 53, 2) := by decide +kernel
theorem dX2_roundedSize_30 : decode cX2_roundedSize 30 = .ok (.iload_n 3, 1) := by decide +kernel
theorem dX2_roundedSize_31 : decode cX2_roundedSize 31 = .ok (.sipush (-1074), 3) := by decide +kernel
theorem dX2_roundedSize_34 : decode cX2_roundedSize 34 = .ok (.isub, 1) := by decide +kernel
theorem dX2_roundedSize_35 : decode cX2_roundedSize 35 = .ok (.iconst 1, 1) := by decide +kernel
theorem dX2_roundedSize_36 : decode cX2_roundedSize 36 = .ok (.iadd, 1) := by decide +kernel
theorem dX2_roundedSize_37 : decode cX2_roundedSize 37 = .ok (.invokestatic 131, 3) := by decide +kernel
theorem dX2_roundedSize_40 : decode cX2_roundedSize 40 = .ok (.invokevirtual 137, 3) := by decide +kernel
theorem dX2_roundedSize_43 : decode cX2_roundedSize 43 = .ok (.lstore 4, 2) := by decide +kernel
theorem dX2_roundedSize_45 : decode cX2_roundedSize 45 = .ok (.iload_n 3, 1) := by decide +kernel
theorem dX2_roundedSize_46 : decode cX2_roundedSize 46 = .ok (.sipush (-1022), 3) := by decide +kernel
theorem dX2_roundedSize_49 : decode cX2_roundedSize 49 = .ok (.if_icmp .le 17, 3) := by decide +kernel
theorem dX2_roundedSize_52 : decode cX2_roundedSize 52 = .ok (.lload 4, 2) := by decide +kernel
theorem dX2_roundedSize_54 : decode cX2_roundedSize 54 = .ok (.iload_n 3, 1) := by decide +kernel
theorem dX2_roundedSize_55 : decode cX2_roundedSize 55 = .ok (.sipush (-1022), 3) := by decide +kernel
theorem dX2_roundedSize_58 : decode cX2_roundedSize 58 = .ok (.isub, 1) := by decide +kernel
theorem dX2_roundedSize_59 : decode cX2_roundedSize 59 = .ok (.i2l, 1) := by decide +kernel
theorem dX2_roundedSize_60 : decode cX2_roundedSize 60 = .ok (.bipush 52, 2) := by decide +kernel
theorem dX2_roundedSize_62 : decode cX2_roundedSize 62 = .ok (.lshl, 1) := by decide +kernel
theorem dX2_roundedSize_63 : decode cX2_roundedSize 63 = .ok (.ladd, 1) := by decide +kernel
theorem dX2_roundedSize_64 : decode cX2_roundedSize 64 = .ok (.lstore 4, 2) := by decide +kernel
theorem dX2_roundedSize_66 : decode cX2_roundedSize 66 = .ok (.iload_n 2, 1) := by decide +kernel
theorem dX2_roundedSize_67 : decode cX2_roundedSize 67 = .ok (.ifCond .eq 20, 3) := by decide +kernel
theorem dX2_roundedSize_70 : decode cX2_roundedSize 70 = .ok (.aload_n 0, 1) := by decide +kernel
theorem dX2_roundedSize_71 : decode cX2_roundedSize 71 = .ok (.getfield 22, 3) := by decide +kernel
theorem dX2_roundedSize_74 : decode cX2_roundedSize 74 = .ok (.invokevirtual 68, 3) := by decide +kernel
theorem dX2_roundedSize_77 : decode cX2_roundedSize 77 = .ok (.ifCond .ne 10, 3) := by decide +kernel
theorem dX2_roundedSize_80 : decode cX2_roundedSize 80 = .ok (.lload 4, 2) := by decide +kernel
theorem dX2_roundedSize_82 : decode cX2_roundedSize 82 = .ok (.lconst 1, 1) := by decide +kernel
theorem dX2_roundedSize_83 : decode cX2_roundedSize 83 = .ok (.ladd, 1) := by decide +kernel
theorem dX2_roundedSize_84 : decode cX2_roundedSize 84 = .ok (.goto 5, 3) := by decide +kernel
theorem dX2_roundedSize_87 : decode cX2_roundedSize 87 = .ok (.lload 4, 2) := by decide +kernel
theorem dX2_roundedSize_89 : decode cX2_roundedSize 89 = .ok (.lreturn, 1) := by decide +kernel
set_option maxRecDepth 20000 in
theorem ggX2_layOut_X1_copy : GoodIn wsX2_layOut wsX1_copy := goodIn_r _ [9, 10, 11, 12, 13, 8, 14, 15, 16, 17, 18, 19, 20, 21, 22, 23, 24, 25, 26, 27, 74, 75] (by decide +kernel) (by decide +kernel)
set_option maxRecDepth 20000 in
theorem gX2_layOut_X1_copy : GoodIn wsX2_layOut (wsV RX2 106 RX1 yX1_copy wsX1_copy) := goodIn_app (goodIn_of _ (by decide +kernel)) ggX2_layOut_X1_copy
set_option maxRecDepth 20000 in
theorem ggX2_layOut_X1_length : GoodIn wsX2_layOut wsX1_length := goodIn_r _ [31, 10, 32, 33, 34, 8, 35, 11, 12, 13, 14, 15, 74, 75] (by decide +kernel) (by decide +kernel)
set_option maxRecDepth 20000 in
theorem gX2_layOut_X1_length : GoodIn wsX2_layOut (wsV RX2 53 RX1 yX1_length wsX1_length) := goodIn_app (goodIn_of _ (by decide +kernel)) ggX2_layOut_X1_length
set_option maxRecDepth 20000 in
theorem ggX2_layOut_X2_alignTops : GoodIn wsX2_layOut wsX2_alignTops := goodIn_r _ [40, 1, 3, 41, 42, 43, 8, 44, 10, 45, 46, 47, 48, 49, 11, 12, 13, 14, 15, 16, 17, 18, 19, 20, 21, 22, 23, 24, 25, 26, 27, 66, 67, 68, 69, 74, 75] (by decide +kernel) (by decide +kernel)
set_option maxRecDepth 20000 in
theorem gX2_layOut_X2_alignTops : GoodIn wsX2_layOut (wsV RX2 116 RX2 yX2_alignTops wsX2_alignTops) := goodIn_app (goodIn_of _ (by decide +kernel)) ggX2_layOut_X2_alignTops
set_option maxRecDepth 20000 in
theorem ggX2_layOut_X1_order : GoodIn wsX2_layOut wsX1_order := goodIn_r _ [53, 10, 54, 55, 26, 56, 45, 46, 47, 8, 48, 49, 11, 12, 13, 14, 15, 74, 75] (by decide +kernel) (by decide +kernel)
set_option maxRecDepth 20000 in
theorem gX2_layOut_X1_order : GoodIn wsX2_layOut (wsV RX2 79 RX1 yX1_order wsX1_order) := goodIn_app (goodIn_of _ (by decide +kernel)) ggX2_layOut_X1_order
set_option maxRecDepth 20000 in
theorem ggX2_layOut_X0_rank : GoodIn wsX2_layOut wsX0_rank := goodIn_r _ [61, 62, 63, 64, 65, 29, 30, 8, 31, 10, 32, 33, 34, 35, 11, 12, 13, 14, 15, 70, 71, 72, 73, 74, 75] (by decide +kernel) (by decide +kernel)
set_option maxRecDepth 20000 in
theorem gX2_layOut_X0_rank : GoodIn wsX2_layOut (wsV RX2 110 RX0 yX0_rank wsX0_rank) := goodIn_app (goodIn_of _ (by decide +kernel)) ggX2_layOut_X0_rank
set_option maxRecDepth 20000 in
theorem ggX2_layOut_X1_shiftUp : GoodIn wsX2_layOut wsX1_shiftUp := goodIn_r _ [44, 10, 45, 46, 47, 8, 48, 49, 11, 12, 13, 14, 15, 16, 17, 18, 19, 20, 21, 22, 23, 24, 25, 26, 27, 74, 75] (by decide +kernel) (by decide +kernel)
set_option maxRecDepth 20000 in
theorem gX2_layOut_X1_shiftUp : GoodIn wsX2_layOut (wsV RX2 120 RX1 yX1_shiftUp wsX1_shiftUp) := goodIn_app (goodIn_of _ (by decide +kernel)) ggX2_layOut_X1_shiftUp
theorem dX2_layOut_0 : decode cX2_layOut 0 = .ok (.aload_n 0, 1) := by decide +kernel
theorem dX2_layOut_1 : decode cX2_layOut 1 = .ok (.getfield 22, 3) := by decide +kernel
theorem dX2_layOut_4 : decode cX2_layOut 4 = .ok (.aload_n 1, 1) := by decide +kernel
theorem dX2_layOut_5 : decode cX2_layOut 5 = .ok (.getfield 65, 3) := by decide +kernel
theorem dX2_layOut_8 : decode cX2_layOut 8 = .ok (.invokevirtual 106, 3) := by decide +kernel
theorem dX2_layOut_11 : decode cX2_layOut 11 = .ok (.aload_n 0, 1) := by decide +kernel
theorem dX2_layOut_12 : decode cX2_layOut 12 = .ok (.getfield 26, 3) := by decide +kernel
theorem dX2_layOut_15 : decode cX2_layOut 15 = .ok (.aload_n 1, 1) := by decide +kernel
theorem dX2_layOut_16 : decode cX2_layOut 16 = .ok (.getfield 103, 3) := by decide +kernel
theorem dX2_layOut_19 : decode cX2_layOut 19 = .ok (.invokevirtual 106, 3) := by decide +kernel
theorem dX2_layOut_22 : decode cX2_layOut 22 = .ok (.aload_n 0, 1) := by decide +kernel
theorem dX2_layOut_23 : decode cX2_layOut 23 = .ok (.aload_n 0, 1) := by decide +kernel
theorem dX2_layOut_24 : decode cX2_layOut 24 = .ok (.getfield 22, 3) := by decide +kernel
theorem dX2_layOut_27 : decode cX2_layOut 27 = .ok (.invokevirtual 53, 3) := by decide +kernel
theorem dX2_layOut_30 : decode cX2_layOut 30 = .ok (.aload_n 0, 1) := by decide +kernel
theorem dX2_layOut_31 : decode cX2_layOut 31 = .ok (.getfield 26, 3) := by decide +kernel
theorem dX2_layOut_34 : decode cX2_layOut 34 = .ok (.invokevirtual 53, 3) := by decide +kernel
theorem dX2_layOut_37 : decode cX2_layOut 37 = .ok (.isub, 1) := by decide +kernel
theorem dX2_layOut_38 : decode cX2_layOut 38 = .ok (.invokevirtual 116, 3) := by decide +kernel
theorem dX2_layOut_41 : decode cX2_layOut 41 = .ok (.aload_n 0, 1) := by decide +kernel
theorem dX2_layOut_42 : decode cX2_layOut 42 = .ok (.getfield 22, 3) := by decide +kernel
theorem dX2_layOut_45 : decode cX2_layOut 45 = .ok (.aload_n 0, 1) := by decide +kernel
theorem dX2_layOut_46 : decode cX2_layOut 46 = .ok (.getfield 26, 3) := by decide +kernel
theorem dX2_layOut_49 : decode cX2_layOut 49 = .ok (.invokevirtual 79, 3) := by decide +kernel
theorem dX2_layOut_52 : decode cX2_layOut 52 = .ok (.ifCond .lt 8, 3) := by decide +kernel
theorem dX2_layOut_55 : decode cX2_layOut 55 = .ok (.aload_n 1, 1) := by decide +kernel
theorem dX2_layOut_56 : decode cX2_layOut 56 = .ok (.invokevirtual 110, 3) := by decide +kernel
theorem dX2_layOut_59 : decode cX2_layOut 59 = .ok (.ireturn, 1) := by decide +kernel
theorem dX2_layOut_60 : decode cX2_layOut 60 = .ok (.aload_n 0, 1) := by decide +kernel
theorem dX2_layOut_61 : decode cX2_layOut 61 = .ok (.getfield 22, 3) := by decide +kernel
theorem dX2_layOut_64 : decode cX2_layOut 64 = .ok (.iconst 1, 1) := by decide +kernel
theorem dX2_layOut_65 : decode cX2_layOut 65 = .ok (.invokevirtual 120, 3) := by decide +kernel
theorem dX2_layOut_68 : decode cX2_layOut 68 = .ok (.aload_n 1, 1) := by decide +kernel
theorem dX2_layOut_69 : decode cX2_layOut 69 = .ok (.invokevirtual 110, 3) := by decide +kernel
theorem dX2_layOut_72 : decode cX2_layOut 72 = .ok (.iconst 1, 1) := by decide +kernel
theorem dX2_layOut_73 : decode cX2_layOut 73 = .ok (.isub, 1) := by decide +kernel
theorem dX2_layOut_74 : decode cX2_layOut 74 = .ok (.ireturn, 1) := by decide +kernel
set_option maxRecDepth 20000 in
theorem ggX2_quotient_X1_order : GoodIn wsX2_quotient wsX1_order := goodIn_r _ [7, 8, 9, 10, 11, 12, 13, 14, 15, 6, 16, 17, 18, 19, 20, 21, 22, 46, 47] (by decide +kernel) (by decide +kernel)
set_option maxRecDepth 20000 in
theorem gX2_quotient_X1_order : GoodIn wsX2_quotient (wsV RX2 79 RX1 yX1_order wsX1_order) := goodIn_app (goodIn_of _ (by decide +kernel)) ggX2_quotient_X1_order
set_option maxRecDepth 20000 in
theorem ggX2_quotient_X1_becomeDifference : GoodIn wsX2_quotient wsX1_becomeDifference := goodIn_r _ [26, 8, 13, 14, 15, 6, 16, 17, 18, 19, 20, 21, 22, 27, 28, 29, 30, 31, 32, 33, 34, 35, 36, 11, 37, 46, 47] (by decide +kernel) (by decide +kernel)
set_option maxRecDepth 20000 in
theorem gX2_quotient_X1_becomeDifference : GoodIn wsX2_quotient (wsV RX2 82 RX1 yX1_becomeDifference wsX1_becomeDifference) := goodIn_app (goodIn_of _ (by decide +kernel)) ggX2_quotient_X1_becomeDifference
set_option maxRecDepth 20000 in
theorem ggX2_quotient_X1_shiftUp : GoodIn wsX2_quotient wsX1_shiftUp := goodIn_r _ [41, 8, 13, 14, 15, 6, 16, 17, 18, 19, 20, 21, 22, 27, 28, 29, 30, 31, 32, 33, 34, 35, 36, 11, 37, 46, 47] (by decide +kernel) (by decide +kernel)
set_option maxRecDepth 20000 in
theorem gX2_quotient_X1_shiftUp : GoodIn wsX2_quotient (wsV RX2 120 RX1 yX1_shiftUp wsX1_shiftUp) := goodIn_app (goodIn_of _ (by decide +kernel)) ggX2_quotient_X1_shiftUp
theorem dX2_quotient_0 : decode cX2_quotient 0 = .ok (.lconst 0, 1) := by decide +kernel
theorem dX2_quotient_1 : decode cX2_quotient 1 = .ok (.lstore_n 2, 1) := by decide +kernel
theorem dX2_quotient_2 : decode cX2_quotient 2 = .ok (.iconst 0, 1) := by decide +kernel
theorem dX2_quotient_3 : decode cX2_quotient 3 = .ok (.istore 4, 2) := by decide +kernel
theorem dX2_quotient_5 : decode cX2_quotient 5 = .ok (.iload 4, 2) := by decide +kernel
theorem dX2_quotient_7 : decode cX2_quotient 7 = .ok (.iload_n 1, 1) := by decide +kernel
theorem dX2_quotient_8 : decode cX2_quotient 8 = .ok (.if_icmp .ge 54, 3) := by decide +kernel
theorem dX2_quotient_11 : decode cX2_quotient 11 = .ok (.lload_n 2, 1) := by decide +kernel
theorem dX2_quotient_12 : decode cX2_quotient 12 = .ok (.iconst 1, 1) := by decide +kernel
theorem dX2_quotient_13 : decode cX2_quotient 13 = .ok (.lshl, 1) := by decide +kernel
theorem dX2_quotient_14 : decode cX2_quotient 14 = .ok (.lstore_n 2, 1) := by decide +kernel
theorem dX2_quotient_15 : decode cX2_quotient 15 = .ok (.aload_n 0, 1) := by decide +kernel
theorem dX2_quotient_16 : decode cX2_quotient 16 = .ok (.getfield 22, 3) := by decide +kernel
theorem dX2_quotient_19 : decode cX2_quotient 19 = .ok (.aload_n 0, 1) := by decide +kernel
theorem dX2_quotient_20 : decode cX2_quotient 20 = .ok (.getfield 26, 3) := by decide +kernel
theorem dX2_quotient_23 : decode cX2_quotient 23 = .ok (.invokevirtual 79, 3) := by decide +kernel
theorem dX2_quotient_26 : decode cX2_quotient 26 = .ok (.ifCond .lt 22, 3) := by decide +kernel
theorem dX2_quotient_29 : decode cX2_quotient 29 = .ok (.aload_n 0, 1) := by decide +kernel
theorem dX2_quotient_30 : decode cX2_quotient 30 = .ok (.getfield 22, 3) := by decide +kernel
theorem dX2_quotient_33 : decode cX2_quotient 33 = .ok (.aload_n 0, 1) := by decide +kernel
theorem dX2_quotient_34 : decode cX2_quotient 34 = .ok (.getfield 22, 3) := by decide +kernel
theorem dX2_quotient_37 : decode cX2_quotient 37 = .ok (.aload_n 0, 1) := by decide +kernel
theorem dX2_quotient_38 : decode cX2_quotient 38 = .ok (.getfield 26, 3) := by decide +kernel
theorem dX2_quotient_41 : decode cX2_quotient 41 = .ok (.invokevirtual 82, 3) := by decide +kernel
theorem dX2_quotient_44 : decode cX2_quotient 44 = .ok (.lload_n 2, 1) := by decide +kernel
theorem dX2_quotient_45 : decode cX2_quotient 45 = .ok (.lconst 1, 1) := by decide +kernel
theorem dX2_quotient_46 : decode cX2_quotient 46 = .ok (.lor, 1) := by decide +kernel
theorem dX2_quotient_47 : decode cX2_quotient 47 = .ok (.lstore_n 2, 1) := by decide +kernel
theorem dX2_quotient_48 : decode cX2_quotient 48 = .ok (.aload_n 0, 1) := by decide +kernel
theorem dX2_quotient_49 : decode cX2_quotient 49 = .ok (.getfield 22, 3) := by decide +kernel
theorem dX2_quotient_52 : decode cX2_quotient 52 = .ok (.iconst 1, 1) := by decide +kernel
theorem dX2_quotient_53 : decode cX2_quotient 53 = .ok (.invokevirtual 120, 3) := by decide +kernel
theorem dX2_quotient_56 : decode cX2_quotient 56 = .ok (.iinc 4 1, 3) := by decide +kernel
theorem dX2_quotient_59 : decode cX2_quotient 59 = .ok (.goto (-54), 3) := by decide +kernel
theorem dX2_quotient_62 : decode cX2_quotient 62 = .ok (.lload_n 2, 1) := by decide +kernel
theorem dX2_quotient_63 : decode cX2_quotient 63 = .ok (.lreturn, 1) := by decide +kernel
theorem dJ9_max_7cf53_0 : decode cJ9_max_7cf53 0 = .ok (.iload_n 0, 1) := by decide +kernel
theorem dJ9_max_7cf53_1 : decode cJ9_max_7cf53 1 = .ok (.iload_n 1, 1) := by decide +kernel
theorem dJ9_max_7cf53_2 : decode cJ9_max_7cf53 2 = .ok (.if_icmp .lt 7, 3) := by decide +kernel
theorem dJ9_max_7cf53_5 : decode cJ9_max_7cf53 5 = .ok (.iload_n 0, 1) := by decide +kernel
theorem dJ9_max_7cf53_6 : decode cJ9_max_7cf53 6 = .ok (.goto 4, 3) := by decide +kernel
theorem dJ9_max_7cf53_9 : decode cJ9_max_7cf53 9 = .ok (.iload_n 1, 1) := by decide +kernel
theorem dJ9_max_7cf53_10 : decode cJ9_max_7cf53 10 = .ok (.ireturn, 1) := by decide +kernel
theorem dJ9_min_7cf53_0 : decode cJ9_min_7cf53 0 = .ok (.iload_n 0, 1) := by decide +kernel
theorem dJ9_min_7cf53_1 : decode cJ9_min_7cf53 1 = .ok (.iload_n 1, 1) := by decide +kernel
theorem dJ9_min_7cf53_2 : decode cJ9_min_7cf53 2 = .ok (.if_icmp .gt 7, 3) := by decide +kernel
theorem dJ9_min_7cf53_5 : decode cJ9_min_7cf53 5 = .ok (.iload_n 0, 1) := by decide +kernel
theorem dJ9_min_7cf53_6 : decode cJ9_min_7cf53 6 = .ok (.goto 4, 3) := by decide +kernel
theorem dJ9_min_7cf53_9 : decode cJ9_min_7cf53 9 = .ok (.iload_n 1, 1) := by decide +kernel
theorem dJ9_min_7cf53_10 : decode cJ9_min_7cf53 10 = .ok (.ireturn, 1) := by decide +kernel
theorem dL_law_0 : decode cL_law 0 = .ok (.new 7, 3) := by decide +kernel
theorem dL_law_3 : decode cL_law 3 = .ok (.dup, 1) := by decide +kernel
theorem dL_law_4 : decode cL_law 4 = .ok (.invokespecial 9, 3) := by decide +kernel
theorem dL_law_7 : decode cL_law 7 = .ok (.astore_n 1, 1) := by decide +kernel
theorem dL_law_8 : decode cL_law 8 = .ok (.new 10, 3) := by decide +kernel
theorem dL_law_11 : decode cL_law 11 = .ok (.dup, 1) := by decide +kernel
theorem dL_law_12 : decode cL_law 12 = .ok (.invokespecial 12, 3) := by decide +kernel
theorem dL_law_15 : decode cL_law 15 = .ok (.astore_n 2, 1) := by decide +kernel
theorem dL_law_16 : decode cL_law 16 = .ok (.iconst 0, 1) := by decide +kernel
theorem dL_law_17 : decode cL_law 17 = .ok (.istore_n 3, 1) := by decide +kernel
theorem dL_law_18 : decode cL_law 18 = .ok (.iload_n 3, 1) := by decide +kernel
theorem dL_law_19 : decode cL_law 19 = .ok (.aload_n 0, 1) := by decide +kernel
theorem dL_law_20 : decode cL_law 20 = .ok (.arraylength, 1) := by decide +kernel
theorem dL_law_21 : decode cL_law 21 = .ok (.iconst 5, 1) := by decide +kernel
theorem dL_law_22 : decode cL_law 22 = .ok (.isub, 1) := by decide +kernel
theorem dL_law_23 : decode cL_law 23 = .ok (.if_icmp .gt 490, 3) := by decide +kernel
theorem dL_law_26 : decode cL_law 26 = .ok (.aload_n 0, 1) := by decide +kernel
theorem dL_law_27 : decode cL_law 27 = .ok (.iload_n 3, 1) := by decide +kernel
theorem dL_law_28 : decode cL_law 28 = .ok (.iaload, 1) := by decide +kernel
theorem dL_law_29 : decode cL_law 29 = .ok (.bipush 15, 2) := by decide +kernel
theorem dL_law_31 : decode cL_law 31 = .ok (.iand, 1) := by decide +kernel
theorem dL_law_32 : decode cL_law 32 = .ok (.tableswitch 475 0 9 #[56, 79, 132, 205, 264, 287, 336, 369, 412, 425], 56) := by decide +kernel
theorem dL_law_88 : decode cL_law 88 = .ok (.aload_n 1, 1) := by decide +kernel
theorem dL_law_89 : decode cL_law 89 = .ok (.aload_n 0, 1) := by decide +kernel
theorem dL_law_90 : decode cL_law 90 = .ok (.iload_n 3, 1) := by decide +kernel
theorem dL_law_91 : decode cL_law 91 = .ok (.iconst 1, 1) := by decide +kernel
theorem dL_law_92 : decode cL_law 92 = .ok (.iadd, 1) := by decide +kernel
theorem dL_law_93 : decode cL_law 93 = .ok (.iaload, 1) := by decide +kernel
theorem dL_law_94 : decode cL_law 94 = .ok (.invokevirtual 13, 3) := by decide +kernel
theorem dL_law_97 : decode cL_law 97 = .ok (.aload_n 2, 1) := by decide +kernel
theorem dL_law_98 : decode cL_law 98 = .ok (.aload_n 0, 1) := by decide +kernel
theorem dL_law_99 : decode cL_law 99 = .ok (.iload_n 3, 1) := by decide +kernel
theorem dL_law_100 : decode cL_law 100 = .ok (.iconst 1, 1) := by decide +kernel
theorem dL_law_101 : decode cL_law 101 = .ok (.iadd, 1) := by decide +kernel
theorem dL_law_102 : decode cL_law 102 = .ok (.iaload, 1) := by decide +kernel
theorem dL_law_103 : decode cL_law 103 = .ok (.invokevirtual 17, 3) := by decide +kernel
theorem dL_law_106 : decode cL_law 106 = .ok (.if_icmp .eq 401, 3) := by decide +kernel
theorem dL_law_109 : decode cL_law 109 = .ok (.iconst 0, 1) := by decide +kernel
theorem dL_law_110 : decode cL_law 110 = .ok (.ireturn, 1) := by decide +kernel
theorem dL_law_111 : decode cL_law 111 = .ok (.aload_n 1, 1) := by decide +kernel
theorem dL_law_112 : decode cL_law 112 = .ok (.aload_n 0, 1) := by decide +kernel
theorem dL_law_113 : decode cL_law 113 = .ok (.iload_n 3, 1) := by decide +kernel
theorem dL_law_114 : decode cL_law 114 = .ok (.iconst 1, 1) := by decide +kernel
theorem dL_law_115 : decode cL_law 115 = .ok (.iadd, 1) := by decide +kernel
theorem dL_law_116 : decode cL_law 116 = .ok (.iaload, 1) := by decide +kernel
theorem dL_law_117 : decode cL_law 117 = .ok (.aload_n 0, 1) := by decide +kernel
theorem dL_law_118 : decode cL_law 118 = .ok (.iload_n 3, 1) := by decide +kernel
theorem dL_law_119 : decode cL_law 119 = .ok (.iconst 2, 1) := by decide +kernel
theorem dL_law_120 : decode cL_law 120 = .ok (.iadd, 1) := by decide +kernel
theorem dL_law_121 : decode cL_law 121 = .ok (.iaload, 1) := by decide +kernel
theorem dL_law_122 : decode cL_law 122 = .ok (.aload_n 0, 1) := by decide +kernel
theorem dL_law_123 : decode cL_law 123 = .ok (.iload_n 3, 1) := by decide +kernel
theorem dL_law_124 : decode cL_law 124 = .ok (.iconst 3, 1) := by decide +kernel
theorem dL_law_125 : decode cL_law 125 = .ok (.iadd, 1) := by decide +kernel
theorem dL_law_126 : decode cL_law 126 = .ok (.iaload, 1) := by decide +kernel
theorem dL_law_127 : decode cL_law 127 = .ok (.aload_n 0, 1) := by decide +kernel
theorem dL_law_128 : decode cL_law 128 = .ok (.iload_n 3, 1) := by decide +kernel
theorem dL_law_129 : decode cL_law 129 = .ok (.iconst 4, 1) := by decide +kernel
theorem dL_law_130 : decode cL_law 130 = .ok (.iadd, 1) := by decide +kernel
theorem dL_law_131 : decode cL_law 131 = .ok (.iaload, 1) := by decide +kernel
theorem dL_law_132 : decode cL_law 132 = .ok (.invokevirtual 18, 3) := by decide +kernel
theorem dL_law_135 : decode cL_law 135 = .ok (.aload_n 2, 1) := by decide +kernel
theorem dL_law_136 : decode cL_law 136 = .ok (.aload_n 0, 1) := by decide +kernel
theorem dL_law_137 : decode cL_law 137 = .ok (.iload_n 3, 1) := by decide +kernel
theorem dL_law_138 : decode cL_law 138 = .ok (.iconst 1, 1) := by decide +kernel
theorem dL_law_139 : decode cL_law 139 = .ok (.iadd, 1) := by decide +kernel
theorem dL_law_140 : decode cL_law 140 = .ok (.iaload, 1) := by decide +kernel
theorem dL_law_141 : decode cL_law 141 = .ok (.aload_n 0, 1) := by decide +kernel
theorem dL_law_142 : decode cL_law 142 = .ok (.iload_n 3, 1) := by decide +kernel
theorem dL_law_143 : decode cL_law 143 = .ok (.iconst 2, 1) := by decide +kernel
theorem dL_law_144 : decode cL_law 144 = .ok (.iadd, 1) := by decide +kernel
theorem dL_law_145 : decode cL_law 145 = .ok (.iaload, 1) := by decide +kernel
theorem dL_law_146 : decode cL_law 146 = .ok (.aload_n 0, 1) := by decide +kernel
theorem dL_law_147 : decode cL_law 147 = .ok (.iload_n 3, 1) := by decide +kernel
theorem dL_law_148 : decode cL_law 148 = .ok (.iconst 3, 1) := by decide +kernel
theorem dL_law_149 : decode cL_law 149 = .ok (.iadd, 1) := by decide +kernel
theorem dL_law_150 : decode cL_law 150 = .ok (.iaload, 1) := by decide +kernel
theorem dL_law_151 : decode cL_law 151 = .ok (.aload_n 0, 1) := by decide +kernel
theorem dL_law_152 : decode cL_law 152 = .ok (.iload_n 3, 1) := by decide +kernel
theorem dL_law_153 : decode cL_law 153 = .ok (.iconst 4, 1) := by decide +kernel
theorem dL_law_154 : decode cL_law 154 = .ok (.iadd, 1) := by decide +kernel
theorem dL_law_155 : decode cL_law 155 = .ok (.iaload, 1) := by decide +kernel
theorem dL_law_156 : decode cL_law 156 = .ok (.invokevirtual 22, 3) := by decide +kernel
end
section
theorem dL_law_159 : decode cL_law 159 = .ok (.if_icmp .eq 348, 3) := by decide +kernel
theorem dL_law_162 : decode cL_law 162 = .ok (.iconst 0, 1) := by decide +kernel
theorem dL_law_163 : decode cL_law 163 = .ok (.ireturn, 1) := by decide +kernel
theorem dL_law_164 : decode cL_law 164 = .ok (.aload_n 1, 1) := by decide +kernel
theorem dL_law_165 : decode cL_law 165 = .ok (.aload_n 0, 1) := by decide +kernel
theorem dL_law_166 : decode cL_law 166 = .ok (.iload_n 3, 1) := by decide +kernel
theorem dL_law_167 : decode cL_law 167 = .ok (.iconst 1, 1) := by decide +kernel
theorem dL_law_168 : decode cL_law 168 = .ok (.iadd, 1) := by decide +kernel
theorem dL_law_169 : decode cL_law 169 = .ok (.iaload, 1) := by decide +kernel
theorem dL_law_170 : decode cL_law 170 = .ok (.aload_n 0, 1) := by decide +kernel
theorem dL_law_171 : decode cL_law 171 = .ok (.iload_n 3, 1) := by decide +kernel
theorem dL_law_172 : decode cL_law 172 = .ok (.iconst 2, 1) := by decide +kernel
theorem dL_law_173 : decode cL_law 173 = .ok (.iadd, 1) := by decide +kernel
theorem dL_law_174 : decode cL_law 174 = .ok (.iaload, 1) := by decide +kernel
theorem dL_law_175 : decode cL_law 175 = .ok (.aload_n 0, 1) := by decide +kernel
theorem dL_law_176 : decode cL_law 176 = .ok (.iload_n 3, 1) := by decide +kernel
theorem dL_law_177 : decode cL_law 177 = .ok (.iconst 3, 1) := by decide +kernel
theorem dL_law_178 : decode cL_law 178 = .ok (.iadd, 1) := by decide +kernel
theorem dL_law_179 : decode cL_law 179 = .ok (.iaload, 1) := by decide +kernel
theorem dL_law_180 : decode cL_law 180 = .ok (.i2l, 1) := by decide +kernel
theorem dL_law_181 : decode cL_law 181 = .ok (.bipush 32, 2) := by decide +kernel
theorem dL_law_183 : decode cL_law 183 = .ok (.lshl, 1) := by decide +kernel
theorem dL_law_184 : decode cL_law 184 = .ok (.aload_n 0, 1) := by decide +kernel
theorem dL_law_185 : decode cL_law 185 = .ok (.iload_n 3, 1) := by decide +kernel
theorem dL_law_186 : decode cL_law 186 = .ok (.iconst 4, 1) := by decide +kernel
theorem dL_law_187 : decode cL_law 187 = .ok (.iadd, 1) := by decide +kernel
theorem dL_law_188 : decode cL_law 188 = .ok (.iaload, 1) := by decide +kernel
theorem dL_law_189 : decode cL_law 189 = .ok (.i2l, 1) := by decide +kernel
theorem dL_law_190 : decode cL_law 190 = .ok (.ldc2_w 23, 3) := by decide +kernel
theorem dL_law_193 : decode cL_law 193 = .ok (.land, 1) := by decide +kernel
theorem dL_law_194 : decode cL_law 194 = .ok (.lor, 1) := by decide +kernel
theorem dL_law_195 : decode cL_law 195 = .ok (.invokevirtual 25, 3) := by decide +kernel
theorem dL_law_198 : decode cL_law 198 = .ok (.aload_n 2, 1) := by decide +kernel
theorem dL_law_199 : decode cL_law 199 = .ok (.aload_n 0, 1) := by decide +kernel
theorem dL_law_200 : decode cL_law 200 = .ok (.iload_n 3, 1) := by decide +kernel
theorem dL_law_201 : decode cL_law 201 = .ok (.iconst 1, 1) := by decide +kernel
theorem dL_law_202 : decode cL_law 202 = .ok (.iadd, 1) := by decide +kernel
theorem dL_law_203 : decode cL_law 203 = .ok (.iaload, 1) := by decide +kernel
theorem dL_law_204 : decode cL_law 204 = .ok (.aload_n 0, 1) := by decide +kernel
theorem dL_law_205 : decode cL_law 205 = .ok (.iload_n 3, 1) := by decide +kernel
theorem dL_law_206 : decode cL_law 206 = .ok (.iconst 2, 1) := by decide +kernel
theorem dL_law_207 : decode cL_law 207 = .ok (.iadd, 1) := by decide +kernel
theorem dL_law_208 : decode cL_law 208 = .ok (.iaload, 1) := by decide +kernel
theorem dL_law_209 : decode cL_law 209 = .ok (.aload_n 0, 1) := by decide +kernel
theorem dL_law_210 : decode cL_law 210 = .ok (.iload_n 3, 1) := by decide +kernel
theorem dL_law_211 : decode cL_law 211 = .ok (.iconst 3, 1) := by decide +kernel
theorem dL_law_212 : decode cL_law 212 = .ok (.iadd, 1) := by decide +kernel
theorem dL_law_213 : decode cL_law 213 = .ok (.iaload, 1) := by decide +kernel
theorem dL_law_214 : decode cL_law 214 = .ok (.i2l, 1) := by decide +kernel
theorem dL_law_215 : decode cL_law 215 = .ok (.bipush 32, 2) := by decide +kernel
theorem dL_law_217 : decode cL_law 217 = .ok (.lshl, 1) := by decide +kernel
theorem dL_law_218 : decode cL_law 218 = .ok (.aload_n 0, 1) := by decide +kernel
theorem dL_law_219 : decode cL_law 219 = .ok (.iload_n 3, 1) := by decide +kernel
theorem dL_law_220 : decode cL_law 220 = .ok (.iconst 4, 1) := by decide +kernel
theorem dL_law_221 : decode cL_law 221 = .ok (.iadd, 1) := by decide +kernel
theorem dL_law_222 : decode cL_law 222 = .ok (.iaload, 1) := by decide +kernel
theorem dL_law_223 : decode cL_law 223 = .ok (.i2l, 1) := by decide +kernel
theorem dL_law_224 : decode cL_law 224 = .ok (.ldc2_w 23, 3) := by decide +kernel
theorem dL_law_227 : decode cL_law 227 = .ok (.land, 1) := by decide +kernel
theorem dL_law_228 : decode cL_law 228 = .ok (.lor, 1) := by decide +kernel
theorem dL_law_229 : decode cL_law 229 = .ok (.invokevirtual 29, 3) := by decide +kernel
theorem dL_law_232 : decode cL_law 232 = .ok (.if_icmp .eq 275, 3) := by decide +kernel
theorem dL_law_235 : decode cL_law 235 = .ok (.iconst 0, 1) := by decide +kernel
theorem dL_law_236 : decode cL_law 236 = .ok (.ireturn, 1) := by decide +kernel
theorem dL_law_237 : decode cL_law 237 = .ok (.aload_n 1, 1) := by decide +kernel
theorem dL_law_238 : decode cL_law 238 = .ok (.aload_n 0, 1) := by decide +kernel
theorem dL_law_239 : decode cL_law 239 = .ok (.iload_n 3, 1) := by decide +kernel
theorem dL_law_240 : decode cL_law 240 = .ok (.iconst 1, 1) := by decide +kernel
theorem dL_law_241 : decode cL_law 241 = .ok (.iadd, 1) := by decide +kernel
theorem dL_law_242 : decode cL_law 242 = .ok (.iaload, 1) := by decide +kernel
theorem dL_law_243 : decode cL_law 243 = .ok (.aload_n 0, 1) := by decide +kernel
theorem dL_law_244 : decode cL_law 244 = .ok (.iload_n 3, 1) := by decide +kernel
theorem dL_law_245 : decode cL_law 245 = .ok (.iconst 2, 1) := by decide +kernel
theorem dL_law_246 : decode cL_law 246 = .ok (.iadd, 1) := by decide +kernel
theorem dL_law_247 : decode cL_law 247 = .ok (.iaload, 1) := by decide +kernel
theorem dL_law_248 : decode cL_law 248 = .ok (.ifCond .eq 7, 3) := by decide +kernel
theorem dL_law_251 : decode cL_law 251 = .ok (.iconst 1, 1) := by decide +kernel
theorem dL_law_252 : decode cL_law 252 = .ok (.goto 4, 3) := by decide +kernel
theorem dL_law_255 : decode cL_law 255 = .ok (.iconst 0, 1) := by decide +kernel
theorem dL_law_256 : decode cL_law 256 = .ok (.aload_n 0, 1) := by decide +kernel
theorem dL_law_257 : decode cL_law 257 = .ok (.iload_n 3, 1) := by decide +kernel
theorem dL_law_258 : decode cL_law 258 = .ok (.iconst 3, 1) := by decide +kernel
theorem dL_law_259 : decode cL_law 259 = .ok (.iadd, 1) := by decide +kernel
theorem dL_law_260 : decode cL_law 260 = .ok (.iaload, 1) := by decide +kernel
theorem dL_law_261 : decode cL_law 261 = .ok (.invokevirtual 30, 3) := by decide +kernel
theorem dL_law_264 : decode cL_law 264 = .ok (.aload_n 2, 1) := by decide +kernel
theorem dL_law_265 : decode cL_law 265 = .ok (.aload_n 0, 1) := by decide +kernel
theorem dL_law_266 : decode cL_law 266 = .ok (.iload_n 3, 1) := by decide +kernel
theorem dL_law_267 : decode cL_law 267 = .ok (.iconst 1, 1) := by decide +kernel
theorem dL_law_268 : decode cL_law 268 = .ok (.iadd, 1) := by decide +kernel
theorem dL_law_269 : decode cL_law 269 = .ok (.iaload, 1) := by decide +kernel
theorem dL_law_270 : decode cL_law 270 = .ok (.aload_n 0, 1) := by decide +kernel
theorem dL_law_271 : decode cL_law 271 = .ok (.iload_n 3, 1) := by decide +kernel
theorem dL_law_272 : decode cL_law 272 = .ok (.iconst 2, 1) := by decide +kernel
theorem dL_law_273 : decode cL_law 273 = .ok (.iadd, 1) := by decide +kernel
theorem dL_law_274 : decode cL_law 274 = .ok (.iaload, 1) := by decide +kernel
theorem dL_law_275 : decode cL_law 275 = .ok (.ifCond .eq 7, 3) := by decide +kernel
theorem dL_law_278 : decode cL_law 278 = .ok (.iconst 1, 1) := by decide +kernel
theorem dL_law_279 : decode cL_law 279 = .ok (.goto 4, 3) := by decide +kernel
theorem dL_law_282 : decode cL_law 282 = .ok (.iconst 0, 1) := by decide +kernel
theorem dL_law_283 : decode cL_law 283 = .ok (.aload_n 0, 1) := by decide +kernel
theorem dL_law_284 : decode cL_law 284 = .ok (.iload_n 3, 1) := by decide +kernel
theorem dL_law_285 : decode cL_law 285 = .ok (.iconst 3, 1) := by decide +kernel
theorem dL_law_286 : decode cL_law 286 = .ok (.iadd, 1) := by decide +kernel
theorem dL_law_287 : decode cL_law 287 = .ok (.iaload, 1) := by decide +kernel
theorem dL_law_288 : decode cL_law 288 = .ok (.invokevirtual 34, 3) := by decide +kernel
theorem dL_law_291 : decode cL_law 291 = .ok (.if_icmp .eq 216, 3) := by decide +kernel
theorem dL_law_294 : decode cL_law 294 = .ok (.iconst 0, 1) := by decide +kernel
theorem dL_law_295 : decode cL_law 295 = .ok (.ireturn, 1) := by decide +kernel
theorem dL_law_296 : decode cL_law 296 = .ok (.aload_n 1, 1) := by decide +kernel
theorem dL_law_297 : decode cL_law 297 = .ok (.aload_n 0, 1) := by decide +kernel
theorem dL_law_298 : decode cL_law 298 = .ok (.iload_n 3, 1) := by decide +kernel
theorem dL_law_299 : decode cL_law 299 = .ok (.iconst 1, 1) := by decide +kernel
theorem dL_law_300 : decode cL_law 300 = .ok (.iadd, 1) := by decide +kernel
theorem dL_law_301 : decode cL_law 301 = .ok (.iaload, 1) := by decide +kernel
theorem dL_law_302 : decode cL_law 302 = .ok (.invokevirtual 35, 3) := by decide +kernel
theorem dL_law_305 : decode cL_law 305 = .ok (.aload_n 2, 1) := by decide +kernel
theorem dL_law_306 : decode cL_law 306 = .ok (.aload_n 0, 1) := by decide +kernel
theorem dL_law_307 : decode cL_law 307 = .ok (.iload_n 3, 1) := by decide +kernel
theorem dL_law_308 : decode cL_law 308 = .ok (.iconst 1, 1) := by decide +kernel
theorem dL_law_309 : decode cL_law 309 = .ok (.iadd, 1) := by decide +kernel
theorem dL_law_310 : decode cL_law 310 = .ok (.iaload, 1) := by decide +kernel
theorem dL_law_311 : decode cL_law 311 = .ok (.invokevirtual 38, 3) := by decide +kernel
theorem dL_law_314 : decode cL_law 314 = .ok (.if_icmp .eq 193, 3) := by decide +kernel
theorem dL_law_317 : decode cL_law 317 = .ok (.iconst 0, 1) := by decide +kernel
theorem dL_law_318 : decode cL_law 318 = .ok (.ireturn, 1) := by decide +kernel
theorem dL_law_319 : decode cL_law 319 = .ok (.aload_n 1, 1) := by decide +kernel
theorem dL_law_320 : decode cL_law 320 = .ok (.aload_n 0, 1) := by decide +kernel
theorem dL_law_321 : decode cL_law 321 = .ok (.iload_n 3, 1) := by decide +kernel
theorem dL_law_322 : decode cL_law 322 = .ok (.iconst 1, 1) := by decide +kernel
theorem dL_law_323 : decode cL_law 323 = .ok (.iadd, 1) := by decide +kernel
theorem dL_law_324 : decode cL_law 324 = .ok (.iaload, 1) := by decide +kernel
theorem dL_law_325 : decode cL_law 325 = .ok (.aload_n 0, 1) := by decide +kernel
theorem dL_law_326 : decode cL_law 326 = .ok (.iload_n 3, 1) := by decide +kernel
theorem dL_law_327 : decode cL_law 327 = .ok (.iconst 2, 1) := by decide +kernel
theorem dL_law_328 : decode cL_law 328 = .ok (.iadd, 1) := by decide +kernel
theorem dL_law_329 : decode cL_law 329 = .ok (.iaload, 1) := by decide +kernel
theorem dL_law_330 : decode cL_law 330 = .ok (.ifCond .eq 7, 3) := by decide +kernel
theorem dL_law_333 : decode cL_law 333 = .ok (.iconst 1, 1) := by decide +kernel
theorem dL_law_334 : decode cL_law 334 = .ok (.goto 4, 3) := by decide +kernel
theorem dL_law_337 : decode cL_law 337 = .ok (.iconst 0, 1) := by decide +kernel
theorem dL_law_338 : decode cL_law 338 = .ok (.invokevirtual 39, 3) := by decide +kernel
theorem dL_law_341 : decode cL_law 341 = .ok (.aload_n 2, 1) := by decide +kernel
theorem dL_law_342 : decode cL_law 342 = .ok (.aload_n 0, 1) := by decide +kernel
theorem dL_law_343 : decode cL_law 343 = .ok (.iload_n 3, 1) := by decide +kernel
theorem dL_law_344 : decode cL_law 344 = .ok (.iconst 1, 1) := by decide +kernel
theorem dL_law_345 : decode cL_law 345 = .ok (.iadd, 1) := by decide +kernel
theorem dL_law_346 : decode cL_law 346 = .ok (.iaload, 1) := by decide +kernel
theorem dL_law_347 : decode cL_law 347 = .ok (.aload_n 0, 1) := by decide +kernel
theorem dL_law_348 : decode cL_law 348 = .ok (.iload_n 3, 1) := by decide +kernel
theorem dL_law_349 : decode cL_law 349 = .ok (.iconst 2, 1) := by decide +kernel
theorem dL_law_350 : decode cL_law 350 = .ok (.iadd, 1) := by decide +kernel
theorem dL_law_351 : decode cL_law 351 = .ok (.iaload, 1) := by decide +kernel
theorem dL_law_352 : decode cL_law 352 = .ok (.ifCond .eq 7, 3) := by decide +kernel
theorem dL_law_355 : decode cL_law 355 = .ok (.iconst 1, 1) := by decide +kernel
theorem dL_law_356 : decode cL_law 356 = .ok (.goto 4, 3) := by decide +kernel
theorem dL_law_359 : decode cL_law 359 = .ok (.iconst 0, 1) := by decide +kernel
theorem dL_law_360 : decode cL_law 360 = .ok (.invokevirtual 43, 3) := by decide +kernel
theorem dL_law_363 : decode cL_law 363 = .ok (.if_icmp .eq 144, 3) := by decide +kernel
theorem dL_law_366 : decode cL_law 366 = .ok (.iconst 0, 1) := by decide +kernel
theorem dL_law_367 : decode cL_law 367 = .ok (.ireturn, 1) := by decide +kernel
theorem dL_law_368 : decode cL_law 368 = .ok (.aload_n 1, 1) := by decide +kernel
theorem dL_law_369 : decode cL_law 369 = .ok (.aload_n 0, 1) := by decide +kernel
theorem dL_law_370 : decode cL_law 370 = .ok (.iload_n 3, 1) := by decide +kernel
theorem dL_law_371 : decode cL_law 371 = .ok (.iconst 1, 1) := by decide +kernel
theorem dL_law_372 : decode cL_law 372 = .ok (.iadd, 1) := by decide +kernel
theorem dL_law_373 : decode cL_law 373 = .ok (.iaload, 1) := by decide +kernel
theorem dL_law_374 : decode cL_law 374 = .ok (.aload_n 0, 1) := by decide +kernel
theorem dL_law_375 : decode cL_law 375 = .ok (.iload_n 3, 1) := by decide +kernel
theorem dL_law_376 : decode cL_law 376 = .ok (.iconst 2, 1) := by decide +kernel
theorem dL_law_377 : decode cL_law 377 = .ok (.iadd, 1) := by decide +kernel
theorem dL_law_378 : decode cL_law 378 = .ok (.iaload, 1) := by decide +kernel
theorem dL_law_379 : decode cL_law 379 = .ok (.invokevirtual 44, 3) := by decide +kernel
theorem dL_law_382 : decode cL_law 382 = .ok (.aload_n 2, 1) := by decide +kernel
theorem dL_law_383 : decode cL_law 383 = .ok (.aload_n 0, 1) := by decide +kernel
theorem dL_law_384 : decode cL_law 384 = .ok (.iload_n 3, 1) := by decide +kernel
theorem dL_law_385 : decode cL_law 385 = .ok (.iconst 1, 1) := by decide +kernel
theorem dL_law_386 : decode cL_law 386 = .ok (.iadd, 1) := by decide +kernel
theorem dL_law_387 : decode cL_law 387 = .ok (.iaload, 1) := by decide +kernel
theorem dL_law_388 : decode cL_law 388 = .ok (.aload_n 0, 1) := by decide +kernel
theorem dL_law_389 : decode cL_law 389 = .ok (.iload_n 3, 1) := by decide +kernel
theorem dL_law_390 : decode cL_law 390 = .ok (.iconst 2, 1) := by decide +kernel
theorem dL_law_391 : decode cL_law 391 = .ok (.iadd, 1) := by decide +kernel
theorem dL_law_392 : decode cL_law 392 = .ok (.iaload, 1) := by decide +kernel
theorem dL_law_393 : decode cL_law 393 = .ok (.invokevirtual 48, 3) := by decide +kernel
theorem dL_law_396 : decode cL_law 396 = .ok (.if_icmp .eq 111, 3) := by decide +kernel
theorem dL_law_399 : decode cL_law 399 = .ok (.iconst 0, 1) := by decide +kernel
theorem dL_law_400 : decode cL_law 400 = .ok (.ireturn, 1) := by decide +kernel
theorem dL_law_401 : decode cL_law 401 = .ok (.aload_n 1, 1) := by decide +kernel
theorem dL_law_402 : decode cL_law 402 = .ok (.aload_n 0, 1) := by decide +kernel
theorem dL_law_403 : decode cL_law 403 = .ok (.iload_n 3, 1) := by decide +kernel
theorem dL_law_404 : decode cL_law 404 = .ok (.iconst 1, 1) := by decide +kernel
theorem dL_law_405 : decode cL_law 405 = .ok (.iadd, 1) := by decide +kernel
theorem dL_law_406 : decode cL_law 406 = .ok (.iaload, 1) := by decide +kernel
theorem dL_law_407 : decode cL_law 407 = .ok (.aload_n 0, 1) := by decide +kernel
theorem dL_law_408 : decode cL_law 408 = .ok (.iload_n 3, 1) := by decide +kernel
theorem dL_law_409 : decode cL_law 409 = .ok (.iconst 2, 1) := by decide +kernel
theorem dL_law_410 : decode cL_law 410 = .ok (.iadd, 1) := by decide +kernel
theorem dL_law_411 : decode cL_law 411 = .ok (.iaload, 1) := by decide +kernel
theorem dL_law_412 : decode cL_law 412 = .ok (.aload_n 0, 1) := by decide +kernel
theorem dL_law_413 : decode cL_law 413 = .ok (.iload_n 3, 1) := by decide +kernel
theorem dL_law_414 : decode cL_law 414 = .ok (.iconst 3, 1) := by decide +kernel
theorem dL_law_415 : decode cL_law 415 = .ok (.iadd, 1) := by decide +kernel
theorem dL_law_416 : decode cL_law 416 = .ok (.iaload, 1) := by decide +kernel
theorem dL_law_417 : decode cL_law 417 = .ok (.invokevirtual 49, 3) := by decide +kernel
theorem dL_law_420 : decode cL_law 420 = .ok (.aload_n 2, 1) := by decide +kernel
theorem dL_law_421 : decode cL_law 421 = .ok (.aload_n 0, 1) := by decide +kernel
theorem dL_law_422 : decode cL_law 422 = .ok (.iload_n 3, 1) := by decide +kernel
theorem dL_law_423 : decode cL_law 423 = .ok (.iconst 1, 1) := by decide +kernel
theorem dL_law_424 : decode cL_law 424 = .ok (.iadd, 1) := by decide +kernel
theorem dL_law_425 : decode cL_law 425 = .ok (.iaload, 1) := by decide +kernel
theorem dL_law_426 : decode cL_law 426 = .ok (.aload_n 0, 1) := by decide +kernel
theorem dL_law_427 : decode cL_law 427 = .ok (.iload_n 3, 1) := by decide +kernel
theorem dL_law_428 : decode cL_law 428 = .ok (.iconst 2, 1) := by decide +kernel
theorem dL_law_429 : decode cL_law 429 = .ok (.iadd, 1) := by decide +kernel
theorem dL_law_430 : decode cL_law 430 = .ok (.iaload, 1) := by decide +kernel
theorem dL_law_431 : decode cL_law 431 = .ok (.aload_n 0, 1) := by decide +kernel
theorem dL_law_432 : decode cL_law 432 = .ok (.iload_n 3, 1) := by decide +kernel
theorem dL_law_433 : decode cL_law 433 = .ok (.iconst 3, 1) := by decide +kernel
theorem dL_law_434 : decode cL_law 434 = .ok (.iadd, 1) := by decide +kernel
theorem dL_law_435 : decode cL_law 435 = .ok (.iaload, 1) := by decide +kernel
theorem dL_law_436 : decode cL_law 436 = .ok (.invokevirtual 53, 3) := by decide +kernel
theorem dL_law_439 : decode cL_law 439 = .ok (.if_icmp .eq 68, 3) := by decide +kernel
theorem dL_law_442 : decode cL_law 442 = .ok (.iconst 0, 1) := by decide +kernel
theorem dL_law_443 : decode cL_law 443 = .ok (.ireturn, 1) := by decide +kernel
theorem dL_law_444 : decode cL_law 444 = .ok (.aload_n 1, 1) := by decide +kernel
theorem dL_law_445 : decode cL_law 445 = .ok (.invokevirtual 54, 3) := by decide +kernel
theorem dL_law_448 : decode cL_law 448 = .ok (.aload_n 2, 1) := by decide +kernel
theorem dL_law_449 : decode cL_law 449 = .ok (.invokevirtual 58, 3) := by decide +kernel
theorem dL_law_452 : decode cL_law 452 = .ok (.if_icmp .eq 55, 3) := by decide +kernel
theorem dL_law_455 : decode cL_law 455 = .ok (.iconst 0, 1) := by decide +kernel
theorem dL_law_456 : decode cL_law 456 = .ok (.ireturn, 1) := by decide +kernel
theorem dL_law_457 : decode cL_law 457 = .ok (.aload_n 1, 1) := by decide +kernel
theorem dL_law_458 : decode cL_law 458 = .ok (.aload_n 0, 1) := by decide +kernel
theorem dL_law_459 : decode cL_law 459 = .ok (.iload_n 3, 1) := by decide +kernel
theorem dL_law_460 : decode cL_law 460 = .ok (.iconst 1, 1) := by decide +kernel
theorem dL_law_461 : decode cL_law 461 = .ok (.iadd, 1) := by decide +kernel
theorem dL_law_462 : decode cL_law 462 = .ok (.iaload, 1) := by decide +kernel
theorem dL_law_463 : decode cL_law 463 = .ok (.aload_n 0, 1) := by decide +kernel
theorem dL_law_464 : decode cL_law 464 = .ok (.iload_n 3, 1) := by decide +kernel
theorem dL_law_465 : decode cL_law 465 = .ok (.iconst 2, 1) := by decide +kernel
theorem dL_law_466 : decode cL_law 466 = .ok (.iadd, 1) := by decide +kernel
theorem dL_law_467 : decode cL_law 467 = .ok (.iaload, 1) := by decide +kernel
theorem dL_law_468 : decode cL_law 468 = .ok (.ifCond .eq 7, 3) := by decide +kernel
theorem dL_law_471 : decode cL_law 471 = .ok (.iconst 1, 1) := by decide +kernel
theorem dL_law_472 : decode cL_law 472 = .ok (.goto 4, 3) := by decide +kernel
theorem dL_law_475 : decode cL_law 475 = .ok (.iconst 0, 1) := by decide +kernel
theorem dL_law_476 : decode cL_law 476 = .ok (.invokevirtual 59, 3) := by decide +kernel
theorem dL_law_479 : decode cL_law 479 = .ok (.aload_n 2, 1) := by decide +kernel
theorem dL_law_480 : decode cL_law 480 = .ok (.aload_n 0, 1) := by decide +kernel
theorem dL_law_481 : decode cL_law 481 = .ok (.iload_n 3, 1) := by decide +kernel
theorem dL_law_482 : decode cL_law 482 = .ok (.iconst 1, 1) := by decide +kernel
theorem dL_law_483 : decode cL_law 483 = .ok (.iadd, 1) := by decide +kernel
theorem dL_law_484 : decode cL_law 484 = .ok (.iaload, 1) := by decide +kernel
theorem dL_law_485 : decode cL_law 485 = .ok (.aload_n 0, 1) := by decide +kernel
theorem dL_law_486 : decode cL_law 486 = .ok (.iload_n 3, 1) := by decide +kernel
theorem dL_law_487 : decode cL_law 487 = .ok (.iconst 2, 1) := by decide +kernel
theorem dL_law_488 : decode cL_law 488 = .ok (.iadd, 1) := by decide +kernel
theorem dL_law_489 : decode cL_law 489 = .ok (.iaload, 1) := by decide +kernel
theorem dL_law_490 : decode cL_law 490 = .ok (.ifCond .eq 7, 3) := by decide +kernel
theorem dL_law_493 : decode cL_law 493 = .ok (.iconst 1, 1) := by decide +kernel
theorem dL_law_494 : decode cL_law 494 = .ok (.goto 4, 3) := by decide +kernel
theorem dL_law_497 : decode cL_law 497 = .ok (.iconst 0, 1) := by decide +kernel
theorem dL_law_498 : decode cL_law 498 = .ok (.invokevirtual 63, 3) := by decide +kernel
theorem dL_law_501 : decode cL_law 501 = .ok (.lcmp, 1) := by decide +kernel
theorem dL_law_502 : decode cL_law 502 = .ok (.ifCond .eq 5, 3) := by decide +kernel
theorem dL_law_505 : decode cL_law 505 = .ok (.iconst 0, 1) := by decide +kernel
theorem dL_law_506 : decode cL_law 506 = .ok (.ireturn, 1) := by decide +kernel
theorem dL_law_507 : decode cL_law 507 = .ok (.iinc 3 5, 3) := by decide +kernel
theorem dL_law_510 : decode cL_law 510 = .ok (.goto (-492), 3) := by decide +kernel
theorem dL_law_513 : decode cL_law 513 = .ok (.iconst 1, 1) := by decide +kernel
theorem dL_law_514 : decode cL_law 514 = .ok (.ireturn, 1) := by decide +kernel
end
section
def rR3 : String := "ExactFractionsModel$Big"
def rT3 : u_T := fun k => match k with
  | 0 => ("ExactFractionsModel$Big", "d", "[I", true)
  | _ => ("ExactFractionsModel$Big", "n", "I", false)
def rty3 : Nat → FieldType := fun k => match k with
  | 0 => .array .int
  | _ => .int
theorem rnm3 : ∀ a, a < 2 → ∀ b, b < 2 → a ≠ b → (rT3 a).2.1 ≠ (rT3 b).2.1 := by decide +kernel
theorem rtyok3 : ∀ k, k < 2 → parseFieldDescriptor (rT3 k).2.2.1 = some (rty3 k) := by decide +kernel
def rR4 : String := "ExactFractionsModel$Num"
def rT4 : u_T := fun k => match k with
  | 0 => ("ExactFractionsModel$Num", "below", "Z", false)
  | 1 => ("ExactFractionsModel$Num", "p", "LExactFractionsModel$Big;", true)
  | 2 => ("ExactFractionsModel$Num", "q", "LExactFractionsModel$Big;", true)
  | _ => ("ExactFractionsModel$Num", "e", "I", false)
def rty4 : Nat → FieldType := fun k => match k with
  | 0 => .boolean
  | 1 => .object "ExactFractionsModel$Big"
  | 2 => .object "ExactFractionsModel$Big"
  | _ => .int
theorem rnm4 : ∀ a, a < 4 → ∀ b, b < 4 → a ≠ b → (rT4 a).2.1 ≠ (rT4 b).2.1 := by decide +kernel
theorem rtyok4 : ∀ k, k < 4 → parseFieldDescriptor (rT4 k).2.2.1 = some (rty4 k) := by decide +kernel
def rR5 : String := "ExactFractionsModel"
def rT5 : u_T := fun k => match k with
  | 0 => ("ExactFractionsModel", "left", "LExactFractionsModel$Big;", true)
  | 1 => ("ExactFractionsModel", "right", "LExactFractionsModel$Big;", true)
  | 2 => ("ExactFractionsModel", "probe", "LExactFractionsModel$Num;", true)
  | 3 => ("ExactFractionsModel", "opposite", "LExactFractionsModel$Num;", true)
  | 4 => ("ExactFractionsModel", "first", "LExactFractionsModel$Num;", true)
  | 5 => ("ExactFractionsModel", "second", "LExactFractionsModel$Num;", true)
  | _ => ("ExactFractionsModel", "draft", "LExactFractionsModel$Big;", true)
def rty5 : Nat → FieldType := fun k => match k with
  | 0 => .object "ExactFractionsModel$Big"
  | 1 => .object "ExactFractionsModel$Big"
  | 2 => .object "ExactFractionsModel$Num"
  | 3 => .object "ExactFractionsModel$Num"
  | 4 => .object "ExactFractionsModel$Num"
  | 5 => .object "ExactFractionsModel$Num"
  | _ => .object "ExactFractionsModel$Big"
theorem rnm5 : ∀ a, a < 7 → ∀ b, b < 7 → a ≠ b → (rT5 a).2.1 ≠ (rT5 b).2.1 := by decide +kernel
theorem rtyok5 : ∀ k, k < 7 → parseFieldDescriptor (rT5 k).2.2.1 = some (rty5 k) := by decide +kernel
/-- the tables' words that a callee may be given -/
def efG : List Cond := lw_tbl.filter goodWord
theorem rin3 : ∀ w ∈ u_ws rR3 rT3 2, w ∈ efG := by decide +kernel
theorem rin4 : ∀ w ∈ u_ws rR4 rT4 4, w ∈ efG := by decide +kernel
theorem rin5 : ∀ w ∈ u_ws rR5 rT5 7, w ∈ efG := by decide +kernel
abbrev rc_M_compareSizes : ByteArray := prog_5_method_1_code
def ry_M_compareSizes : MethodName := ⟨rR5, "compareSizes", "(LExactFractionsModel$Num;LExactFractionsModel$Num;)I"⟩
def rw_M_compareSizes : List Cond := .code ry_M_compareSizes rc_M_compareSizes 5 (some .int) :: efG
abbrev rc_M_orderOf : ByteArray := prog_5_method_2_code
def ry_M_orderOf : MethodName := ⟨rR5, "orderOf", "(LExactFractionsModel$Num;LExactFractionsModel$Num;)I"⟩
def rw_M_orderOf : List Cond := .code ry_M_orderOf rc_M_orderOf 5 (some .int) :: efG
abbrev rc_M_floatOf : ByteArray := prog_5_method_3_code
def ry_M_floatOf : MethodName := ⟨rR5, "floatOf", "(J)J"⟩
def rw_M_floatOf : List Cond := .code ry_M_floatOf rc_M_floatOf 2 (some .long) :: efG
abbrev rc_M_minus : ByteArray := prog_5_method_4_code
def ry_M_minus : MethodName := ⟨rR5, "minus", "(J)J"⟩
def rw_M_minus : List Cond := .code ry_M_minus rc_M_minus 2 (some .long) :: efG
abbrev rc_M_down : ByteArray := prog_5_method_5_code
def ry_M_down : MethodName := ⟨rR5, "down", "(LExactFractionsModel$Num;)J"⟩
def rw_M_down : List Cond := .code ry_M_down rc_M_down 9 (some .long) :: efG
abbrev rc_M_up : ByteArray := prog_5_method_6_code
def ry_M_up : MethodName := ⟨rR5, "up", "(LExactFractionsModel$Num;)J"⟩
def rw_M_up : List Cond := .code ry_M_up rc_M_up 2 (some .long) :: efG
abbrev rc_M_init : ByteArray := prog_5_method_7_code
def ry_M_init : MethodName := ⟨rR5, "<init>", "()V"⟩
def rw_M_init : List Cond := .code ry_M_init rc_M_init 1 none :: efG
abbrev rc_M_isNumber : ByteArray := prog_5_method_8_code
def ry_M_isNumber : MethodName := ⟨rR5, "isNumber", "(I)Z"⟩
def rw_M_isNumber : List Cond := .code ry_M_isNumber rc_M_isNumber 1 (some .boolean) :: efG
abbrev rc_M_numberOf : ByteArray := prog_5_method_9_code
def ry_M_numberOf : MethodName := ⟨rR5, "numberOf", "(I)LExactFractionsModel$Num;"⟩
def rw_M_numberOf : List Cond := .code ry_M_numberOf rc_M_numberOf 2 (some (.object "ExactFractionsModel$Num")) :: efG
abbrev rc_M_partOf : ByteArray := prog_5_method_10_code
def ry_M_partOf : MethodName := ⟨rR5, "partOf", "(II)LExactFractionsModel$Big;"⟩
def rw_M_partOf : List Cond := .code ry_M_partOf rc_M_partOf 4 (some (.object "ExactFractionsModel$Big")) :: efG
abbrev rc_M_begin : ByteArray := prog_5_method_11_code
def ry_M_begin : MethodName := ⟨rR5, "begin", "(I)I"⟩
def rw_M_begin : List Cond := .code ry_M_begin rc_M_begin 2 (some .int) :: efG
abbrev rc_M_digit : ByteArray := prog_5_method_12_code
def ry_M_digit : MethodName := ⟨rR5, "digit", "(IIII)I"⟩
def rw_M_digit : List Cond := .code ry_M_digit rc_M_digit 6 (some .int) :: efG
abbrev rc_M_set : ByteArray := prog_5_method_13_code
def ry_M_set : MethodName := ⟨rR5, "set", "(IIJ)I"⟩
def rw_M_set : List Cond := .code ry_M_set rc_M_set 6 (some .int) :: efG
abbrev rc_M_scale : ByteArray := prog_5_method_14_code
def ry_M_scale : MethodName := ⟨rR5, "scale", "(IZI)I"⟩
def rw_M_scale : List Cond := .code ry_M_scale rc_M_scale 5 (some .int) :: efG
abbrev rc_M_turn : ByteArray := prog_5_method_15_code
def ry_M_turn : MethodName := ⟨rR5, "turn", "(I)I"⟩
def rw_M_turn : List Cond := .code ry_M_turn rc_M_turn 3 (some .int) :: efG
abbrev rc_M_move : ByteArray := prog_5_method_16_code
def ry_M_move : MethodName := ⟨rR5, "move", "(IZ)I"⟩
def rw_M_move : List Cond := .code ry_M_move rc_M_move 6 (some .int) :: efG
abbrev rc_M_bits : ByteArray := prog_5_method_17_code
def ry_M_bits : MethodName := ⟨rR5, "bits", "(II)I"⟩
def rw_M_bits : List Cond := .code ry_M_bits rc_M_bits 3 (some .int) :: efG
abbrev rc_M_word : ByteArray := prog_5_method_18_code
def ry_M_word : MethodName := ⟨rR5, "word", "(III)I"⟩
def rw_M_word : List Cond := .code ry_M_word rc_M_word 7 (some .int) :: efG
abbrev rc_M_compare : ByteArray := prog_5_method_19_code
def ry_M_compare : MethodName := ⟨rR5, "compare", "()I"⟩
def rw_M_compare : List Cond := .code ry_M_compare rc_M_compare 1 (some .int) :: efG
abbrev rc_M_round : ByteArray := prog_5_method_20_code
def ry_M_round : MethodName := ⟨rR5, "round", "(IZ)J"⟩
def rw_M_round : List Cond := .code ry_M_round rc_M_round 3 (some .long) :: efG
abbrev rc_B_init : ByteArray := prog_6_method_1_code
def ry_B_init : MethodName := ⟨rR3, "<init>", "()V"⟩
def rw_B_init : List Cond := .code ry_B_init rc_B_init 1 none :: efG
abbrev rc_B_set : ByteArray := prog_6_method_2_code
def ry_B_set : MethodName := ⟨rR3, "set", "(J)V"⟩
def rw_B_set : List Cond := .code ry_B_set rc_B_set 5 none :: efG
abbrev rc_B_copy : ByteArray := prog_6_method_3_code
def ry_B_copy : MethodName := ⟨rR3, "copy", "(LExactFractionsModel$Big;)V"⟩
def rw_B_copy : List Cond := .code ry_B_copy rc_B_copy 3 none :: efG
abbrev rc_B_bits : ByteArray := prog_6_method_4_code
def ry_B_bits : MethodName := ⟨rR3, "bits", "()I"⟩
def rw_B_bits : List Cond := .code ry_B_bits rc_B_bits 2 (some .int) :: efG
abbrev rc_B_isOne : ByteArray := prog_6_method_5_code
def ry_B_isOne : MethodName := ⟨rR3, "isOne", "()Z"⟩
def rw_B_isOne : List Cond := .code ry_B_isOne rc_B_isOne 1 (some .boolean) :: efG
abbrev rc_B_grow : ByteArray := prog_6_method_6_code
def ry_B_grow : MethodName := ⟨rR3, "grow", "(II)V"⟩
def rw_B_grow : List Cond := .code ry_B_grow rc_B_grow 8 none :: efG
abbrev rc_B_product : ByteArray := prog_6_method_7_code
def ry_B_product : MethodName := ⟨rR3, "product", "(LExactFractionsModel$Big;LExactFractionsModel$Big;)V"⟩
def rw_B_product : List Cond := .code ry_B_product rc_B_product 9 none :: efG
abbrev rc_B_trim : ByteArray := prog_6_method_8_code
def ry_B_trim : MethodName := ⟨rR3, "trim", "()V"⟩
def rw_B_trim : List Cond := .code ry_B_trim rc_B_trim 1 none :: efG
abbrev rc_B_shift : ByteArray := prog_6_method_9_code
def ry_B_shift : MethodName := ⟨rR3, "shift", "(I)V"⟩
def rw_B_shift : List Cond := .code ry_B_shift rc_B_shift 5 none :: efG
abbrev rc_B_compare : ByteArray := prog_6_method_10_code
def ry_B_compare : MethodName := ⟨rR3, "compare", "(LExactFractionsModel$Big;)I"⟩
def rw_B_compare : List Cond := .code ry_B_compare rc_B_compare 3 (some .int) :: efG
abbrev rc_B_add : ByteArray := prog_6_method_11_code
def ry_B_add : MethodName := ⟨rR3, "add", "(LExactFractionsModel$Big;)V"⟩
def rw_B_add : List Cond := .code ry_B_add rc_B_add 5 none :: efG
abbrev rc_B_subtract : ByteArray := prog_6_method_12_code
def ry_B_subtract : MethodName := ⟨rR3, "subtract", "(LExactFractionsModel$Big;)V"⟩
def rw_B_subtract : List Cond := .code ry_B_subtract rc_B_subtract 5 none :: efG
abbrev rc_N_init : ByteArray := prog_7_method_1_code
def ry_N_init : MethodName := ⟨rR4, "<init>", "()V"⟩
def rw_N_init : List Cond := .code ry_N_init rc_N_init 1 none :: efG
abbrev rc_N_set : ByteArray := prog_7_method_2_code
def ry_N_set : MethodName := ⟨rR4, "set", "(J)V"⟩
def rw_N_set : List Cond := .code ry_N_set rc_N_set 3 none :: efG
abbrev rc_N_copy : ByteArray := prog_7_method_3_code
def ry_N_copy : MethodName := ⟨rR4, "copy", "(LExactFractionsModel$Num;)V"⟩
def rw_N_copy : List Cond := .code ry_N_copy rc_N_copy 2 none :: efG
abbrev rc_N_sign : ByteArray := prog_7_method_4_code
def ry_N_sign : MethodName := ⟨rR4, "sign", "()I"⟩
def rw_N_sign : List Cond := .code ry_N_sign rc_N_sign 1 (some .int) :: efG
abbrev rc_N_setFloat : ByteArray := prog_7_method_5_code
def ry_N_setFloat : MethodName := ⟨rR4, "setFloat", "(J)V"⟩
def rw_N_setFloat : List Cond := .code ry_N_setFloat rc_N_setFloat 7 none :: efG
theorem ef_inG {w : Cond} (h : w ∈ efG) {c1 : Cond} : w ∈ c1 :: efG ∧ ((w.onTables && w.keeps) = true ∨ ∃ ty, w = .arrayClass ty) := ⟨List.mem_cons_of_mem _ h, good_of_word (List.mem_filter.mp h).2⟩
theorem ef_goodV {c1 c2 : Cond} {own C : String} {idx : Nat} {y : MethodName} (h1 : Cond.methodLink own idx y ∈ efG) (h2 : Cond.instanceMethod y ∈ efG) (h3 : Cond.selects C y y ∈ efG) (h4 : Cond.initialized C ∈ efG) (h5 : c2 ∈ efG) : GoodIn (c1 :: efG) (wsV own idx C y (c2 :: efG)) := by
  intro w hw
  unfold wsV at hw
  rcases List.mem_append.mp hw with h | h
  · simp only [List.mem_cons, List.not_mem_nil, or_false] at h
    rcases h with rfl | rfl | rfl | rfl
    · exact ef_inG h1
    · exact ef_inG h2
    · exact ef_inG h3
    · exact ef_inG h4
  · rcases List.mem_cons.mp h with rfl | h
    · exact ef_inG h5
    · exact ef_inG h
theorem ef_goodS {c1 c2 : Cond} {own : String} {idx : Nat} {y : MethodName} (h1 : Cond.methodLink own idx y ∈ efG) (h2 : Cond.static y ∈ efG) (h4 : Cond.initialized own ∈ efG) (h5 : c2 ∈ efG) : GoodIn (c1 :: efG) (wsS own idx y (c2 :: efG)) := by
  intro w hw
  unfold wsS at hw
  rcases List.mem_append.mp hw with h | h
  · simp only [List.mem_cons, List.not_mem_nil, or_false] at h
    rcases h with rfl | rfl | rfl
    · exact ef_inG h1
    · exact ef_inG h2
    · exact ef_inG h4
  · rcases List.mem_cons.mp h with rfl | h
    · exact ef_inG h5
    · exact ef_inG h
theorem ef_goodI {c1 c2 : Cond} (h5 : c2 ∈ efG) : GoodIn (c1 :: efG) (c2 :: efG) := by
  intro w hw
  rcases List.mem_cons.mp hw with rfl | h
  · exact ef_inG h5
  · exact ef_inG h
end
section
theorem rm_12 : Cond.selects "ExactFractionsModel" ⟨"ExactFractionsModel", "numberOf", "(I)LExactFractionsModel$Num;"⟩ ⟨"ExactFractionsModel", "numberOf", "(I)LExactFractionsModel$Num;"⟩ ∈ efG := List.mem_filter.mpr ⟨List.mem_of_getElem? (i := 12) (by decide +kernel), rfl⟩
theorem rm_13 : Cond.selects "ExactFractionsModel" ⟨"ExactFractionsModel", "partOf", "(II)LExactFractionsModel$Big;"⟩ ⟨"ExactFractionsModel", "partOf", "(II)LExactFractionsModel$Big;"⟩ ∈ efG := List.mem_filter.mpr ⟨List.mem_of_getElem? (i := 13) (by decide +kernel), rfl⟩
theorem rm_14 : Cond.selects "ExactFractionsModel$Big" ⟨"ExactFractionsModel$Big", "trim", "()V"⟩ ⟨"ExactFractionsModel$Big", "trim", "()V"⟩ ∈ efG := List.mem_filter.mpr ⟨List.mem_of_getElem? (i := 14) (by decide +kernel), rfl⟩
theorem rm_15 : Cond.selects "ExactFractionsModel" ⟨"ExactFractionsModel", "orderOf", "(LExactFractionsModel$Num;LExactFractionsModel$Num;)I"⟩ ⟨"ExactFractionsModel", "orderOf", "(LExactFractionsModel$Num;LExactFractionsModel$Num;)I"⟩ ∈ efG := List.mem_filter.mpr ⟨List.mem_of_getElem? (i := 15) (by decide +kernel), rfl⟩
theorem rm_16 : Cond.selects "ExactFractionsModel" ⟨"ExactFractionsModel", "compareSizes", "(LExactFractionsModel$Num;LExactFractionsModel$Num;)I"⟩ ⟨"ExactFractionsModel", "compareSizes", "(LExactFractionsModel$Num;LExactFractionsModel$Num;)I"⟩ ∈ efG := List.mem_filter.mpr ⟨List.mem_of_getElem? (i := 16) (by decide +kernel), rfl⟩
theorem rm_17 : Cond.selects "ExactFractionsModel" ⟨"ExactFractionsModel", "up", "(LExactFractionsModel$Num;)J"⟩ ⟨"ExactFractionsModel", "up", "(LExactFractionsModel$Num;)J"⟩ ∈ efG := List.mem_filter.mpr ⟨List.mem_of_getElem? (i := 17) (by decide +kernel), rfl⟩
theorem rm_18 : Cond.selects "ExactFractionsModel" ⟨"ExactFractionsModel", "down", "(LExactFractionsModel$Num;)J"⟩ ⟨"ExactFractionsModel", "down", "(LExactFractionsModel$Num;)J"⟩ ∈ efG := List.mem_filter.mpr ⟨List.mem_of_getElem? (i := 18) (by decide +kernel), rfl⟩
theorem rm_24 : Cond.initialized "ExactFractionsModel" ∈ efG := List.mem_filter.mpr ⟨List.mem_of_getElem? (i := 24) (by decide +kernel), rfl⟩
theorem rm_25 : Cond.initialized "ExactFractionsModel$Big" ∈ efG := List.mem_filter.mpr ⟨List.mem_of_getElem? (i := 25) (by decide +kernel), rfl⟩
theorem rm_26 : Cond.initialized "ExactFractionsModel$Num" ∈ efG := List.mem_filter.mpr ⟨List.mem_of_getElem? (i := 26) (by decide +kernel), rfl⟩
theorem rm_33 : Cond.instanceMethod ⟨"java/lang/Object", "<init>", "()V"⟩ ∈ efG := List.mem_filter.mpr ⟨List.mem_of_getElem? (i := 33) (by decide +kernel), rfl⟩
theorem rm_54 : Cond.arrayClass .int ∈ efG := List.mem_filter.mpr ⟨List.mem_of_getElem? (i := 54) (by decide +kernel), rfl⟩
theorem rm_255 : Cond.instantiable "ExactFractionsModel" 7 ∈ efG := List.mem_filter.mpr ⟨List.mem_of_getElem? (i := 255) (by decide +kernel), rfl⟩
theorem rm_258 : Cond.code ⟨"ExactFractionsModel", "<init>", "()V"⟩ prog_5_method_7_code 1 none ∈ efG := List.mem_filter.mpr ⟨List.mem_of_getElem? (i := 258) (by decide +kernel), rfl⟩
theorem rm_259 : Cond.methodLink "ExactFractionsModel" 97 ⟨"java/lang/Object", "<init>", "()V"⟩ ∈ efG := List.mem_filter.mpr ⟨List.mem_of_getElem? (i := 259) (by decide +kernel), rfl⟩
theorem rm_260 : Cond.classLink "ExactFractionsModel" 8 "ExactFractionsModel$Big" ∈ efG := List.mem_filter.mpr ⟨List.mem_of_getElem? (i := 260) (by decide +kernel), rfl⟩
theorem rm_261 : Cond.instantiable "ExactFractionsModel$Big" 2 ∈ efG := List.mem_filter.mpr ⟨List.mem_of_getElem? (i := 261) (by decide +kernel), rfl⟩
theorem rm_262 : Cond.methodLinkNest "ExactFractionsModel" 103 ⟨"ExactFractionsModel$Big", "<init>", "()V"⟩ "ExactFractionsModel" ∈ lw_tbl := List.mem_of_getElem? (i := 262) (by decide +kernel)
theorem rm_263 : Cond.instanceMethod ⟨"ExactFractionsModel$Big", "<init>", "()V"⟩ ∈ efG := List.mem_filter.mpr ⟨List.mem_of_getElem? (i := 263) (by decide +kernel), rfl⟩
theorem rm_264 : Cond.code ⟨"ExactFractionsModel$Big", "<init>", "()V"⟩ prog_6_method_1_code 1 none ∈ efG := List.mem_filter.mpr ⟨List.mem_of_getElem? (i := 264) (by decide +kernel), rfl⟩
theorem rm_265 : Cond.methodLink "ExactFractionsModel$Big" 1 ⟨"java/lang/Object", "<init>", "()V"⟩ ∈ efG := List.mem_filter.mpr ⟨List.mem_of_getElem? (i := 265) (by decide +kernel), rfl⟩
theorem rm_266 : Cond.fieldLink "ExactFractionsModel$Big" 7 "ExactFractionsModel$Big" "d" "[I" ∈ efG := List.mem_filter.mpr ⟨List.mem_of_getElem? (i := 266) (by decide +kernel), rfl⟩
theorem rm_267 : Cond.fieldLinkNest "ExactFractionsModel" 144 "ExactFractionsModel$Big" "d" "[I" "ExactFractionsModel" ∈ lw_tbl := List.mem_of_getElem? (i := 267) (by decide +kernel)
theorem rm_268 : Cond.fieldLink "ExactFractionsModel$Big" 13 "ExactFractionsModel$Big" "n" "I" ∈ efG := List.mem_filter.mpr ⟨List.mem_of_getElem? (i := 268) (by decide +kernel), rfl⟩
theorem rm_269 : Cond.fieldLinkNest "ExactFractionsModel$Num" 35 "ExactFractionsModel$Big" "n" "I" "ExactFractionsModel" ∈ lw_tbl := List.mem_of_getElem? (i := 269) (by decide +kernel)
theorem rm_270 : Cond.fieldLinkNest "ExactFractionsModel" 135 "ExactFractionsModel$Big" "n" "I" "ExactFractionsModel" ∈ lw_tbl := List.mem_of_getElem? (i := 270) (by decide +kernel)
theorem rm_276 : Cond.classLink "ExactFractionsModel" 2 "ExactFractionsModel$Num" ∈ efG := List.mem_filter.mpr ⟨List.mem_of_getElem? (i := 276) (by decide +kernel), rfl⟩
theorem rm_277 : Cond.instantiable "ExactFractionsModel$Num" 4 ∈ efG := List.mem_filter.mpr ⟨List.mem_of_getElem? (i := 277) (by decide +kernel), rfl⟩
theorem rm_278 : Cond.methodLinkNest "ExactFractionsModel" 104 ⟨"ExactFractionsModel$Num", "<init>", "()V"⟩ "ExactFractionsModel" ∈ lw_tbl := List.mem_of_getElem? (i := 278) (by decide +kernel)
theorem rm_279 : Cond.instanceMethod ⟨"ExactFractionsModel$Num", "<init>", "()V"⟩ ∈ efG := List.mem_filter.mpr ⟨List.mem_of_getElem? (i := 279) (by decide +kernel), rfl⟩
theorem rm_280 : Cond.code ⟨"ExactFractionsModel$Num", "<init>", "()V"⟩ prog_7_method_1_code 1 none ∈ efG := List.mem_filter.mpr ⟨List.mem_of_getElem? (i := 280) (by decide +kernel), rfl⟩
theorem rm_281 : Cond.methodLink "ExactFractionsModel$Num" 1 ⟨"java/lang/Object", "<init>", "()V"⟩ ∈ efG := List.mem_filter.mpr ⟨List.mem_of_getElem? (i := 281) (by decide +kernel), rfl⟩
theorem rm_282 : Cond.classLink "ExactFractionsModel$Num" 7 "ExactFractionsModel$Big" ∈ efG := List.mem_filter.mpr ⟨List.mem_of_getElem? (i := 282) (by decide +kernel), rfl⟩
theorem rm_283 : Cond.methodLinkNest "ExactFractionsModel$Num" 9 ⟨"ExactFractionsModel$Big", "<init>", "()V"⟩ "ExactFractionsModel" ∈ lw_tbl := List.mem_of_getElem? (i := 283) (by decide +kernel)
theorem rm_284 : Cond.fieldLink "ExactFractionsModel$Num" 19 "ExactFractionsModel$Num" "below" "Z" ∈ efG := List.mem_filter.mpr ⟨List.mem_of_getElem? (i := 284) (by decide +kernel), rfl⟩
theorem rm_285 : Cond.fieldLinkNest "ExactFractionsModel" 86 "ExactFractionsModel$Num" "below" "Z" "ExactFractionsModel" ∈ lw_tbl := List.mem_of_getElem? (i := 285) (by decide +kernel)
theorem rm_286 : Cond.fieldLink "ExactFractionsModel$Num" 10 "ExactFractionsModel$Num" "p" "LExactFractionsModel$Big;" ∈ efG := List.mem_filter.mpr ⟨List.mem_of_getElem? (i := 286) (by decide +kernel), rfl⟩
theorem rm_287 : Cond.fieldLinkNest "ExactFractionsModel" 18 "ExactFractionsModel$Num" "p" "LExactFractionsModel$Big;" "ExactFractionsModel" ∈ lw_tbl := List.mem_of_getElem? (i := 287) (by decide +kernel)
theorem rm_288 : Cond.fieldLinkNest "ExactFractionsModel" 1 "ExactFractionsModel$Num" "q" "LExactFractionsModel$Big;" "ExactFractionsModel" ∈ lw_tbl := List.mem_of_getElem? (i := 288) (by decide +kernel)
theorem rm_289 : Cond.fieldLink "ExactFractionsModel$Num" 16 "ExactFractionsModel$Num" "q" "LExactFractionsModel$Big;" ∈ efG := List.mem_filter.mpr ⟨List.mem_of_getElem? (i := 289) (by decide +kernel), rfl⟩
theorem rm_290 : Cond.fieldLinkNest "ExactFractionsModel" 36 "ExactFractionsModel$Num" "e" "I" "ExactFractionsModel" ∈ lw_tbl := List.mem_of_getElem? (i := 290) (by decide +kernel)
theorem rm_291 : Cond.fieldLink "ExactFractionsModel$Num" 27 "ExactFractionsModel$Num" "e" "I" ∈ efG := List.mem_filter.mpr ⟨List.mem_of_getElem? (i := 291) (by decide +kernel), rfl⟩
theorem rm_301 : Cond.methodLink "ExactFractionsModel" 114 ⟨"ExactFractionsModel$Num", "set", "(J)V"⟩ ∈ efG := List.mem_filter.mpr ⟨List.mem_of_getElem? (i := 301) (by decide +kernel), rfl⟩
theorem rm_302 : Cond.instanceMethod ⟨"ExactFractionsModel$Num", "set", "(J)V"⟩ ∈ efG := List.mem_filter.mpr ⟨List.mem_of_getElem? (i := 302) (by decide +kernel), rfl⟩
theorem rm_303 : Cond.selects "ExactFractionsModel$Num" ⟨"ExactFractionsModel$Num", "set", "(J)V"⟩ ⟨"ExactFractionsModel$Num", "set", "(J)V"⟩ ∈ efG := List.mem_filter.mpr ⟨List.mem_of_getElem? (i := 303) (by decide +kernel), rfl⟩
theorem rm_304 : Cond.code ⟨"ExactFractionsModel$Num", "set", "(J)V"⟩ prog_7_method_2_code 3 none ∈ efG := List.mem_filter.mpr ⟨List.mem_of_getElem? (i := 304) (by decide +kernel), rfl⟩
theorem rm_305 : Cond.methodLink "ExactFractionsModel$Num" 23 ⟨"ExactFractionsModel$Big", "set", "(J)V"⟩ ∈ efG := List.mem_filter.mpr ⟨List.mem_of_getElem? (i := 305) (by decide +kernel), rfl⟩
theorem rm_306 : Cond.instanceMethod ⟨"ExactFractionsModel$Big", "set", "(J)V"⟩ ∈ efG := List.mem_filter.mpr ⟨List.mem_of_getElem? (i := 306) (by decide +kernel), rfl⟩
theorem rm_307 : Cond.selects "ExactFractionsModel$Big" ⟨"ExactFractionsModel$Big", "set", "(J)V"⟩ ⟨"ExactFractionsModel$Big", "set", "(J)V"⟩ ∈ efG := List.mem_filter.mpr ⟨List.mem_of_getElem? (i := 307) (by decide +kernel), rfl⟩
theorem rm_308 : Cond.code ⟨"ExactFractionsModel$Big", "set", "(J)V"⟩ prog_6_method_2_code 5 none ∈ efG := List.mem_filter.mpr ⟨List.mem_of_getElem? (i := 308) (by decide +kernel), rfl⟩
theorem rm_309 : Cond.constantLong "ExactFractionsModel$Big" 17 (65535) ∈ efG := List.mem_filter.mpr ⟨List.mem_of_getElem? (i := 309) (by decide +kernel), rfl⟩
theorem rm_310 : Cond.fieldLink "ExactFractionsModel" 13 "ExactFractionsModel" "left" "LExactFractionsModel$Big;" ∈ efG := List.mem_filter.mpr ⟨List.mem_of_getElem? (i := 310) (by decide +kernel), rfl⟩
theorem rm_311 : Cond.fieldLink "ExactFractionsModel" 29 "ExactFractionsModel" "right" "LExactFractionsModel$Big;" ∈ efG := List.mem_filter.mpr ⟨List.mem_of_getElem? (i := 311) (by decide +kernel), rfl⟩
theorem rm_312 : Cond.fieldLink "ExactFractionsModel" 61 "ExactFractionsModel" "probe" "LExactFractionsModel$Num;" ∈ efG := List.mem_filter.mpr ⟨List.mem_of_getElem? (i := 312) (by decide +kernel), rfl⟩
theorem rm_313 : Cond.fieldLink "ExactFractionsModel" 80 "ExactFractionsModel" "opposite" "LExactFractionsModel$Num;" ∈ efG := List.mem_filter.mpr ⟨List.mem_of_getElem? (i := 313) (by decide +kernel), rfl⟩
theorem rm_314 : Cond.fieldLink "ExactFractionsModel" 105 "ExactFractionsModel" "first" "LExactFractionsModel$Num;" ∈ efG := List.mem_filter.mpr ⟨List.mem_of_getElem? (i := 314) (by decide +kernel), rfl⟩
theorem rm_315 : Cond.fieldLink "ExactFractionsModel" 108 "ExactFractionsModel" "second" "LExactFractionsModel$Num;" ∈ efG := List.mem_filter.mpr ⟨List.mem_of_getElem? (i := 315) (by decide +kernel), rfl⟩
theorem rm_316 : Cond.fieldLink "ExactFractionsModel" 111 "ExactFractionsModel" "draft" "LExactFractionsModel$Big;" ∈ efG := List.mem_filter.mpr ⟨List.mem_of_getElem? (i := 316) (by decide +kernel), rfl⟩
theorem rm_335 : Cond.code ⟨"ExactFractionsModel", "begin", "(I)I"⟩ prog_5_method_11_code 2 (some .int) ∈ efG := List.mem_filter.mpr ⟨List.mem_of_getElem? (i := 335) (by decide +kernel), rfl⟩
theorem rm_336 : Cond.methodLink "ExactFractionsModel" 117 ⟨"ExactFractionsModel", "isNumber", "(I)Z"⟩ ∈ efG := List.mem_filter.mpr ⟨List.mem_of_getElem? (i := 336) (by decide +kernel), rfl⟩
theorem rm_337 : Cond.static ⟨"ExactFractionsModel", "isNumber", "(I)Z"⟩ ∈ efG := List.mem_filter.mpr ⟨List.mem_of_getElem? (i := 337) (by decide +kernel), rfl⟩
theorem rm_338 : Cond.code ⟨"ExactFractionsModel", "isNumber", "(I)Z"⟩ prog_5_method_8_code 1 (some .boolean) ∈ efG := List.mem_filter.mpr ⟨List.mem_of_getElem? (i := 338) (by decide +kernel), rfl⟩
theorem rm_339 : Cond.methodLink "ExactFractionsModel" 121 ⟨"ExactFractionsModel", "numberOf", "(I)LExactFractionsModel$Num;"⟩ ∈ efG := List.mem_filter.mpr ⟨List.mem_of_getElem? (i := 339) (by decide +kernel), rfl⟩
theorem rm_341 : Cond.instanceMethod ⟨"ExactFractionsModel", "numberOf", "(I)LExactFractionsModel$Num;"⟩ ∈ efG := List.mem_filter.mpr ⟨List.mem_of_getElem? (i := 341) (by decide +kernel), rfl⟩
theorem rm_342 : Cond.code ⟨"ExactFractionsModel", "numberOf", "(I)LExactFractionsModel$Num;"⟩ prog_5_method_9_code 2 (some (.object "ExactFractionsModel$Num")) ∈ efG := List.mem_filter.mpr ⟨List.mem_of_getElem? (i := 342) (by decide +kernel), rfl⟩
theorem rm_346 : Cond.code ⟨"ExactFractionsModel", "digit", "(IIII)I"⟩ prog_5_method_12_code 6 (some .int) ∈ efG := List.mem_filter.mpr ⟨List.mem_of_getElem? (i := 346) (by decide +kernel), rfl⟩
theorem rm_347 : Cond.constant "ExactFractionsModel" 125 (1000000) ∈ efG := List.mem_filter.mpr ⟨List.mem_of_getElem? (i := 347) (by decide +kernel), rfl⟩
theorem rm_348 : Cond.methodLink "ExactFractionsModel" 126 ⟨"ExactFractionsModel", "partOf", "(II)LExactFractionsModel$Big;"⟩ ∈ efG := List.mem_filter.mpr ⟨List.mem_of_getElem? (i := 348) (by decide +kernel), rfl⟩
theorem rm_350 : Cond.instanceMethod ⟨"ExactFractionsModel", "partOf", "(II)LExactFractionsModel$Big;"⟩ ∈ efG := List.mem_filter.mpr ⟨List.mem_of_getElem? (i := 350) (by decide +kernel), rfl⟩
theorem rm_351 : Cond.code ⟨"ExactFractionsModel", "partOf", "(II)LExactFractionsModel$Big;"⟩ prog_5_method_10_code 4 (some (.object "ExactFractionsModel$Big")) ∈ efG := List.mem_filter.mpr ⟨List.mem_of_getElem? (i := 351) (by decide +kernel), rfl⟩
theorem rm_352 : Cond.methodLink "ExactFractionsModel" 21 ⟨"ExactFractionsModel$Big", "copy", "(LExactFractionsModel$Big;)V"⟩ ∈ efG := List.mem_filter.mpr ⟨List.mem_of_getElem? (i := 352) (by decide +kernel), rfl⟩
theorem rm_353 : Cond.instanceMethod ⟨"ExactFractionsModel$Big", "copy", "(LExactFractionsModel$Big;)V"⟩ ∈ efG := List.mem_filter.mpr ⟨List.mem_of_getElem? (i := 353) (by decide +kernel), rfl⟩
theorem rm_354 : Cond.selects "ExactFractionsModel$Big" ⟨"ExactFractionsModel$Big", "copy", "(LExactFractionsModel$Big;)V"⟩ ⟨"ExactFractionsModel$Big", "copy", "(LExactFractionsModel$Big;)V"⟩ ∈ efG := List.mem_filter.mpr ⟨List.mem_of_getElem? (i := 354) (by decide +kernel), rfl⟩
theorem rm_355 : Cond.code ⟨"ExactFractionsModel$Big", "copy", "(LExactFractionsModel$Big;)V"⟩ prog_6_method_3_code 3 none ∈ efG := List.mem_filter.mpr ⟨List.mem_of_getElem? (i := 355) (by decide +kernel), rfl⟩
theorem rm_356 : Cond.methodLink "ExactFractionsModel" 130 ⟨"ExactFractionsModel$Big", "grow", "(II)V"⟩ ∈ efG := List.mem_filter.mpr ⟨List.mem_of_getElem? (i := 356) (by decide +kernel), rfl⟩
theorem rm_357 : Cond.instanceMethod ⟨"ExactFractionsModel$Big", "grow", "(II)V"⟩ ∈ efG := List.mem_filter.mpr ⟨List.mem_of_getElem? (i := 357) (by decide +kernel), rfl⟩
theorem rm_358 : Cond.selects "ExactFractionsModel$Big" ⟨"ExactFractionsModel$Big", "grow", "(II)V"⟩ ⟨"ExactFractionsModel$Big", "grow", "(II)V"⟩ ∈ efG := List.mem_filter.mpr ⟨List.mem_of_getElem? (i := 358) (by decide +kernel), rfl⟩
theorem rm_359 : Cond.code ⟨"ExactFractionsModel$Big", "grow", "(II)V"⟩ prog_6_method_6_code 8 none ∈ efG := List.mem_filter.mpr ⟨List.mem_of_getElem? (i := 359) (by decide +kernel), rfl⟩
theorem rm_360 : Cond.methodLink "ExactFractionsModel" 32 ⟨"ExactFractionsModel$Big", "bits", "()I"⟩ ∈ efG := List.mem_filter.mpr ⟨List.mem_of_getElem? (i := 360) (by decide +kernel), rfl⟩
theorem rm_361 : Cond.instanceMethod ⟨"ExactFractionsModel$Big", "bits", "()I"⟩ ∈ efG := List.mem_filter.mpr ⟨List.mem_of_getElem? (i := 361) (by decide +kernel), rfl⟩
theorem rm_362 : Cond.selects "ExactFractionsModel$Big" ⟨"ExactFractionsModel$Big", "bits", "()I"⟩ ⟨"ExactFractionsModel$Big", "bits", "()I"⟩ ∈ efG := List.mem_filter.mpr ⟨List.mem_of_getElem? (i := 362) (by decide +kernel), rfl⟩
theorem rm_363 : Cond.code ⟨"ExactFractionsModel$Big", "bits", "()I"⟩ prog_6_method_4_code 2 (some .int) ∈ efG := List.mem_filter.mpr ⟨List.mem_of_getElem? (i := 363) (by decide +kernel), rfl⟩
theorem rm_367 : Cond.code ⟨"ExactFractionsModel", "set", "(IIJ)I"⟩ prog_5_method_13_code 6 (some .int) ∈ efG := List.mem_filter.mpr ⟨List.mem_of_getElem? (i := 367) (by decide +kernel), rfl⟩
theorem rm_368 : Cond.methodLink "ExactFractionsModel" 134 ⟨"ExactFractionsModel$Big", "set", "(J)V"⟩ ∈ efG := List.mem_filter.mpr ⟨List.mem_of_getElem? (i := 368) (by decide +kernel), rfl⟩
theorem rm_372 : Cond.code ⟨"ExactFractionsModel", "scale", "(IZI)I"⟩ prog_5_method_14_code 5 (some .int) ∈ efG := List.mem_filter.mpr ⟨List.mem_of_getElem? (i := 372) (by decide +kernel), rfl⟩
theorem rm_376 : Cond.code ⟨"ExactFractionsModel", "turn", "(I)I"⟩ prog_5_method_15_code 3 (some .int) ∈ efG := List.mem_filter.mpr ⟨List.mem_of_getElem? (i := 376) (by decide +kernel), rfl⟩
theorem rm_380 : Cond.code ⟨"ExactFractionsModel", "move", "(IZ)I"⟩ prog_5_method_16_code 6 (some .int) ∈ efG := List.mem_filter.mpr ⟨List.mem_of_getElem? (i := 380) (by decide +kernel), rfl⟩
theorem rm_381 : Cond.methodLink "ExactFractionsModel" 138 ⟨"ExactFractionsModel$Big", "add", "(LExactFractionsModel$Big;)V"⟩ ∈ efG := List.mem_filter.mpr ⟨List.mem_of_getElem? (i := 381) (by decide +kernel), rfl⟩
theorem rm_382 : Cond.instanceMethod ⟨"ExactFractionsModel$Big", "add", "(LExactFractionsModel$Big;)V"⟩ ∈ efG := List.mem_filter.mpr ⟨List.mem_of_getElem? (i := 382) (by decide +kernel), rfl⟩
theorem rm_383 : Cond.selects "ExactFractionsModel$Big" ⟨"ExactFractionsModel$Big", "add", "(LExactFractionsModel$Big;)V"⟩ ⟨"ExactFractionsModel$Big", "add", "(LExactFractionsModel$Big;)V"⟩ ∈ efG := List.mem_filter.mpr ⟨List.mem_of_getElem? (i := 383) (by decide +kernel), rfl⟩
theorem rm_384 : Cond.code ⟨"ExactFractionsModel$Big", "add", "(LExactFractionsModel$Big;)V"⟩ prog_6_method_11_code 5 none ∈ efG := List.mem_filter.mpr ⟨List.mem_of_getElem? (i := 384) (by decide +kernel), rfl⟩
theorem rm_385 : Cond.constant "ExactFractionsModel$Big" 26 (65535) ∈ efG := List.mem_filter.mpr ⟨List.mem_of_getElem? (i := 385) (by decide +kernel), rfl⟩
theorem rm_386 : Cond.methodLink "ExactFractionsModel" 44 ⟨"ExactFractionsModel$Big", "compare", "(LExactFractionsModel$Big;)I"⟩ ∈ efG := List.mem_filter.mpr ⟨List.mem_of_getElem? (i := 386) (by decide +kernel), rfl⟩
theorem rm_387 : Cond.instanceMethod ⟨"ExactFractionsModel$Big", "compare", "(LExactFractionsModel$Big;)I"⟩ ∈ efG := List.mem_filter.mpr ⟨List.mem_of_getElem? (i := 387) (by decide +kernel), rfl⟩
theorem rm_388 : Cond.selects "ExactFractionsModel$Big" ⟨"ExactFractionsModel$Big", "compare", "(LExactFractionsModel$Big;)I"⟩ ⟨"ExactFractionsModel$Big", "compare", "(LExactFractionsModel$Big;)I"⟩ ∈ efG := List.mem_filter.mpr ⟨List.mem_of_getElem? (i := 388) (by decide +kernel), rfl⟩
theorem rm_389 : Cond.code ⟨"ExactFractionsModel$Big", "compare", "(LExactFractionsModel$Big;)I"⟩ prog_6_method_10_code 3 (some .int) ∈ efG := List.mem_filter.mpr ⟨List.mem_of_getElem? (i := 389) (by decide +kernel), rfl⟩
theorem rm_390 : Cond.methodLink "ExactFractionsModel" 141 ⟨"ExactFractionsModel$Big", "subtract", "(LExactFractionsModel$Big;)V"⟩ ∈ efG := List.mem_filter.mpr ⟨List.mem_of_getElem? (i := 390) (by decide +kernel), rfl⟩
theorem rm_391 : Cond.instanceMethod ⟨"ExactFractionsModel$Big", "subtract", "(LExactFractionsModel$Big;)V"⟩ ∈ efG := List.mem_filter.mpr ⟨List.mem_of_getElem? (i := 391) (by decide +kernel), rfl⟩
theorem rm_392 : Cond.selects "ExactFractionsModel$Big" ⟨"ExactFractionsModel$Big", "subtract", "(LExactFractionsModel$Big;)V"⟩ ⟨"ExactFractionsModel$Big", "subtract", "(LExactFractionsModel$Big;)V"⟩ ∈ efG := List.mem_filter.mpr ⟨List.mem_of_getElem? (i := 392) (by decide +kernel), rfl⟩
theorem rm_393 : Cond.code ⟨"ExactFractionsModel$Big", "subtract", "(LExactFractionsModel$Big;)V"⟩ prog_6_method_12_code 5 none ∈ efG := List.mem_filter.mpr ⟨List.mem_of_getElem? (i := 393) (by decide +kernel), rfl⟩
theorem rm_394 : Cond.methodLink "ExactFractionsModel$Big" 19 ⟨"ExactFractionsModel$Big", "trim", "()V"⟩ ∈ efG := List.mem_filter.mpr ⟨List.mem_of_getElem? (i := 394) (by decide +kernel), rfl⟩
theorem rm_396 : Cond.instanceMethod ⟨"ExactFractionsModel$Big", "trim", "()V"⟩ ∈ efG := List.mem_filter.mpr ⟨List.mem_of_getElem? (i := 396) (by decide +kernel), rfl⟩
theorem rm_397 : Cond.code ⟨"ExactFractionsModel$Big", "trim", "()V"⟩ prog_6_method_8_code 1 none ∈ efG := List.mem_filter.mpr ⟨List.mem_of_getElem? (i := 397) (by decide +kernel), rfl⟩
theorem rm_401 : Cond.code ⟨"ExactFractionsModel", "bits", "(II)I"⟩ prog_5_method_17_code 3 (some .int) ∈ efG := List.mem_filter.mpr ⟨List.mem_of_getElem? (i := 401) (by decide +kernel), rfl⟩
theorem rm_405 : Cond.code ⟨"ExactFractionsModel", "word", "(III)I"⟩ prog_5_method_18_code 7 (some .int) ∈ efG := List.mem_filter.mpr ⟨List.mem_of_getElem? (i := 405) (by decide +kernel), rfl⟩
theorem rm_409 : Cond.code ⟨"ExactFractionsModel", "compare", "()I"⟩ prog_5_method_19_code 1 (some .int) ∈ efG := List.mem_filter.mpr ⟨List.mem_of_getElem? (i := 409) (by decide +kernel), rfl⟩
theorem rm_410 : Cond.methodLink "ExactFractionsModel" 73 ⟨"ExactFractionsModel", "orderOf", "(LExactFractionsModel$Num;LExactFractionsModel$Num;)I"⟩ ∈ efG := List.mem_filter.mpr ⟨List.mem_of_getElem? (i := 410) (by decide +kernel), rfl⟩
theorem rm_412 : Cond.instanceMethod ⟨"ExactFractionsModel", "orderOf", "(LExactFractionsModel$Num;LExactFractionsModel$Num;)I"⟩ ∈ efG := List.mem_filter.mpr ⟨List.mem_of_getElem? (i := 412) (by decide +kernel), rfl⟩
theorem rm_413 : Cond.code ⟨"ExactFractionsModel", "orderOf", "(LExactFractionsModel$Num;LExactFractionsModel$Num;)I"⟩ prog_5_method_2_code 5 (some .int) ∈ efG := List.mem_filter.mpr ⟨List.mem_of_getElem? (i := 413) (by decide +kernel), rfl⟩
theorem rm_414 : Cond.methodLink "ExactFractionsModel" 48 ⟨"ExactFractionsModel$Num", "sign", "()I"⟩ ∈ efG := List.mem_filter.mpr ⟨List.mem_of_getElem? (i := 414) (by decide +kernel), rfl⟩
theorem rm_415 : Cond.instanceMethod ⟨"ExactFractionsModel$Num", "sign", "()I"⟩ ∈ efG := List.mem_filter.mpr ⟨List.mem_of_getElem? (i := 415) (by decide +kernel), rfl⟩
theorem rm_416 : Cond.selects "ExactFractionsModel$Num" ⟨"ExactFractionsModel$Num", "sign", "()I"⟩ ⟨"ExactFractionsModel$Num", "sign", "()I"⟩ ∈ efG := List.mem_filter.mpr ⟨List.mem_of_getElem? (i := 416) (by decide +kernel), rfl⟩
theorem rm_417 : Cond.code ⟨"ExactFractionsModel$Num", "sign", "()I"⟩ prog_7_method_4_code 1 (some .int) ∈ efG := List.mem_filter.mpr ⟨List.mem_of_getElem? (i := 417) (by decide +kernel), rfl⟩
theorem rm_418 : Cond.methodLink "ExactFractionsModel" 51 ⟨"ExactFractionsModel", "compareSizes", "(LExactFractionsModel$Num;LExactFractionsModel$Num;)I"⟩ ∈ efG := List.mem_filter.mpr ⟨List.mem_of_getElem? (i := 418) (by decide +kernel), rfl⟩
theorem rm_420 : Cond.instanceMethod ⟨"ExactFractionsModel", "compareSizes", "(LExactFractionsModel$Num;LExactFractionsModel$Num;)I"⟩ ∈ efG := List.mem_filter.mpr ⟨List.mem_of_getElem? (i := 420) (by decide +kernel), rfl⟩
theorem rm_421 : Cond.code ⟨"ExactFractionsModel", "compareSizes", "(LExactFractionsModel$Num;LExactFractionsModel$Num;)I"⟩ prog_5_method_1_code 5 (some .int) ∈ efG := List.mem_filter.mpr ⟨List.mem_of_getElem? (i := 421) (by decide +kernel), rfl⟩
theorem rm_422 : Cond.methodLink "ExactFractionsModel" 7 ⟨"ExactFractionsModel$Big", "isOne", "()Z"⟩ ∈ efG := List.mem_filter.mpr ⟨List.mem_of_getElem? (i := 422) (by decide +kernel), rfl⟩
theorem rm_423 : Cond.instanceMethod ⟨"ExactFractionsModel$Big", "isOne", "()Z"⟩ ∈ efG := List.mem_filter.mpr ⟨List.mem_of_getElem? (i := 423) (by decide +kernel), rfl⟩
theorem rm_424 : Cond.selects "ExactFractionsModel$Big" ⟨"ExactFractionsModel$Big", "isOne", "()Z"⟩ ⟨"ExactFractionsModel$Big", "isOne", "()Z"⟩ ∈ efG := List.mem_filter.mpr ⟨List.mem_of_getElem? (i := 424) (by decide +kernel), rfl⟩
theorem rm_425 : Cond.code ⟨"ExactFractionsModel$Big", "isOne", "()Z"⟩ prog_6_method_5_code 1 (some .boolean) ∈ efG := List.mem_filter.mpr ⟨List.mem_of_getElem? (i := 425) (by decide +kernel), rfl⟩
theorem rm_426 : Cond.methodLink "ExactFractionsModel" 25 ⟨"ExactFractionsModel$Big", "product", "(LExactFractionsModel$Big;LExactFractionsModel$Big;)V"⟩ ∈ efG := List.mem_filter.mpr ⟨List.mem_of_getElem? (i := 426) (by decide +kernel), rfl⟩
theorem rm_427 : Cond.instanceMethod ⟨"ExactFractionsModel$Big", "product", "(LExactFractionsModel$Big;LExactFractionsModel$Big;)V"⟩ ∈ efG := List.mem_filter.mpr ⟨List.mem_of_getElem? (i := 427) (by decide +kernel), rfl⟩
theorem rm_428 : Cond.selects "ExactFractionsModel$Big" ⟨"ExactFractionsModel$Big", "product", "(LExactFractionsModel$Big;LExactFractionsModel$Big;)V"⟩ ⟨"ExactFractionsModel$Big", "product", "(LExactFractionsModel$Big;LExactFractionsModel$Big;)V"⟩ ∈ efG := List.mem_filter.mpr ⟨List.mem_of_getElem? (i := 428) (by decide +kernel), rfl⟩
theorem rm_429 : Cond.code ⟨"ExactFractionsModel$Big", "product", "(LExactFractionsModel$Big;LExactFractionsModel$Big;)V"⟩ prog_6_method_7_code 9 none ∈ efG := List.mem_filter.mpr ⟨List.mem_of_getElem? (i := 429) (by decide +kernel), rfl⟩
theorem rm_430 : Cond.methodLink "ExactFractionsModel" 40 ⟨"ExactFractionsModel$Big", "shift", "(I)V"⟩ ∈ efG := List.mem_filter.mpr ⟨List.mem_of_getElem? (i := 430) (by decide +kernel), rfl⟩
theorem rm_431 : Cond.instanceMethod ⟨"ExactFractionsModel$Big", "shift", "(I)V"⟩ ∈ efG := List.mem_filter.mpr ⟨List.mem_of_getElem? (i := 431) (by decide +kernel), rfl⟩
theorem rm_432 : Cond.selects "ExactFractionsModel$Big" ⟨"ExactFractionsModel$Big", "shift", "(I)V"⟩ ⟨"ExactFractionsModel$Big", "shift", "(I)V"⟩ ∈ efG := List.mem_filter.mpr ⟨List.mem_of_getElem? (i := 432) (by decide +kernel), rfl⟩
theorem rm_433 : Cond.code ⟨"ExactFractionsModel$Big", "shift", "(I)V"⟩ prog_6_method_9_code 5 none ∈ efG := List.mem_filter.mpr ⟨List.mem_of_getElem? (i := 433) (by decide +kernel), rfl⟩
theorem rm_434 : Cond.methodLink "ExactFractionsModel$Big" 22 ⟨"ExactFractionsModel$Big", "grow", "(II)V"⟩ ∈ efG := List.mem_filter.mpr ⟨List.mem_of_getElem? (i := 434) (by decide +kernel), rfl⟩
theorem rm_438 : Cond.code ⟨"ExactFractionsModel", "round", "(IZ)J"⟩ prog_5_method_20_code 3 (some .long) ∈ efG := List.mem_filter.mpr ⟨List.mem_of_getElem? (i := 438) (by decide +kernel), rfl⟩
theorem rm_439 : Cond.constantLong "ExactFractionsModel" 148 (9221120237041090560) ∈ efG := List.mem_filter.mpr ⟨List.mem_of_getElem? (i := 439) (by decide +kernel), rfl⟩
theorem rm_440 : Cond.methodLink "ExactFractionsModel" 150 ⟨"ExactFractionsModel", "up", "(LExactFractionsModel$Num;)J"⟩ ∈ efG := List.mem_filter.mpr ⟨List.mem_of_getElem? (i := 440) (by decide +kernel), rfl⟩
theorem rm_442 : Cond.instanceMethod ⟨"ExactFractionsModel", "up", "(LExactFractionsModel$Num;)J"⟩ ∈ efG := List.mem_filter.mpr ⟨List.mem_of_getElem? (i := 442) (by decide +kernel), rfl⟩
theorem rm_443 : Cond.code ⟨"ExactFractionsModel", "up", "(LExactFractionsModel$Num;)J"⟩ prog_5_method_6_code 2 (some .long) ∈ efG := List.mem_filter.mpr ⟨List.mem_of_getElem? (i := 443) (by decide +kernel), rfl⟩
theorem rm_444 : Cond.methodLink "ExactFractionsModel" 83 ⟨"ExactFractionsModel$Num", "copy", "(LExactFractionsModel$Num;)V"⟩ ∈ efG := List.mem_filter.mpr ⟨List.mem_of_getElem? (i := 444) (by decide +kernel), rfl⟩
theorem rm_445 : Cond.instanceMethod ⟨"ExactFractionsModel$Num", "copy", "(LExactFractionsModel$Num;)V"⟩ ∈ efG := List.mem_filter.mpr ⟨List.mem_of_getElem? (i := 445) (by decide +kernel), rfl⟩
theorem rm_446 : Cond.selects "ExactFractionsModel$Num" ⟨"ExactFractionsModel$Num", "copy", "(LExactFractionsModel$Num;)V"⟩ ⟨"ExactFractionsModel$Num", "copy", "(LExactFractionsModel$Num;)V"⟩ ∈ efG := List.mem_filter.mpr ⟨List.mem_of_getElem? (i := 446) (by decide +kernel), rfl⟩
theorem rm_447 : Cond.code ⟨"ExactFractionsModel$Num", "copy", "(LExactFractionsModel$Num;)V"⟩ prog_7_method_3_code 2 none ∈ efG := List.mem_filter.mpr ⟨List.mem_of_getElem? (i := 447) (by decide +kernel), rfl⟩
theorem rm_448 : Cond.methodLink "ExactFractionsModel$Num" 31 ⟨"ExactFractionsModel$Big", "copy", "(LExactFractionsModel$Big;)V"⟩ ∈ efG := List.mem_filter.mpr ⟨List.mem_of_getElem? (i := 448) (by decide +kernel), rfl⟩
theorem rm_449 : Cond.methodLink "ExactFractionsModel" 90 ⟨"ExactFractionsModel", "down", "(LExactFractionsModel$Num;)J"⟩ ∈ efG := List.mem_filter.mpr ⟨List.mem_of_getElem? (i := 449) (by decide +kernel), rfl⟩
theorem rm_451 : Cond.instanceMethod ⟨"ExactFractionsModel", "down", "(LExactFractionsModel$Num;)J"⟩ ∈ efG := List.mem_filter.mpr ⟨List.mem_of_getElem? (i := 451) (by decide +kernel), rfl⟩
theorem rm_452 : Cond.code ⟨"ExactFractionsModel", "down", "(LExactFractionsModel$Num;)J"⟩ prog_5_method_5_code 9 (some .long) ∈ efG := List.mem_filter.mpr ⟨List.mem_of_getElem? (i := 452) (by decide +kernel), rfl⟩
theorem rm_453 : Cond.constantLong "ExactFractionsModel" 57 (-9218868437227405311) ∈ efG := List.mem_filter.mpr ⟨List.mem_of_getElem? (i := 453) (by decide +kernel), rfl⟩
theorem rm_454 : Cond.constantLong "ExactFractionsModel" 59 (9218868437227405312) ∈ efG := List.mem_filter.mpr ⟨List.mem_of_getElem? (i := 454) (by decide +kernel), rfl⟩
theorem rm_455 : Cond.methodLink "ExactFractionsModel" 65 ⟨"ExactFractionsModel", "floatOf", "(J)J"⟩ ∈ efG := List.mem_filter.mpr ⟨List.mem_of_getElem? (i := 455) (by decide +kernel), rfl⟩
theorem rm_456 : Cond.static ⟨"ExactFractionsModel", "floatOf", "(J)J"⟩ ∈ efG := List.mem_filter.mpr ⟨List.mem_of_getElem? (i := 456) (by decide +kernel), rfl⟩
theorem rm_457 : Cond.code ⟨"ExactFractionsModel", "floatOf", "(J)J"⟩ prog_5_method_3_code 2 (some .long) ∈ efG := List.mem_filter.mpr ⟨List.mem_of_getElem? (i := 457) (by decide +kernel), rfl⟩
theorem rm_458 : Cond.constantLong "ExactFractionsModel" 55 (-9223372036854775808) ∈ efG := List.mem_filter.mpr ⟨List.mem_of_getElem? (i := 458) (by decide +kernel), rfl⟩
theorem rm_459 : Cond.methodLink "ExactFractionsModel" 69 ⟨"ExactFractionsModel$Num", "setFloat", "(J)V"⟩ ∈ efG := List.mem_filter.mpr ⟨List.mem_of_getElem? (i := 459) (by decide +kernel), rfl⟩
theorem rm_460 : Cond.instanceMethod ⟨"ExactFractionsModel$Num", "setFloat", "(J)V"⟩ ∈ efG := List.mem_filter.mpr ⟨List.mem_of_getElem? (i := 460) (by decide +kernel), rfl⟩
theorem rm_461 : Cond.selects "ExactFractionsModel$Num" ⟨"ExactFractionsModel$Num", "setFloat", "(J)V"⟩ ⟨"ExactFractionsModel$Num", "setFloat", "(J)V"⟩ ∈ efG := List.mem_filter.mpr ⟨List.mem_of_getElem? (i := 461) (by decide +kernel), rfl⟩
theorem rm_462 : Cond.code ⟨"ExactFractionsModel$Num", "setFloat", "(J)V"⟩ prog_7_method_5_code 7 none ∈ efG := List.mem_filter.mpr ⟨List.mem_of_getElem? (i := 462) (by decide +kernel), rfl⟩
theorem rm_463 : Cond.constantLong "ExactFractionsModel$Num" 38 (2047) ∈ efG := List.mem_filter.mpr ⟨List.mem_of_getElem? (i := 463) (by decide +kernel), rfl⟩
theorem rm_464 : Cond.constantLong "ExactFractionsModel$Num" 40 (4503599627370495) ∈ efG := List.mem_filter.mpr ⟨List.mem_of_getElem? (i := 464) (by decide +kernel), rfl⟩
theorem rm_465 : Cond.constantLong "ExactFractionsModel$Num" 42 (4503599627370496) ∈ efG := List.mem_filter.mpr ⟨List.mem_of_getElem? (i := 465) (by decide +kernel), rfl⟩
theorem rm_466 : Cond.constantLong "ExactFractionsModel" 76 (-4503599627370496) ∈ efG := List.mem_filter.mpr ⟨List.mem_of_getElem? (i := 466) (by decide +kernel), rfl⟩
theorem rm_467 : Cond.constantLong "ExactFractionsModel" 78 (2) ∈ efG := List.mem_filter.mpr ⟨List.mem_of_getElem? (i := 467) (by decide +kernel), rfl⟩
theorem rm_468 : Cond.methodLink "ExactFractionsModel" 94 ⟨"ExactFractionsModel", "minus", "(J)J"⟩ ∈ efG := List.mem_filter.mpr ⟨List.mem_of_getElem? (i := 468) (by decide +kernel), rfl⟩
theorem rm_469 : Cond.static ⟨"ExactFractionsModel", "minus", "(J)J"⟩ ∈ efG := List.mem_filter.mpr ⟨List.mem_of_getElem? (i := 469) (by decide +kernel), rfl⟩
theorem rm_470 : Cond.code ⟨"ExactFractionsModel", "minus", "(J)J"⟩ prog_5_method_4_code 2 (some .long) ∈ efG := List.mem_filter.mpr ⟨List.mem_of_getElem? (i := 470) (by decide +kernel), rfl⟩
end
section
theorem rd_M_compareSizes_0 : decode rc_M_compareSizes 0 = .ok (.aload_n 2, 1) := by decide +kernel
theorem rd_M_compareSizes_1 : decode rc_M_compareSizes 1 = .ok (.getfield 1, 3) := by decide +kernel
theorem rd_M_compareSizes_4 : decode rc_M_compareSizes 4 = .ok (.invokevirtual 7, 3) := by decide +kernel
theorem rd_M_compareSizes_7 : decode rc_M_compareSizes 7 = .ok (.ifCond .eq 17, 3) := by decide +kernel
theorem rd_M_compareSizes_10 : decode rc_M_compareSizes 10 = .ok (.aload_n 0, 1) := by decide +kernel
theorem rd_M_compareSizes_11 : decode rc_M_compareSizes 11 = .ok (.getfield 13, 3) := by decide +kernel
theorem rd_M_compareSizes_14 : decode rc_M_compareSizes 14 = .ok (.aload_n 1, 1) := by decide +kernel
theorem rd_M_compareSizes_15 : decode rc_M_compareSizes 15 = .ok (.getfield 18, 3) := by decide +kernel
theorem rd_M_compareSizes_18 : decode rc_M_compareSizes 18 = .ok (.invokevirtual 21, 3) := by decide +kernel
theorem rd_M_compareSizes_21 : decode rc_M_compareSizes 21 = .ok (.goto 18, 3) := by decide +kernel
theorem rd_M_compareSizes_24 : decode rc_M_compareSizes 24 = .ok (.aload_n 0, 1) := by decide +kernel
theorem rd_M_compareSizes_25 : decode rc_M_compareSizes 25 = .ok (.getfield 13, 3) := by decide +kernel
theorem rd_M_compareSizes_28 : decode rc_M_compareSizes 28 = .ok (.aload_n 1, 1) := by decide +kernel
theorem rd_M_compareSizes_29 : decode rc_M_compareSizes 29 = .ok (.getfield 18, 3) := by decide +kernel
theorem rd_M_compareSizes_32 : decode rc_M_compareSizes 32 = .ok (.aload_n 2, 1) := by decide +kernel
theorem rd_M_compareSizes_33 : decode rc_M_compareSizes 33 = .ok (.getfield 1, 3) := by decide +kernel
theorem rd_M_compareSizes_36 : decode rc_M_compareSizes 36 = .ok (.invokevirtual 25, 3) := by decide +kernel
theorem rd_M_compareSizes_39 : decode rc_M_compareSizes 39 = .ok (.aload_n 1, 1) := by decide +kernel
theorem rd_M_compareSizes_40 : decode rc_M_compareSizes 40 = .ok (.getfield 1, 3) := by decide +kernel
theorem rd_M_compareSizes_43 : decode rc_M_compareSizes 43 = .ok (.invokevirtual 7, 3) := by decide +kernel
theorem rd_M_compareSizes_46 : decode rc_M_compareSizes 46 = .ok (.ifCond .eq 17, 3) := by decide +kernel
theorem rd_M_compareSizes_49 : decode rc_M_compareSizes 49 = .ok (.aload_n 0, 1) := by decide +kernel
theorem rd_M_compareSizes_50 : decode rc_M_compareSizes 50 = .ok (.getfield 29, 3) := by decide +kernel
theorem rd_M_compareSizes_53 : decode rc_M_compareSizes 53 = .ok (.aload_n 2, 1) := by decide +kernel
theorem rd_M_compareSizes_54 : decode rc_M_compareSizes 54 = .ok (.getfield 18, 3) := by decide +kernel
theorem rd_M_compareSizes_57 : decode rc_M_compareSizes 57 = .ok (.invokevirtual 21, 3) := by decide +kernel
theorem rd_M_compareSizes_60 : decode rc_M_compareSizes 60 = .ok (.goto 18, 3) := by decide +kernel
theorem rd_M_compareSizes_63 : decode rc_M_compareSizes 63 = .ok (.aload_n 0, 1) := by decide +kernel
theorem rd_M_compareSizes_64 : decode rc_M_compareSizes 64 = .ok (.getfield 29, 3) := by decide +kernel
theorem rd_M_compareSizes_67 : decode rc_M_compareSizes 67 = .ok (.aload_n 2, 1) := by decide +kernel
theorem rd_M_compareSizes_68 : decode rc_M_compareSizes 68 = .ok (.getfield 18, 3) := by decide +kernel
theorem rd_M_compareSizes_71 : decode rc_M_compareSizes 71 = .ok (.aload_n 1, 1) := by decide +kernel
theorem rd_M_compareSizes_72 : decode rc_M_compareSizes 72 = .ok (.getfield 1, 3) := by decide +kernel
theorem rd_M_compareSizes_75 : decode rc_M_compareSizes 75 = .ok (.invokevirtual 25, 3) := by decide +kernel
theorem rd_M_compareSizes_78 : decode rc_M_compareSizes 78 = .ok (.aload_n 0, 1) := by decide +kernel
theorem rd_M_compareSizes_79 : decode rc_M_compareSizes 79 = .ok (.getfield 13, 3) := by decide +kernel
theorem rd_M_compareSizes_82 : decode rc_M_compareSizes 82 = .ok (.invokevirtual 32, 3) := by decide +kernel
theorem rd_M_compareSizes_85 : decode rc_M_compareSizes 85 = .ok (.aload_n 1, 1) := by decide +kernel
theorem rd_M_compareSizes_86 : decode rc_M_compareSizes 86 = .ok (.getfield 36, 3) := by decide +kernel
theorem rd_M_compareSizes_89 : decode rc_M_compareSizes 89 = .ok (.iadd, 1) := by decide +kernel
theorem rd_M_compareSizes_90 : decode rc_M_compareSizes 90 = .ok (.istore_n 3, 1) := by decide +kernel
theorem rd_M_compareSizes_91 : decode rc_M_compareSizes 91 = .ok (.aload_n 0, 1) := by decide +kernel
theorem rd_M_compareSizes_92 : decode rc_M_compareSizes 92 = .ok (.getfield 29, 3) := by decide +kernel
theorem rd_M_compareSizes_95 : decode rc_M_compareSizes 95 = .ok (.invokevirtual 32, 3) := by decide +kernel
theorem rd_M_compareSizes_98 : decode rc_M_compareSizes 98 = .ok (.aload_n 2, 1) := by decide +kernel
theorem rd_M_compareSizes_99 : decode rc_M_compareSizes 99 = .ok (.getfield 36, 3) := by decide +kernel
theorem rd_M_compareSizes_102 : decode rc_M_compareSizes 102 = .ok (.iadd, 1) := by decide +kernel
theorem rd_M_compareSizes_103 : decode rc_M_compareSizes 103 = .ok (.istore 4, 2) := by decide +kernel
theorem rd_M_compareSizes_105 : decode rc_M_compareSizes 105 = .ok (.iload_n 3, 1) := by decide +kernel
theorem rd_M_compareSizes_106 : decode rc_M_compareSizes 106 = .ok (.iload 4, 2) := by decide +kernel
theorem rd_M_compareSizes_108 : decode rc_M_compareSizes 108 = .ok (.if_icmp .eq 15, 3) := by decide +kernel
theorem rd_M_compareSizes_111 : decode rc_M_compareSizes 111 = .ok (.iload_n 3, 1) := by decide +kernel
theorem rd_M_compareSizes_112 : decode rc_M_compareSizes 112 = .ok (.iload 4, 2) := by decide +kernel
theorem rd_M_compareSizes_114 : decode rc_M_compareSizes 114 = .ok (.if_icmp .ge 7, 3) := by decide +kernel
theorem rd_M_compareSizes_117 : decode rc_M_compareSizes 117 = .ok (.iconst (-1), 1) := by decide +kernel
theorem rd_M_compareSizes_118 : decode rc_M_compareSizes 118 = .ok (.goto 4, 3) := by decide +kernel
theorem rd_M_compareSizes_121 : decode rc_M_compareSizes 121 = .ok (.iconst 1, 1) := by decide +kernel
theorem rd_M_compareSizes_122 : decode rc_M_compareSizes 122 = .ok (.ireturn, 1) := by decide +kernel
theorem rd_M_compareSizes_123 : decode rc_M_compareSizes 123 = .ok (.aload_n 1, 1) := by decide +kernel
theorem rd_M_compareSizes_124 : decode rc_M_compareSizes 124 = .ok (.getfield 36, 3) := by decide +kernel
theorem rd_M_compareSizes_127 : decode rc_M_compareSizes 127 = .ok (.aload_n 2, 1) := by decide +kernel
theorem rd_M_compareSizes_128 : decode rc_M_compareSizes 128 = .ok (.getfield 36, 3) := by decide +kernel
theorem rd_M_compareSizes_131 : decode rc_M_compareSizes 131 = .ok (.if_icmp .le 22, 3) := by decide +kernel
theorem rd_M_compareSizes_134 : decode rc_M_compareSizes 134 = .ok (.aload_n 0, 1) := by decide +kernel
theorem rd_M_compareSizes_135 : decode rc_M_compareSizes 135 = .ok (.getfield 13, 3) := by decide +kernel
theorem rd_M_compareSizes_138 : decode rc_M_compareSizes 138 = .ok (.aload_n 1, 1) := by decide +kernel
theorem rd_M_compareSizes_139 : decode rc_M_compareSizes 139 = .ok (.getfield 36, 3) := by decide +kernel
theorem rd_M_compareSizes_142 : decode rc_M_compareSizes 142 = .ok (.aload_n 2, 1) := by decide +kernel
theorem rd_M_compareSizes_143 : decode rc_M_compareSizes 143 = .ok (.getfield 36, 3) := by decide +kernel
theorem rd_M_compareSizes_146 : decode rc_M_compareSizes 146 = .ok (.isub, 1) := by decide +kernel
theorem rd_M_compareSizes_147 : decode rc_M_compareSizes 147 = .ok (.invokevirtual 40, 3) := by decide +kernel
theorem rd_M_compareSizes_150 : decode rc_M_compareSizes 150 = .ok (.goto 19, 3) := by decide +kernel
theorem rd_M_compareSizes_153 : decode rc_M_compareSizes 153 = .ok (.aload_n 0, 1) := by decide +kernel
theorem rd_M_compareSizes_154 : decode rc_M_compareSizes 154 = .ok (.getfield 29, 3) := by decide +kernel
theorem rd_M_compareSizes_157 : decode rc_M_compareSizes 157 = .ok (.aload_n 2, 1) := by decide +kernel
theorem rd_M_compareSizes_158 : decode rc_M_compareSizes 158 = .ok (.getfield 36, 3) := by decide +kernel
theorem rd_M_compareSizes_161 : decode rc_M_compareSizes 161 = .ok (.aload_n 1, 1) := by decide +kernel
theorem rd_M_compareSizes_162 : decode rc_M_compareSizes 162 = .ok (.getfield 36, 3) := by decide +kernel
theorem rd_M_compareSizes_165 : decode rc_M_compareSizes 165 = .ok (.isub, 1) := by decide +kernel
theorem rd_M_compareSizes_166 : decode rc_M_compareSizes 166 = .ok (.invokevirtual 40, 3) := by decide +kernel
theorem rd_M_compareSizes_169 : decode rc_M_compareSizes 169 = .ok (.aload_n 0, 1) := by decide +kernel
theorem rd_M_compareSizes_170 : decode rc_M_compareSizes 170 = .ok (.getfield 13, 3) := by decide +kernel
theorem rd_M_compareSizes_173 : decode rc_M_compareSizes 173 = .ok (.aload_n 0, 1) := by decide +kernel
theorem rd_M_compareSizes_174 : decode rc_M_compareSizes 174 = .ok (.getfield 29, 3) := by decide +kernel
theorem rd_M_compareSizes_177 : decode rc_M_compareSizes 177 = .ok (.invokevirtual 44, 3) := by decide +kernel
theorem rd_M_compareSizes_180 : decode rc_M_compareSizes 180 = .ok (.ireturn, 1) := by decide +kernel
theorem rd_M_orderOf_0 : decode rc_M_orderOf 0 = .ok (.aload_n 1, 1) := by decide +kernel
theorem rd_M_orderOf_1 : decode rc_M_orderOf 1 = .ok (.invokevirtual 48, 3) := by decide +kernel
theorem rd_M_orderOf_4 : decode rc_M_orderOf 4 = .ok (.istore_n 3, 1) := by decide +kernel
theorem rd_M_orderOf_5 : decode rc_M_orderOf 5 = .ok (.aload_n 2, 1) := by decide +kernel
theorem rd_M_orderOf_6 : decode rc_M_orderOf 6 = .ok (.invokevirtual 48, 3) := by decide +kernel
theorem rd_M_orderOf_9 : decode rc_M_orderOf 9 = .ok (.istore 4, 2) := by decide +kernel
theorem rd_M_orderOf_11 : decode rc_M_orderOf 11 = .ok (.iload_n 3, 1) := by decide +kernel
theorem rd_M_orderOf_12 : decode rc_M_orderOf 12 = .ok (.iload 4, 2) := by decide +kernel
theorem rd_M_orderOf_14 : decode rc_M_orderOf 14 = .ok (.if_icmp .ne 7, 3) := by decide +kernel
theorem rd_M_orderOf_17 : decode rc_M_orderOf 17 = .ok (.iload_n 3, 1) := by decide +kernel
theorem rd_M_orderOf_18 : decode rc_M_orderOf 18 = .ok (.ifCond .ne 25, 3) := by decide +kernel
theorem rd_M_orderOf_21 : decode rc_M_orderOf 21 = .ok (.iload_n 3, 1) := by decide +kernel
theorem rd_M_orderOf_22 : decode rc_M_orderOf 22 = .ok (.iload 4, 2) := by decide +kernel
theorem rd_M_orderOf_24 : decode rc_M_orderOf 24 = .ok (.if_icmp .ge 7, 3) := by decide +kernel
theorem rd_M_orderOf_27 : decode rc_M_orderOf 27 = .ok (.iconst (-1), 1) := by decide +kernel
theorem rd_M_orderOf_28 : decode rc_M_orderOf 28 = .ok (.goto 14, 3) := by decide +kernel
theorem rd_M_orderOf_31 : decode rc_M_orderOf 31 = .ok (.iload_n 3, 1) := by decide +kernel
theorem rd_M_orderOf_32 : decode rc_M_orderOf 32 = .ok (.iload 4, 2) := by decide +kernel
theorem rd_M_orderOf_34 : decode rc_M_orderOf 34 = .ok (.if_icmp .le 7, 3) := by decide +kernel
theorem rd_M_orderOf_37 : decode rc_M_orderOf 37 = .ok (.iconst 1, 1) := by decide +kernel
theorem rd_M_orderOf_38 : decode rc_M_orderOf 38 = .ok (.goto 4, 3) := by decide +kernel
theorem rd_M_orderOf_41 : decode rc_M_orderOf 41 = .ok (.iconst 0, 1) := by decide +kernel
theorem rd_M_orderOf_42 : decode rc_M_orderOf 42 = .ok (.ireturn, 1) := by decide +kernel
theorem rd_M_orderOf_43 : decode rc_M_orderOf 43 = .ok (.iload_n 3, 1) := by decide +kernel
theorem rd_M_orderOf_44 : decode rc_M_orderOf 44 = .ok (.aload_n 0, 1) := by decide +kernel
theorem rd_M_orderOf_45 : decode rc_M_orderOf 45 = .ok (.aload_n 1, 1) := by decide +kernel
theorem rd_M_orderOf_46 : decode rc_M_orderOf 46 = .ok (.aload_n 2, 1) := by decide +kernel
theorem rd_M_orderOf_47 : decode rc_M_orderOf 47 = .ok (.invokevirtual 51, 3) := by decide +kernel
theorem rd_M_orderOf_50 : decode rc_M_orderOf 50 = .ok (.imul, 1) := by decide +kernel
theorem rd_M_orderOf_51 : decode rc_M_orderOf 51 = .ok (.ireturn, 1) := by decide +kernel
theorem rd_M_floatOf_0 : decode rc_M_floatOf 0 = .ok (.lload_n 0, 1) := by decide +kernel
theorem rd_M_floatOf_1 : decode rc_M_floatOf 1 = .ok (.lconst 0, 1) := by decide +kernel
theorem rd_M_floatOf_2 : decode rc_M_floatOf 2 = .ok (.lcmp, 1) := by decide +kernel
theorem rd_M_floatOf_3 : decode rc_M_floatOf 3 = .ok (.ifCond .ge 12, 3) := by decide +kernel
theorem rd_M_floatOf_6 : decode rc_M_floatOf 6 = .ok (.lload_n 0, 1) := by decide +kernel
theorem rd_M_floatOf_7 : decode rc_M_floatOf 7 = .ok (.lneg, 1) := by decide +kernel
theorem rd_M_floatOf_8 : decode rc_M_floatOf 8 = .ok (.ldc2_w 55, 3) := by decide +kernel
theorem rd_M_floatOf_11 : decode rc_M_floatOf 11 = .ok (.lor, 1) := by decide +kernel
theorem rd_M_floatOf_12 : decode rc_M_floatOf 12 = .ok (.goto 4, 3) := by decide +kernel
theorem rd_M_floatOf_15 : decode rc_M_floatOf 15 = .ok (.lload_n 0, 1) := by decide +kernel
theorem rd_M_floatOf_16 : decode rc_M_floatOf 16 = .ok (.lreturn, 1) := by decide +kernel
theorem rd_M_minus_0 : decode rc_M_minus 0 = .ok (.lload_n 0, 1) := by decide +kernel
theorem rd_M_minus_1 : decode rc_M_minus 1 = .ok (.lconst 0, 1) := by decide +kernel
theorem rd_M_minus_2 : decode rc_M_minus 2 = .ok (.lcmp, 1) := by decide +kernel
theorem rd_M_minus_3 : decode rc_M_minus 3 = .ok (.ifCond .ne 7, 3) := by decide +kernel
theorem rd_M_minus_6 : decode rc_M_minus 6 = .ok (.lconst 0, 1) := by decide +kernel
theorem rd_M_minus_7 : decode rc_M_minus 7 = .ok (.goto 8, 3) := by decide +kernel
theorem rd_M_minus_10 : decode rc_M_minus 10 = .ok (.lload_n 0, 1) := by decide +kernel
theorem rd_M_minus_11 : decode rc_M_minus 11 = .ok (.ldc2_w 55, 3) := by decide +kernel
theorem rd_M_minus_14 : decode rc_M_minus 14 = .ok (.lxor, 1) := by decide +kernel
theorem rd_M_minus_15 : decode rc_M_minus 15 = .ok (.lreturn, 1) := by decide +kernel
theorem rd_M_down_0 : decode rc_M_down 0 = .ok (.aload_n 1, 1) := by decide +kernel
theorem rd_M_down_1 : decode rc_M_down 1 = .ok (.invokevirtual 48, 3) := by decide +kernel
theorem rd_M_down_4 : decode rc_M_down 4 = .ok (.ifCond .ge 7, 3) := by decide +kernel
theorem rd_M_down_7 : decode rc_M_down 7 = .ok (.iconst 1, 1) := by decide +kernel
theorem rd_M_down_8 : decode rc_M_down 8 = .ok (.goto 4, 3) := by decide +kernel
theorem rd_M_down_11 : decode rc_M_down 11 = .ok (.iconst 0, 1) := by decide +kernel
theorem rd_M_down_12 : decode rc_M_down 12 = .ok (.istore_n 2, 1) := by decide +kernel
theorem rd_M_down_13 : decode rc_M_down 13 = .ok (.iload_n 2, 1) := by decide +kernel
theorem rd_M_down_14 : decode rc_M_down 14 = .ok (.ifCond .eq 9, 3) := by decide +kernel
theorem rd_M_down_17 : decode rc_M_down 17 = .ok (.ldc2_w 57, 3) := by decide +kernel
theorem rd_M_down_20 : decode rc_M_down 20 = .ok (.goto 4, 3) := by decide +kernel
theorem rd_M_down_23 : decode rc_M_down 23 = .ok (.lconst 0, 1) := by decide +kernel
theorem rd_M_down_24 : decode rc_M_down 24 = .ok (.lstore_n 3, 1) := by decide +kernel
theorem rd_M_down_25 : decode rc_M_down 25 = .ok (.iload_n 2, 1) := by decide +kernel
theorem rd_M_down_26 : decode rc_M_down 26 = .ok (.ifCond .eq 7, 3) := by decide +kernel
theorem rd_M_down_29 : decode rc_M_down 29 = .ok (.lconst 0, 1) := by decide +kernel
theorem rd_M_down_30 : decode rc_M_down 30 = .ok (.goto 6, 3) := by decide +kernel
theorem rd_M_down_33 : decode rc_M_down 33 = .ok (.ldc2_w 59, 3) := by decide +kernel
theorem rd_M_down_36 : decode rc_M_down 36 = .ok (.lstore 5, 2) := by decide +kernel
theorem rd_M_down_38 : decode rc_M_down 38 = .ok (.aload_n 0, 1) := by decide +kernel
theorem rd_M_down_39 : decode rc_M_down 39 = .ok (.getfield 61, 3) := by decide +kernel
theorem rd_M_down_42 : decode rc_M_down 42 = .ok (.ldc2_w 57, 3) := by decide +kernel
theorem rd_M_down_45 : decode rc_M_down 45 = .ok (.invokestatic 65, 3) := by decide +kernel
theorem rd_M_down_48 : decode rc_M_down 48 = .ok (.invokevirtual 69, 3) := by decide +kernel
theorem rd_M_down_51 : decode rc_M_down 51 = .ok (.iload_n 2, 1) := by decide +kernel
theorem rd_M_down_52 : decode rc_M_down 52 = .ok (.ifCond .eq 19, 3) := by decide +kernel
theorem rd_M_down_55 : decode rc_M_down 55 = .ok (.aload_n 0, 1) := by decide +kernel
theorem rd_M_down_56 : decode rc_M_down 56 = .ok (.aload_n 0, 1) := by decide +kernel
theorem rd_M_down_57 : decode rc_M_down 57 = .ok (.getfield 61, 3) := by decide +kernel
theorem rd_M_down_60 : decode rc_M_down 60 = .ok (.aload_n 1, 1) := by decide +kernel
theorem rd_M_down_61 : decode rc_M_down 61 = .ok (.invokevirtual 73, 3) := by decide +kernel
theorem rd_M_down_64 : decode rc_M_down 64 = .ok (.ifCond .le 7, 3) := by decide +kernel
theorem rd_M_down_67 : decode rc_M_down 67 = .ok (.ldc2_w 76, 3) := by decide +kernel
theorem rd_M_down_70 : decode rc_M_down 70 = .ok (.lreturn, 1) := by decide +kernel
theorem rd_M_down_71 : decode rc_M_down 71 = .ok (.lload 5, 2) := by decide +kernel
theorem rd_M_down_73 : decode rc_M_down 73 = .ok (.lload_n 3, 1) := by decide +kernel
theorem rd_M_down_74 : decode rc_M_down 74 = .ok (.lsub, 1) := by decide +kernel
theorem rd_M_down_75 : decode rc_M_down 75 = .ok (.lconst 1, 1) := by decide +kernel
theorem rd_M_down_76 : decode rc_M_down 76 = .ok (.lcmp, 1) := by decide +kernel
theorem rd_M_down_77 : decode rc_M_down 77 = .ok (.ifCond .le 52, 3) := by decide +kernel
theorem rd_M_down_80 : decode rc_M_down 80 = .ok (.lload_n 3, 1) := by decide +kernel
theorem rd_M_down_81 : decode rc_M_down 81 = .ok (.lload 5, 2) := by decide +kernel
theorem rd_M_down_83 : decode rc_M_down 83 = .ok (.lload_n 3, 1) := by decide +kernel
theorem rd_M_down_84 : decode rc_M_down 84 = .ok (.lsub, 1) := by decide +kernel
theorem rd_M_down_85 : decode rc_M_down 85 = .ok (.ldc2_w 78, 3) := by decide +kernel
theorem rd_M_down_88 : decode rc_M_down 88 = .ok (.ldiv, 1) := by decide +kernel
theorem rd_M_down_89 : decode rc_M_down 89 = .ok (.ladd, 1) := by decide +kernel
theorem rd_M_down_90 : decode rc_M_down 90 = .ok (.lstore 7, 2) := by decide +kernel
theorem rd_M_down_92 : decode rc_M_down 92 = .ok (.aload_n 0, 1) := by decide +kernel
theorem rd_M_down_93 : decode rc_M_down 93 = .ok (.getfield 61, 3) := by decide +kernel
theorem rd_M_down_96 : decode rc_M_down 96 = .ok (.lload 7, 2) := by decide +kernel
theorem rd_M_down_98 : decode rc_M_down 98 = .ok (.invokestatic 65, 3) := by decide +kernel
theorem rd_M_down_101 : decode rc_M_down 101 = .ok (.invokevirtual 69, 3) := by decide +kernel
theorem rd_M_down_104 : decode rc_M_down 104 = .ok (.aload_n 0, 1) := by decide +kernel
theorem rd_M_down_105 : decode rc_M_down 105 = .ok (.aload_n 0, 1) := by decide +kernel
theorem rd_M_down_106 : decode rc_M_down 106 = .ok (.getfield 61, 3) := by decide +kernel
theorem rd_M_down_109 : decode rc_M_down 109 = .ok (.aload_n 1, 1) := by decide +kernel
theorem rd_M_down_110 : decode rc_M_down 110 = .ok (.invokevirtual 73, 3) := by decide +kernel
theorem rd_M_down_113 : decode rc_M_down 113 = .ok (.ifCond .gt 9, 3) := by decide +kernel
theorem rd_M_down_116 : decode rc_M_down 116 = .ok (.lload 7, 2) := by decide +kernel
theorem rd_M_down_118 : decode rc_M_down 118 = .ok (.lstore_n 3, 1) := by decide +kernel
theorem rd_M_down_119 : decode rc_M_down 119 = .ok (.goto 7, 3) := by decide +kernel
theorem rd_M_down_122 : decode rc_M_down 122 = .ok (.lload 7, 2) := by decide +kernel
theorem rd_M_down_124 : decode rc_M_down 124 = .ok (.lstore 5, 2) := by decide +kernel
theorem rd_M_down_126 : decode rc_M_down 126 = .ok (.goto (-55), 3) := by decide +kernel
theorem rd_M_down_129 : decode rc_M_down 129 = .ok (.lload_n 3, 1) := by decide +kernel
theorem rd_M_down_130 : decode rc_M_down 130 = .ok (.invokestatic 65, 3) := by decide +kernel
theorem rd_M_down_133 : decode rc_M_down 133 = .ok (.lreturn, 1) := by decide +kernel
theorem rd_M_up_0 : decode rc_M_up 0 = .ok (.aload_n 0, 1) := by decide +kernel
theorem rd_M_up_1 : decode rc_M_up 1 = .ok (.getfield 80, 3) := by decide +kernel
theorem rd_M_up_4 : decode rc_M_up 4 = .ok (.aload_n 1, 1) := by decide +kernel
theorem rd_M_up_5 : decode rc_M_up 5 = .ok (.invokevirtual 83, 3) := by decide +kernel
theorem rd_M_up_8 : decode rc_M_up 8 = .ok (.aload_n 0, 1) := by decide +kernel
theorem rd_M_up_9 : decode rc_M_up 9 = .ok (.getfield 80, 3) := by decide +kernel
theorem rd_M_up_12 : decode rc_M_up 12 = .ok (.aload_n 1, 1) := by decide +kernel
theorem rd_M_up_13 : decode rc_M_up 13 = .ok (.getfield 86, 3) := by decide +kernel
theorem rd_M_up_16 : decode rc_M_up 16 = .ok (.ifCond .ne 7, 3) := by decide +kernel
theorem rd_M_up_19 : decode rc_M_up 19 = .ok (.iconst 1, 1) := by decide +kernel
theorem rd_M_up_20 : decode rc_M_up 20 = .ok (.goto 4, 3) := by decide +kernel
theorem rd_M_up_23 : decode rc_M_up 23 = .ok (.iconst 0, 1) := by decide +kernel
theorem rd_M_up_24 : decode rc_M_up 24 = .ok (.putfield 86, 3) := by decide +kernel
theorem rd_M_up_27 : decode rc_M_up 27 = .ok (.aload_n 0, 1) := by decide +kernel
theorem rd_M_up_28 : decode rc_M_up 28 = .ok (.aload_n 0, 1) := by decide +kernel
theorem rd_M_up_29 : decode rc_M_up 29 = .ok (.getfield 80, 3) := by decide +kernel
theorem rd_M_up_32 : decode rc_M_up 32 = .ok (.invokevirtual 90, 3) := by decide +kernel
theorem rd_M_up_35 : decode rc_M_up 35 = .ok (.invokestatic 94, 3) := by decide +kernel
theorem rd_M_up_38 : decode rc_M_up 38 = .ok (.lreturn, 1) := by decide +kernel
theorem rd_M_init_0 : decode rc_M_init 0 = .ok (.aload_n 0, 1) := by decide +kernel
theorem rd_M_init_1 : decode rc_M_init 1 = .ok (.invokespecial 97, 3) := by decide +kernel
theorem rd_M_init_4 : decode rc_M_init 4 = .ok (.aload_n 0, 1) := by decide +kernel
theorem rd_M_init_5 : decode rc_M_init 5 = .ok (.new 8, 3) := by decide +kernel
theorem rd_M_init_8 : decode rc_M_init 8 = .ok (.dup, 1) := by decide +kernel
theorem rd_M_init_9 : decode rc_M_init 9 = .ok (.invokespecial 103, 3) := by decide +kernel
theorem rd_M_init_12 : decode rc_M_init 12 = .ok (.putfield 13, 3) := by decide +kernel
theorem rd_M_init_15 : decode rc_M_init 15 = .ok (.aload_n 0, 1) := by decide +kernel
theorem rd_M_init_16 : decode rc_M_init 16 = .ok (.new 8, 3) := by decide +kernel
theorem rd_M_init_19 : decode rc_M_init 19 = .ok (.dup, 1) := by decide +kernel
theorem rd_M_init_20 : decode rc_M_init 20 = .ok (.invokespecial 103, 3) := by decide +kernel
theorem rd_M_init_23 : decode rc_M_init 23 = .ok (.putfield 29, 3) := by decide +kernel
theorem rd_M_init_26 : decode rc_M_init 26 = .ok (.aload_n 0, 1) := by decide +kernel
theorem rd_M_init_27 : decode rc_M_init 27 = .ok (.new 2, 3) := by decide +kernel
theorem rd_M_init_30 : decode rc_M_init 30 = .ok (.dup, 1) := by decide +kernel
theorem rd_M_init_31 : decode rc_M_init 31 = .ok (.invokespecial 104, 3) := by decide +kernel
theorem rd_M_init_34 : decode rc_M_init 34 = .ok (.putfield 61, 3) := by decide +kernel
theorem rd_M_init_37 : decode rc_M_init 37 = .ok (.aload_n 0, 1) := by decide +kernel
theorem rd_M_init_38 : decode rc_M_init 38 = .ok (.new 2, 3) := by decide +kernel
theorem rd_M_init_41 : decode rc_M_init 41 = .ok (.dup, 1) := by decide +kernel
theorem rd_M_init_42 : decode rc_M_init 42 = .ok (.invokespecial 104, 3) := by decide +kernel
theorem rd_M_init_45 : decode rc_M_init 45 = .ok (.putfield 80, 3) := by decide +kernel
theorem rd_M_init_48 : decode rc_M_init 48 = .ok (.aload_n 0, 1) := by decide +kernel
theorem rd_M_init_49 : decode rc_M_init 49 = .ok (.new 2, 3) := by decide +kernel
theorem rd_M_init_52 : decode rc_M_init 52 = .ok (.dup, 1) := by decide +kernel
theorem rd_M_init_53 : decode rc_M_init 53 = .ok (.invokespecial 104, 3) := by decide +kernel
theorem rd_M_init_56 : decode rc_M_init 56 = .ok (.putfield 105, 3) := by decide +kernel
theorem rd_M_init_59 : decode rc_M_init 59 = .ok (.aload_n 0, 1) := by decide +kernel
theorem rd_M_init_60 : decode rc_M_init 60 = .ok (.new 2, 3) := by decide +kernel
theorem rd_M_init_63 : decode rc_M_init 63 = .ok (.dup, 1) := by decide +kernel
theorem rd_M_init_64 : decode rc_M_init 64 = .ok (.invokespecial 104, 3) := by decide +kernel
theorem rd_M_init_67 : decode rc_M_init 67 = .ok (.putfield 108, 3) := by decide +kernel
theorem rd_M_init_70 : decode rc_M_init 70 = .ok (.aload_n 0, 1) := by decide +kernel
theorem rd_M_init_71 : decode rc_M_init 71 = .ok (.new 8, 3) := by decide +kernel
theorem rd_M_init_74 : decode rc_M_init 74 = .ok (.dup, 1) := by decide +kernel
theorem rd_M_init_75 : decode rc_M_init 75 = .ok (.invokespecial 103, 3) := by decide +kernel
theorem rd_M_init_78 : decode rc_M_init 78 = .ok (.putfield 111, 3) := by decide +kernel
theorem rd_M_init_81 : decode rc_M_init 81 = .ok (.aload_n 0, 1) := by decide +kernel
theorem rd_M_init_82 : decode rc_M_init 82 = .ok (.getfield 105, 3) := by decide +kernel
theorem rd_M_init_85 : decode rc_M_init 85 = .ok (.lconst 0, 1) := by decide +kernel
theorem rd_M_init_86 : decode rc_M_init 86 = .ok (.invokevirtual 114, 3) := by decide +kernel
theorem rd_M_init_89 : decode rc_M_init 89 = .ok (.aload_n 0, 1) := by decide +kernel
theorem rd_M_init_90 : decode rc_M_init 90 = .ok (.getfield 108, 3) := by decide +kernel
theorem rd_M_init_93 : decode rc_M_init 93 = .ok (.lconst 0, 1) := by decide +kernel
theorem rd_M_init_94 : decode rc_M_init 94 = .ok (.invokevirtual 114, 3) := by decide +kernel
theorem rd_M_init_97 : decode rc_M_init 97 = .ok (.return_, 1) := by decide +kernel
theorem rd_M_isNumber_0 : decode rc_M_isNumber 0 = .ok (.iload_n 0, 1) := by decide +kernel
theorem rd_M_isNumber_1 : decode rc_M_isNumber 1 = .ok (.ifCond .eq 8, 3) := by decide +kernel
theorem rd_M_isNumber_4 : decode rc_M_isNumber 4 = .ok (.iload_n 0, 1) := by decide +kernel
theorem rd_M_isNumber_5 : decode rc_M_isNumber 5 = .ok (.iconst 1, 1) := by decide +kernel
theorem rd_M_isNumber_6 : decode rc_M_isNumber 6 = .ok (.if_icmp .ne 7, 3) := by decide +kernel
theorem rd_M_isNumber_9 : decode rc_M_isNumber 9 = .ok (.iconst 1, 1) := by decide +kernel
theorem rd_M_isNumber_10 : decode rc_M_isNumber 10 = .ok (.goto 4, 3) := by decide +kernel
theorem rd_M_isNumber_13 : decode rc_M_isNumber 13 = .ok (.iconst 0, 1) := by decide +kernel
theorem rd_M_isNumber_14 : decode rc_M_isNumber 14 = .ok (.ireturn, 1) := by decide +kernel
theorem rd_M_numberOf_0 : decode rc_M_numberOf 0 = .ok (.iload_n 1, 1) := by decide +kernel
theorem rd_M_numberOf_1 : decode rc_M_numberOf 1 = .ok (.ifCond .ne 10, 3) := by decide +kernel
theorem rd_M_numberOf_4 : decode rc_M_numberOf 4 = .ok (.aload_n 0, 1) := by decide +kernel
theorem rd_M_numberOf_5 : decode rc_M_numberOf 5 = .ok (.getfield 105, 3) := by decide +kernel
theorem rd_M_numberOf_8 : decode rc_M_numberOf 8 = .ok (.goto 7, 3) := by decide +kernel
theorem rd_M_numberOf_11 : decode rc_M_numberOf 11 = .ok (.aload_n 0, 1) := by decide +kernel
theorem rd_M_numberOf_12 : decode rc_M_numberOf 12 = .ok (.getfield 108, 3) := by decide +kernel
theorem rd_M_numberOf_15 : decode rc_M_numberOf 15 = .ok (.areturn, 1) := by decide +kernel
theorem rd_M_partOf_0 : decode rc_M_partOf 0 = .ok (.iload_n 1, 1) := by decide +kernel
theorem rd_M_partOf_1 : decode rc_M_partOf 1 = .ok (.ifCond .ne 10, 3) := by decide +kernel
theorem rd_M_partOf_4 : decode rc_M_partOf 4 = .ok (.aload_n 0, 1) := by decide +kernel
theorem rd_M_partOf_5 : decode rc_M_partOf 5 = .ok (.getfield 105, 3) := by decide +kernel
theorem rd_M_partOf_8 : decode rc_M_partOf 8 = .ok (.goto 7, 3) := by decide +kernel
theorem rd_M_partOf_11 : decode rc_M_partOf 11 = .ok (.aload_n 0, 1) := by decide +kernel
theorem rd_M_partOf_12 : decode rc_M_partOf 12 = .ok (.getfield 108, 3) := by decide +kernel
theorem rd_M_partOf_15 : decode rc_M_partOf 15 = .ok (.astore_n 3, 1) := by decide +kernel
theorem rd_M_partOf_16 : decode rc_M_partOf 16 = .ok (.iload_n 2, 1) := by decide +kernel
theorem rd_M_partOf_17 : decode rc_M_partOf 17 = .ok (.ifCond .ne 10, 3) := by decide +kernel
theorem rd_M_partOf_20 : decode rc_M_partOf 20 = .ok (.aload_n 3, 1) := by decide +kernel
theorem rd_M_partOf_21 : decode rc_M_partOf 21 = .ok (.getfield 18, 3) := by decide +kernel
theorem rd_M_partOf_24 : decode rc_M_partOf 24 = .ok (.goto 7, 3) := by decide +kernel
theorem rd_M_partOf_27 : decode rc_M_partOf 27 = .ok (.aload_n 3, 1) := by decide +kernel
theorem rd_M_partOf_28 : decode rc_M_partOf 28 = .ok (.getfield 1, 3) := by decide +kernel
theorem rd_M_partOf_31 : decode rc_M_partOf 31 = .ok (.areturn, 1) := by decide +kernel
theorem rd_M_begin_0 : decode rc_M_begin 0 = .ok (.iload_n 1, 1) := by decide +kernel
theorem rd_M_begin_1 : decode rc_M_begin 1 = .ok (.invokestatic 117, 3) := by decide +kernel
theorem rd_M_begin_4 : decode rc_M_begin 4 = .ok (.ifCond .ne 5, 3) := by decide +kernel
theorem rd_M_begin_7 : decode rc_M_begin 7 = .ok (.iconst (-1), 1) := by decide +kernel
theorem rd_M_begin_8 : decode rc_M_begin 8 = .ok (.ireturn, 1) := by decide +kernel
theorem rd_M_begin_9 : decode rc_M_begin 9 = .ok (.aload_n 0, 1) := by decide +kernel
theorem rd_M_begin_10 : decode rc_M_begin 10 = .ok (.iload_n 1, 1) := by decide +kernel
theorem rd_M_begin_11 : decode rc_M_begin 11 = .ok (.invokevirtual 121, 3) := by decide +kernel
theorem rd_M_begin_14 : decode rc_M_begin 14 = .ok (.lconst 0, 1) := by decide +kernel
theorem rd_M_begin_15 : decode rc_M_begin 15 = .ok (.invokevirtual 114, 3) := by decide +kernel
theorem rd_M_begin_18 : decode rc_M_begin 18 = .ok (.iconst 0, 1) := by decide +kernel
theorem rd_M_begin_19 : decode rc_M_begin 19 = .ok (.ireturn, 1) := by decide +kernel
theorem rd_M_digit_0 : decode rc_M_digit 0 = .ok (.iload_n 1, 1) := by decide +kernel
theorem rd_M_digit_1 : decode rc_M_digit 1 = .ok (.invokestatic 117, 3) := by decide +kernel
theorem rd_M_digit_4 : decode rc_M_digit 4 = .ok (.ifCond .eq 33, 3) := by decide +kernel
theorem rd_M_digit_7 : decode rc_M_digit 7 = .ok (.iload_n 2, 1) := by decide +kernel
theorem rd_M_digit_8 : decode rc_M_digit 8 = .ok (.invokestatic 117, 3) := by decide +kernel
theorem rd_M_digit_11 : decode rc_M_digit 11 = .ok (.ifCond .eq 26, 3) := by decide +kernel
theorem rd_M_digit_14 : decode rc_M_digit 14 = .ok (.iload_n 3, 1) := by decide +kernel
theorem rd_M_digit_15 : decode rc_M_digit 15 = .ok (.iconst 1, 1) := by decide +kernel
theorem rd_M_digit_16 : decode rc_M_digit 16 = .ok (.if_icmp .lt 21, 3) := by decide +kernel
theorem rd_M_digit_19 : decode rc_M_digit 19 = .ok (.iload_n 3, 1) := by decide +kernel
theorem rd_M_digit_20 : decode rc_M_digit 20 = .ok (.ldc 125, 2) := by decide +kernel
theorem rd_M_digit_22 : decode rc_M_digit 22 = .ok (.if_icmp .gt 15, 3) := by decide +kernel
theorem rd_M_digit_25 : decode rc_M_digit 25 = .ok (.iload 4, 2) := by decide +kernel
theorem rd_M_digit_27 : decode rc_M_digit 27 = .ok (.ifCond .lt 10, 3) := by decide +kernel
theorem rd_M_digit_30 : decode rc_M_digit 30 = .ok (.iload 4, 2) := by decide +kernel
theorem rd_M_digit_32 : decode rc_M_digit 32 = .ok (.ldc 125, 2) := by decide +kernel
theorem rd_M_digit_34 : decode rc_M_digit 34 = .ok (.if_icmp .le 5, 3) := by decide +kernel
theorem rd_M_digit_37 : decode rc_M_digit 37 = .ok (.iconst (-1), 1) := by decide +kernel
theorem rd_M_digit_38 : decode rc_M_digit 38 = .ok (.ireturn, 1) := by decide +kernel
theorem rd_M_digit_39 : decode rc_M_digit 39 = .ok (.aload_n 0, 1) := by decide +kernel
theorem rd_M_digit_40 : decode rc_M_digit 40 = .ok (.iload_n 1, 1) := by decide +kernel
theorem rd_M_digit_41 : decode rc_M_digit 41 = .ok (.iload_n 2, 1) := by decide +kernel
theorem rd_M_digit_42 : decode rc_M_digit 42 = .ok (.invokevirtual 126, 3) := by decide +kernel
theorem rd_M_digit_45 : decode rc_M_digit 45 = .ok (.astore 5, 2) := by decide +kernel
theorem rd_M_digit_47 : decode rc_M_digit 47 = .ok (.aload_n 0, 1) := by decide +kernel
theorem rd_M_digit_48 : decode rc_M_digit 48 = .ok (.getfield 111, 3) := by decide +kernel
theorem rd_M_digit_51 : decode rc_M_digit 51 = .ok (.aload 5, 2) := by decide +kernel
theorem rd_M_digit_53 : decode rc_M_digit 53 = .ok (.invokevirtual 21, 3) := by decide +kernel
theorem rd_M_digit_56 : decode rc_M_digit 56 = .ok (.aload_n 0, 1) := by decide +kernel
theorem rd_M_digit_57 : decode rc_M_digit 57 = .ok (.getfield 111, 3) := by decide +kernel
theorem rd_M_digit_60 : decode rc_M_digit 60 = .ok (.iload_n 3, 1) := by decide +kernel
theorem rd_M_digit_61 : decode rc_M_digit 61 = .ok (.iload 4, 2) := by decide +kernel
theorem rd_M_digit_63 : decode rc_M_digit 63 = .ok (.invokevirtual 130, 3) := by decide +kernel
theorem rd_M_digit_66 : decode rc_M_digit 66 = .ok (.aload_n 0, 1) := by decide +kernel
theorem rd_M_digit_67 : decode rc_M_digit 67 = .ok (.getfield 111, 3) := by decide +kernel
theorem rd_M_digit_70 : decode rc_M_digit 70 = .ok (.invokevirtual 32, 3) := by decide +kernel
theorem rd_M_digit_73 : decode rc_M_digit 73 = .ok (.sipush 4800, 3) := by decide +kernel
theorem rd_M_digit_76 : decode rc_M_digit 76 = .ok (.if_icmp .le 6, 3) := by decide +kernel
theorem rd_M_digit_79 : decode rc_M_digit 79 = .ok (.bipush (-2), 2) := by decide +kernel
theorem rd_M_digit_81 : decode rc_M_digit 81 = .ok (.ireturn, 1) := by decide +kernel
theorem rd_M_digit_82 : decode rc_M_digit 82 = .ok (.aload 5, 2) := by decide +kernel
theorem rd_M_digit_84 : decode rc_M_digit 84 = .ok (.aload_n 0, 1) := by decide +kernel
theorem rd_M_digit_85 : decode rc_M_digit 85 = .ok (.getfield 111, 3) := by decide +kernel
theorem rd_M_digit_88 : decode rc_M_digit 88 = .ok (.invokevirtual 21, 3) := by decide +kernel
theorem rd_M_digit_91 : decode rc_M_digit 91 = .ok (.aload 5, 2) := by decide +kernel
theorem rd_M_digit_93 : decode rc_M_digit 93 = .ok (.invokevirtual 32, 3) := by decide +kernel
theorem rd_M_digit_96 : decode rc_M_digit 96 = .ok (.ireturn, 1) := by decide +kernel
theorem rd_M_set_0 : decode rc_M_set 0 = .ok (.iload_n 1, 1) := by decide +kernel
theorem rd_M_set_1 : decode rc_M_set 1 = .ok (.invokestatic 117, 3) := by decide +kernel
theorem rd_M_set_4 : decode rc_M_set 4 = .ok (.ifCond .eq 10, 3) := by decide +kernel
theorem rd_M_set_7 : decode rc_M_set 7 = .ok (.iload_n 2, 1) := by decide +kernel
theorem rd_M_set_8 : decode rc_M_set 8 = .ok (.invokestatic 117, 3) := by decide +kernel
theorem rd_M_set_11 : decode rc_M_set 11 = .ok (.ifCond .ne 5, 3) := by decide +kernel
theorem rd_M_set_14 : decode rc_M_set 14 = .ok (.iconst (-1), 1) := by decide +kernel
theorem rd_M_set_15 : decode rc_M_set 15 = .ok (.ireturn, 1) := by decide +kernel
theorem rd_M_set_16 : decode rc_M_set 16 = .ok (.iload_n 2, 1) := by decide +kernel
theorem rd_M_set_17 : decode rc_M_set 17 = .ok (.iconst 1, 1) := by decide +kernel
theorem rd_M_set_18 : decode rc_M_set 18 = .ok (.if_icmp .ne 12, 3) := by decide +kernel
theorem rd_M_set_21 : decode rc_M_set 21 = .ok (.lload_n 3, 1) := by decide +kernel
theorem rd_M_set_22 : decode rc_M_set 22 = .ok (.lconst 0, 1) := by decide +kernel
theorem rd_M_set_23 : decode rc_M_set 23 = .ok (.lcmp, 1) := by decide +kernel
theorem rd_M_set_24 : decode rc_M_set 24 = .ok (.ifCond .ne 6, 3) := by decide +kernel
theorem rd_M_set_27 : decode rc_M_set 27 = .ok (.bipush (-3), 2) := by decide +kernel
theorem rd_M_set_29 : decode rc_M_set 29 = .ok (.ireturn, 1) := by decide +kernel
theorem rd_M_set_30 : decode rc_M_set 30 = .ok (.aload_n 0, 1) := by decide +kernel
theorem rd_M_set_31 : decode rc_M_set 31 = .ok (.iload_n 1, 1) := by decide +kernel
theorem rd_M_set_32 : decode rc_M_set 32 = .ok (.iload_n 2, 1) := by decide +kernel
theorem rd_M_set_33 : decode rc_M_set 33 = .ok (.invokevirtual 126, 3) := by decide +kernel
theorem rd_M_set_36 : decode rc_M_set 36 = .ok (.astore 5, 2) := by decide +kernel
theorem rd_M_set_38 : decode rc_M_set 38 = .ok (.aload 5, 2) := by decide +kernel
theorem rd_M_set_40 : decode rc_M_set 40 = .ok (.lload_n 3, 1) := by decide +kernel
theorem rd_M_set_41 : decode rc_M_set 41 = .ok (.invokevirtual 134, 3) := by decide +kernel
theorem rd_M_set_44 : decode rc_M_set 44 = .ok (.aload 5, 2) := by decide +kernel
theorem rd_M_set_46 : decode rc_M_set 46 = .ok (.invokevirtual 32, 3) := by decide +kernel
theorem rd_M_set_49 : decode rc_M_set 49 = .ok (.ireturn, 1) := by decide +kernel
theorem rd_M_scale_0 : decode rc_M_scale 0 = .ok (.iload_n 1, 1) := by decide +kernel
theorem rd_M_scale_1 : decode rc_M_scale 1 = .ok (.invokestatic 117, 3) := by decide +kernel
theorem rd_M_scale_4 : decode rc_M_scale 4 = .ok (.ifCond .eq 17, 3) := by decide +kernel
theorem rd_M_scale_7 : decode rc_M_scale 7 = .ok (.iload_n 3, 1) := by decide +kernel
theorem rd_M_scale_8 : decode rc_M_scale 8 = .ok (.sipush (-12000), 3) := by decide +kernel
theorem rd_M_scale_11 : decode rc_M_scale 11 = .ok (.if_icmp .lt 10, 3) := by decide +kernel
theorem rd_M_scale_14 : decode rc_M_scale 14 = .ok (.iload_n 3, 1) := by decide +kernel
theorem rd_M_scale_15 : decode rc_M_scale 15 = .ok (.sipush 12000, 3) := by decide +kernel
theorem rd_M_scale_18 : decode rc_M_scale 18 = .ok (.if_icmp .le 5, 3) := by decide +kernel
theorem rd_M_scale_21 : decode rc_M_scale 21 = .ok (.iconst (-1), 1) := by decide +kernel
theorem rd_M_scale_22 : decode rc_M_scale 22 = .ok (.ireturn, 1) := by decide +kernel
theorem rd_M_scale_23 : decode rc_M_scale 23 = .ok (.aload_n 0, 1) := by decide +kernel
theorem rd_M_scale_24 : decode rc_M_scale 24 = .ok (.iload_n 1, 1) := by decide +kernel
theorem rd_M_scale_25 : decode rc_M_scale 25 = .ok (.invokevirtual 121, 3) := by decide +kernel
theorem rd_M_scale_28 : decode rc_M_scale 28 = .ok (.astore 4, 2) := by decide +kernel
theorem rd_M_scale_30 : decode rc_M_scale 30 = .ok (.aload 4, 2) := by decide +kernel
theorem rd_M_scale_32 : decode rc_M_scale 32 = .ok (.iload_n 2, 1) := by decide +kernel
theorem rd_M_scale_33 : decode rc_M_scale 33 = .ok (.putfield 86, 3) := by decide +kernel
theorem rd_M_scale_36 : decode rc_M_scale 36 = .ok (.aload 4, 2) := by decide +kernel
theorem rd_M_scale_38 : decode rc_M_scale 38 = .ok (.iload_n 3, 1) := by decide +kernel
theorem rd_M_scale_39 : decode rc_M_scale 39 = .ok (.putfield 36, 3) := by decide +kernel
theorem rd_M_scale_42 : decode rc_M_scale 42 = .ok (.iconst 0, 1) := by decide +kernel
theorem rd_M_scale_43 : decode rc_M_scale 43 = .ok (.ireturn, 1) := by decide +kernel
theorem rd_M_turn_0 : decode rc_M_turn 0 = .ok (.iload_n 1, 1) := by decide +kernel
theorem rd_M_turn_1 : decode rc_M_turn 1 = .ok (.invokestatic 117, 3) := by decide +kernel
theorem rd_M_turn_4 : decode rc_M_turn 4 = .ok (.ifCond .ne 5, 3) := by decide +kernel
theorem rd_M_turn_7 : decode rc_M_turn 7 = .ok (.iconst (-1), 1) := by decide +kernel
theorem rd_M_turn_8 : decode rc_M_turn 8 = .ok (.ireturn, 1) := by decide +kernel
theorem rd_M_turn_9 : decode rc_M_turn 9 = .ok (.aload_n 0, 1) := by decide +kernel
theorem rd_M_turn_10 : decode rc_M_turn 10 = .ok (.iload_n 1, 1) := by decide +kernel
end
section
theorem rd_M_turn_11 : decode rc_M_turn 11 = .ok (.invokevirtual 121, 3) := by decide +kernel
theorem rd_M_turn_14 : decode rc_M_turn 14 = .ok (.astore_n 2, 1) := by decide +kernel
theorem rd_M_turn_15 : decode rc_M_turn 15 = .ok (.aload_n 2, 1) := by decide +kernel
theorem rd_M_turn_16 : decode rc_M_turn 16 = .ok (.getfield 18, 3) := by decide +kernel
theorem rd_M_turn_19 : decode rc_M_turn 19 = .ok (.getfield 135, 3) := by decide +kernel
theorem rd_M_turn_22 : decode rc_M_turn 22 = .ok (.ifCond .ne 6, 3) := by decide +kernel
theorem rd_M_turn_25 : decode rc_M_turn 25 = .ok (.bipush (-3), 2) := by decide +kernel
theorem rd_M_turn_27 : decode rc_M_turn 27 = .ok (.ireturn, 1) := by decide +kernel
theorem rd_M_turn_28 : decode rc_M_turn 28 = .ok (.aload_n 0, 1) := by decide +kernel
theorem rd_M_turn_29 : decode rc_M_turn 29 = .ok (.getfield 111, 3) := by decide +kernel
theorem rd_M_turn_32 : decode rc_M_turn 32 = .ok (.aload_n 2, 1) := by decide +kernel
theorem rd_M_turn_33 : decode rc_M_turn 33 = .ok (.getfield 18, 3) := by decide +kernel
theorem rd_M_turn_36 : decode rc_M_turn 36 = .ok (.invokevirtual 21, 3) := by decide +kernel
theorem rd_M_turn_39 : decode rc_M_turn 39 = .ok (.aload_n 2, 1) := by decide +kernel
theorem rd_M_turn_40 : decode rc_M_turn 40 = .ok (.getfield 18, 3) := by decide +kernel
theorem rd_M_turn_43 : decode rc_M_turn 43 = .ok (.aload_n 2, 1) := by decide +kernel
theorem rd_M_turn_44 : decode rc_M_turn 44 = .ok (.getfield 1, 3) := by decide +kernel
theorem rd_M_turn_47 : decode rc_M_turn 47 = .ok (.invokevirtual 21, 3) := by decide +kernel
theorem rd_M_turn_50 : decode rc_M_turn 50 = .ok (.aload_n 2, 1) := by decide +kernel
theorem rd_M_turn_51 : decode rc_M_turn 51 = .ok (.getfield 1, 3) := by decide +kernel
theorem rd_M_turn_54 : decode rc_M_turn 54 = .ok (.aload_n 0, 1) := by decide +kernel
theorem rd_M_turn_55 : decode rc_M_turn 55 = .ok (.getfield 111, 3) := by decide +kernel
theorem rd_M_turn_58 : decode rc_M_turn 58 = .ok (.invokevirtual 21, 3) := by decide +kernel
theorem rd_M_turn_61 : decode rc_M_turn 61 = .ok (.aload_n 2, 1) := by decide +kernel
theorem rd_M_turn_62 : decode rc_M_turn 62 = .ok (.aload_n 2, 1) := by decide +kernel
theorem rd_M_turn_63 : decode rc_M_turn 63 = .ok (.getfield 36, 3) := by decide +kernel
theorem rd_M_turn_66 : decode rc_M_turn 66 = .ok (.ineg, 1) := by decide +kernel
theorem rd_M_turn_67 : decode rc_M_turn 67 = .ok (.putfield 36, 3) := by decide +kernel
theorem rd_M_turn_70 : decode rc_M_turn 70 = .ok (.iconst 0, 1) := by decide +kernel
theorem rd_M_turn_71 : decode rc_M_turn 71 = .ok (.ireturn, 1) := by decide +kernel
theorem rd_M_move_0 : decode rc_M_move 0 = .ok (.iload_n 1, 1) := by decide +kernel
theorem rd_M_move_1 : decode rc_M_move 1 = .ok (.invokestatic 117, 3) := by decide +kernel
theorem rd_M_move_4 : decode rc_M_move 4 = .ok (.ifCond .ne 5, 3) := by decide +kernel
theorem rd_M_move_7 : decode rc_M_move 7 = .ok (.iconst (-1), 1) := by decide +kernel
theorem rd_M_move_8 : decode rc_M_move 8 = .ok (.ireturn, 1) := by decide +kernel
theorem rd_M_move_9 : decode rc_M_move 9 = .ok (.aload_n 0, 1) := by decide +kernel
theorem rd_M_move_10 : decode rc_M_move 10 = .ok (.iload_n 1, 1) := by decide +kernel
theorem rd_M_move_11 : decode rc_M_move 11 = .ok (.invokevirtual 121, 3) := by decide +kernel
theorem rd_M_move_14 : decode rc_M_move 14 = .ok (.astore_n 3, 1) := by decide +kernel
theorem rd_M_move_15 : decode rc_M_move 15 = .ok (.aload_n 0, 1) := by decide +kernel
theorem rd_M_move_16 : decode rc_M_move 16 = .ok (.iconst 1, 1) := by decide +kernel
theorem rd_M_move_17 : decode rc_M_move 17 = .ok (.iload_n 1, 1) := by decide +kernel
theorem rd_M_move_18 : decode rc_M_move 18 = .ok (.isub, 1) := by decide +kernel
theorem rd_M_move_19 : decode rc_M_move 19 = .ok (.iconst 0, 1) := by decide +kernel
theorem rd_M_move_20 : decode rc_M_move 20 = .ok (.invokevirtual 126, 3) := by decide +kernel
theorem rd_M_move_23 : decode rc_M_move 23 = .ok (.astore 4, 2) := by decide +kernel
theorem rd_M_move_25 : decode rc_M_move 25 = .ok (.aload_n 0, 1) := by decide +kernel
theorem rd_M_move_26 : decode rc_M_move 26 = .ok (.getfield 111, 3) := by decide +kernel
theorem rd_M_move_29 : decode rc_M_move 29 = .ok (.aload_n 3, 1) := by decide +kernel
theorem rd_M_move_30 : decode rc_M_move 30 = .ok (.getfield 18, 3) := by decide +kernel
theorem rd_M_move_33 : decode rc_M_move 33 = .ok (.invokevirtual 21, 3) := by decide +kernel
theorem rd_M_move_36 : decode rc_M_move 36 = .ok (.aload_n 3, 1) := by decide +kernel
theorem rd_M_move_37 : decode rc_M_move 37 = .ok (.getfield 86, 3) := by decide +kernel
theorem rd_M_move_40 : decode rc_M_move 40 = .ok (.istore 5, 2) := by decide +kernel
theorem rd_M_move_42 : decode rc_M_move 42 = .ok (.iload 5, 2) := by decide +kernel
theorem rd_M_move_44 : decode rc_M_move 44 = .ok (.iload_n 2, 1) := by decide +kernel
theorem rd_M_move_45 : decode rc_M_move 45 = .ok (.if_icmp .ne 15, 3) := by decide +kernel
theorem rd_M_move_48 : decode rc_M_move 48 = .ok (.aload_n 0, 1) := by decide +kernel
theorem rd_M_move_49 : decode rc_M_move 49 = .ok (.getfield 111, 3) := by decide +kernel
theorem rd_M_move_52 : decode rc_M_move 52 = .ok (.aload 4, 2) := by decide +kernel
theorem rd_M_move_54 : decode rc_M_move 54 = .ok (.invokevirtual 138, 3) := by decide +kernel
theorem rd_M_move_57 : decode rc_M_move 57 = .ok (.goto 59, 3) := by decide +kernel
theorem rd_M_move_60 : decode rc_M_move 60 = .ok (.aload_n 0, 1) := by decide +kernel
theorem rd_M_move_61 : decode rc_M_move 61 = .ok (.getfield 111, 3) := by decide +kernel
theorem rd_M_move_64 : decode rc_M_move 64 = .ok (.aload 4, 2) := by decide +kernel
theorem rd_M_move_66 : decode rc_M_move 66 = .ok (.invokevirtual 44, 3) := by decide +kernel
theorem rd_M_move_69 : decode rc_M_move 69 = .ok (.ifCond .lt 15, 3) := by decide +kernel
theorem rd_M_move_72 : decode rc_M_move 72 = .ok (.aload_n 0, 1) := by decide +kernel
theorem rd_M_move_73 : decode rc_M_move 73 = .ok (.getfield 111, 3) := by decide +kernel
theorem rd_M_move_76 : decode rc_M_move 76 = .ok (.aload 4, 2) := by decide +kernel
theorem rd_M_move_78 : decode rc_M_move 78 = .ok (.invokevirtual 141, 3) := by decide +kernel
theorem rd_M_move_81 : decode rc_M_move 81 = .ok (.goto 35, 3) := by decide +kernel
theorem rd_M_move_84 : decode rc_M_move 84 = .ok (.aload_n 0, 1) := by decide +kernel
theorem rd_M_move_85 : decode rc_M_move 85 = .ok (.getfield 111, 3) := by decide +kernel
theorem rd_M_move_88 : decode rc_M_move 88 = .ok (.aload 4, 2) := by decide +kernel
theorem rd_M_move_90 : decode rc_M_move 90 = .ok (.invokevirtual 21, 3) := by decide +kernel
theorem rd_M_move_93 : decode rc_M_move 93 = .ok (.aload_n 0, 1) := by decide +kernel
theorem rd_M_move_94 : decode rc_M_move 94 = .ok (.getfield 111, 3) := by decide +kernel
theorem rd_M_move_97 : decode rc_M_move 97 = .ok (.aload_n 3, 1) := by decide +kernel
theorem rd_M_move_98 : decode rc_M_move 98 = .ok (.getfield 18, 3) := by decide +kernel
theorem rd_M_move_101 : decode rc_M_move 101 = .ok (.invokevirtual 141, 3) := by decide +kernel
theorem rd_M_move_104 : decode rc_M_move 104 = .ok (.iload 5, 2) := by decide +kernel
theorem rd_M_move_106 : decode rc_M_move 106 = .ok (.ifCond .ne 7, 3) := by decide +kernel
theorem rd_M_move_109 : decode rc_M_move 109 = .ok (.iconst 1, 1) := by decide +kernel
theorem rd_M_move_110 : decode rc_M_move 110 = .ok (.goto 4, 3) := by decide +kernel
theorem rd_M_move_113 : decode rc_M_move 113 = .ok (.iconst 0, 1) := by decide +kernel
theorem rd_M_move_114 : decode rc_M_move 114 = .ok (.istore 5, 2) := by decide +kernel
theorem rd_M_move_116 : decode rc_M_move 116 = .ok (.aload_n 0, 1) := by decide +kernel
theorem rd_M_move_117 : decode rc_M_move 117 = .ok (.getfield 111, 3) := by decide +kernel
theorem rd_M_move_120 : decode rc_M_move 120 = .ok (.invokevirtual 32, 3) := by decide +kernel
theorem rd_M_move_123 : decode rc_M_move 123 = .ok (.sipush 4800, 3) := by decide +kernel
theorem rd_M_move_126 : decode rc_M_move 126 = .ok (.if_icmp .le 6, 3) := by decide +kernel
theorem rd_M_move_129 : decode rc_M_move 129 = .ok (.bipush (-2), 2) := by decide +kernel
theorem rd_M_move_131 : decode rc_M_move 131 = .ok (.ireturn, 1) := by decide +kernel
theorem rd_M_move_132 : decode rc_M_move 132 = .ok (.aload_n 3, 1) := by decide +kernel
theorem rd_M_move_133 : decode rc_M_move 133 = .ok (.getfield 18, 3) := by decide +kernel
theorem rd_M_move_136 : decode rc_M_move 136 = .ok (.aload_n 0, 1) := by decide +kernel
theorem rd_M_move_137 : decode rc_M_move 137 = .ok (.getfield 111, 3) := by decide +kernel
theorem rd_M_move_140 : decode rc_M_move 140 = .ok (.invokevirtual 21, 3) := by decide +kernel
theorem rd_M_move_143 : decode rc_M_move 143 = .ok (.aload_n 3, 1) := by decide +kernel
theorem rd_M_move_144 : decode rc_M_move 144 = .ok (.iload 5, 2) := by decide +kernel
theorem rd_M_move_146 : decode rc_M_move 146 = .ok (.putfield 86, 3) := by decide +kernel
theorem rd_M_move_149 : decode rc_M_move 149 = .ok (.aload_n 3, 1) := by decide +kernel
theorem rd_M_move_150 : decode rc_M_move 150 = .ok (.getfield 18, 3) := by decide +kernel
theorem rd_M_move_153 : decode rc_M_move 153 = .ok (.invokevirtual 32, 3) := by decide +kernel
theorem rd_M_move_156 : decode rc_M_move 156 = .ok (.ireturn, 1) := by decide +kernel
theorem rd_M_bits_0 : decode rc_M_bits 0 = .ok (.iload_n 1, 1) := by decide +kernel
theorem rd_M_bits_1 : decode rc_M_bits 1 = .ok (.invokestatic 117, 3) := by decide +kernel
theorem rd_M_bits_4 : decode rc_M_bits 4 = .ok (.ifCond .eq 22, 3) := by decide +kernel
theorem rd_M_bits_7 : decode rc_M_bits 7 = .ok (.iload_n 2, 1) := by decide +kernel
theorem rd_M_bits_8 : decode rc_M_bits 8 = .ok (.invokestatic 117, 3) := by decide +kernel
theorem rd_M_bits_11 : decode rc_M_bits 11 = .ok (.ifCond .eq 15, 3) := by decide +kernel
theorem rd_M_bits_14 : decode rc_M_bits 14 = .ok (.aload_n 0, 1) := by decide +kernel
theorem rd_M_bits_15 : decode rc_M_bits 15 = .ok (.iload_n 1, 1) := by decide +kernel
theorem rd_M_bits_16 : decode rc_M_bits 16 = .ok (.iload_n 2, 1) := by decide +kernel
theorem rd_M_bits_17 : decode rc_M_bits 17 = .ok (.invokevirtual 126, 3) := by decide +kernel
theorem rd_M_bits_20 : decode rc_M_bits 20 = .ok (.invokevirtual 32, 3) := by decide +kernel
theorem rd_M_bits_23 : decode rc_M_bits 23 = .ok (.goto 4, 3) := by decide +kernel
theorem rd_M_bits_26 : decode rc_M_bits 26 = .ok (.iconst (-1), 1) := by decide +kernel
theorem rd_M_bits_27 : decode rc_M_bits 27 = .ok (.ireturn, 1) := by decide +kernel
theorem rd_M_word_0 : decode rc_M_word 0 = .ok (.iload_n 1, 1) := by decide +kernel
theorem rd_M_word_1 : decode rc_M_word 1 = .ok (.invokestatic 117, 3) := by decide +kernel
theorem rd_M_word_4 : decode rc_M_word 4 = .ok (.ifCond .eq 21, 3) := by decide +kernel
theorem rd_M_word_7 : decode rc_M_word 7 = .ok (.iload_n 2, 1) := by decide +kernel
theorem rd_M_word_8 : decode rc_M_word 8 = .ok (.invokestatic 117, 3) := by decide +kernel
theorem rd_M_word_11 : decode rc_M_word 11 = .ok (.ifCond .eq 14, 3) := by decide +kernel
theorem rd_M_word_14 : decode rc_M_word 14 = .ok (.iload_n 3, 1) := by decide +kernel
theorem rd_M_word_15 : decode rc_M_word 15 = .ok (.ifCond .lt 10, 3) := by decide +kernel
theorem rd_M_word_18 : decode rc_M_word 18 = .ok (.iload_n 3, 1) := by decide +kernel
theorem rd_M_word_19 : decode rc_M_word 19 = .ok (.sipush 300, 3) := by decide +kernel
theorem rd_M_word_22 : decode rc_M_word 22 = .ok (.if_icmp .lt 5, 3) := by decide +kernel
theorem rd_M_word_25 : decode rc_M_word 25 = .ok (.iconst 0, 1) := by decide +kernel
theorem rd_M_word_26 : decode rc_M_word 26 = .ok (.ireturn, 1) := by decide +kernel
theorem rd_M_word_27 : decode rc_M_word 27 = .ok (.aload_n 0, 1) := by decide +kernel
theorem rd_M_word_28 : decode rc_M_word 28 = .ok (.iload_n 1, 1) := by decide +kernel
theorem rd_M_word_29 : decode rc_M_word 29 = .ok (.iload_n 2, 1) := by decide +kernel
theorem rd_M_word_30 : decode rc_M_word 30 = .ok (.invokevirtual 126, 3) := by decide +kernel
theorem rd_M_word_33 : decode rc_M_word 33 = .ok (.astore 4, 2) := by decide +kernel
theorem rd_M_word_35 : decode rc_M_word 35 = .ok (.iconst 2, 1) := by decide +kernel
theorem rd_M_word_36 : decode rc_M_word 36 = .ok (.iload_n 3, 1) := by decide +kernel
theorem rd_M_word_37 : decode rc_M_word 37 = .ok (.imul, 1) := by decide +kernel
theorem rd_M_word_38 : decode rc_M_word 38 = .ok (.aload 4, 2) := by decide +kernel
theorem rd_M_word_40 : decode rc_M_word 40 = .ok (.getfield 135, 3) := by decide +kernel
theorem rd_M_word_43 : decode rc_M_word 43 = .ok (.if_icmp .ge 15, 3) := by decide +kernel
theorem rd_M_word_46 : decode rc_M_word 46 = .ok (.aload 4, 2) := by decide +kernel
theorem rd_M_word_48 : decode rc_M_word 48 = .ok (.getfield 144, 3) := by decide +kernel
theorem rd_M_word_51 : decode rc_M_word 51 = .ok (.iconst 2, 1) := by decide +kernel
theorem rd_M_word_52 : decode rc_M_word 52 = .ok (.iload_n 3, 1) := by decide +kernel
theorem rd_M_word_53 : decode rc_M_word 53 = .ok (.imul, 1) := by decide +kernel
theorem rd_M_word_54 : decode rc_M_word 54 = .ok (.iaload, 1) := by decide +kernel
theorem rd_M_word_55 : decode rc_M_word 55 = .ok (.goto 4, 3) := by decide +kernel
theorem rd_M_word_58 : decode rc_M_word 58 = .ok (.iconst 0, 1) := by decide +kernel
theorem rd_M_word_59 : decode rc_M_word 59 = .ok (.istore 5, 2) := by decide +kernel
theorem rd_M_word_61 : decode rc_M_word 61 = .ok (.iconst 2, 1) := by decide +kernel
theorem rd_M_word_62 : decode rc_M_word 62 = .ok (.iload_n 3, 1) := by decide +kernel
theorem rd_M_word_63 : decode rc_M_word 63 = .ok (.imul, 1) := by decide +kernel
theorem rd_M_word_64 : decode rc_M_word 64 = .ok (.iconst 1, 1) := by decide +kernel
theorem rd_M_word_65 : decode rc_M_word 65 = .ok (.iadd, 1) := by decide +kernel
theorem rd_M_word_66 : decode rc_M_word 66 = .ok (.aload 4, 2) := by decide +kernel
theorem rd_M_word_68 : decode rc_M_word 68 = .ok (.getfield 135, 3) := by decide +kernel
theorem rd_M_word_71 : decode rc_M_word 71 = .ok (.if_icmp .ge 17, 3) := by decide +kernel
theorem rd_M_word_74 : decode rc_M_word 74 = .ok (.aload 4, 2) := by decide +kernel
theorem rd_M_word_76 : decode rc_M_word 76 = .ok (.getfield 144, 3) := by decide +kernel
theorem rd_M_word_79 : decode rc_M_word 79 = .ok (.iconst 2, 1) := by decide +kernel
theorem rd_M_word_80 : decode rc_M_word 80 = .ok (.iload_n 3, 1) := by decide +kernel
theorem rd_M_word_81 : decode rc_M_word 81 = .ok (.imul, 1) := by decide +kernel
theorem rd_M_word_82 : decode rc_M_word 82 = .ok (.iconst 1, 1) := by decide +kernel
theorem rd_M_word_83 : decode rc_M_word 83 = .ok (.iadd, 1) := by decide +kernel
theorem rd_M_word_84 : decode rc_M_word 84 = .ok (.iaload, 1) := by decide +kernel
theorem rd_M_word_85 : decode rc_M_word 85 = .ok (.goto 4, 3) := by decide +kernel
theorem rd_M_word_88 : decode rc_M_word 88 = .ok (.iconst 0, 1) := by decide +kernel
theorem rd_M_word_89 : decode rc_M_word 89 = .ok (.istore 6, 2) := by decide +kernel
theorem rd_M_word_91 : decode rc_M_word 91 = .ok (.iload 6, 2) := by decide +kernel
theorem rd_M_word_93 : decode rc_M_word 93 = .ok (.bipush 16, 2) := by decide +kernel
theorem rd_M_word_95 : decode rc_M_word 95 = .ok (.ishl, 1) := by decide +kernel
theorem rd_M_word_96 : decode rc_M_word 96 = .ok (.iload 5, 2) := by decide +kernel
theorem rd_M_word_98 : decode rc_M_word 98 = .ok (.ior, 1) := by decide +kernel
theorem rd_M_word_99 : decode rc_M_word 99 = .ok (.ireturn, 1) := by decide +kernel
theorem rd_M_compare_0 : decode rc_M_compare 0 = .ok (.aload_n 0, 1) := by decide +kernel
theorem rd_M_compare_1 : decode rc_M_compare 1 = .ok (.aload_n 0, 1) := by decide +kernel
theorem rd_M_compare_2 : decode rc_M_compare 2 = .ok (.getfield 105, 3) := by decide +kernel
theorem rd_M_compare_5 : decode rc_M_compare 5 = .ok (.aload_n 0, 1) := by decide +kernel
theorem rd_M_compare_6 : decode rc_M_compare 6 = .ok (.getfield 108, 3) := by decide +kernel
theorem rd_M_compare_9 : decode rc_M_compare 9 = .ok (.invokevirtual 73, 3) := by decide +kernel
theorem rd_M_compare_12 : decode rc_M_compare 12 = .ok (.ireturn, 1) := by decide +kernel
theorem rd_M_round_0 : decode rc_M_round 0 = .ok (.iload_n 1, 1) := by decide +kernel
theorem rd_M_round_1 : decode rc_M_round 1 = .ok (.invokestatic 117, 3) := by decide +kernel
theorem rd_M_round_4 : decode rc_M_round 4 = .ok (.ifCond .ne 7, 3) := by decide +kernel
theorem rd_M_round_7 : decode rc_M_round 7 = .ok (.ldc2_w 148, 3) := by decide +kernel
theorem rd_M_round_10 : decode rc_M_round 10 = .ok (.lreturn, 1) := by decide +kernel
theorem rd_M_round_11 : decode rc_M_round 11 = .ok (.iload_n 2, 1) := by decide +kernel
theorem rd_M_round_12 : decode rc_M_round 12 = .ok (.ifCond .eq 15, 3) := by decide +kernel
theorem rd_M_round_15 : decode rc_M_round 15 = .ok (.aload_n 0, 1) := by decide +kernel
theorem rd_M_round_16 : decode rc_M_round 16 = .ok (.aload_n 0, 1) := by decide +kernel
theorem rd_M_round_17 : decode rc_M_round 17 = .ok (.iload_n 1, 1) := by decide +kernel
theorem rd_M_round_18 : decode rc_M_round 18 = .ok (.invokevirtual 121, 3) := by decide +kernel
theorem rd_M_round_21 : decode rc_M_round 21 = .ok (.invokevirtual 150, 3) := by decide +kernel
theorem rd_M_round_24 : decode rc_M_round 24 = .ok (.goto 12, 3) := by decide +kernel
theorem rd_M_round_27 : decode rc_M_round 27 = .ok (.aload_n 0, 1) := by decide +kernel
theorem rd_M_round_28 : decode rc_M_round 28 = .ok (.aload_n 0, 1) := by decide +kernel
theorem rd_M_round_29 : decode rc_M_round 29 = .ok (.iload_n 1, 1) := by decide +kernel
theorem rd_M_round_30 : decode rc_M_round 30 = .ok (.invokevirtual 121, 3) := by decide +kernel
theorem rd_M_round_33 : decode rc_M_round 33 = .ok (.invokevirtual 90, 3) := by decide +kernel
theorem rd_M_round_36 : decode rc_M_round 36 = .ok (.lreturn, 1) := by decide +kernel
theorem rd_B_init_0 : decode rc_B_init 0 = .ok (.aload_n 0, 1) := by decide +kernel
theorem rd_B_init_1 : decode rc_B_init 1 = .ok (.invokespecial 1, 3) := by decide +kernel
theorem rd_B_init_4 : decode rc_B_init 4 = .ok (.aload_n 0, 1) := by decide +kernel
theorem rd_B_init_5 : decode rc_B_init 5 = .ok (.sipush 640, 3) := by decide +kernel
theorem rd_B_init_8 : decode rc_B_init 8 = .ok (.newarray .int, 2) := by decide +kernel
theorem rd_B_init_10 : decode rc_B_init 10 = .ok (.putfield 7, 3) := by decide +kernel
theorem rd_B_init_13 : decode rc_B_init 13 = .ok (.return_, 1) := by decide +kernel
theorem rd_B_set_0 : decode rc_B_set 0 = .ok (.aload_n 0, 1) := by decide +kernel
theorem rd_B_set_1 : decode rc_B_set 1 = .ok (.iconst 0, 1) := by decide +kernel
theorem rd_B_set_2 : decode rc_B_set 2 = .ok (.putfield 13, 3) := by decide +kernel
theorem rd_B_set_5 : decode rc_B_set 5 = .ok (.lload_n 1, 1) := by decide +kernel
theorem rd_B_set_6 : decode rc_B_set 6 = .ok (.lstore_n 3, 1) := by decide +kernel
theorem rd_B_set_7 : decode rc_B_set 7 = .ok (.lload_n 3, 1) := by decide +kernel
theorem rd_B_set_8 : decode rc_B_set 8 = .ok (.lconst 0, 1) := by decide +kernel
theorem rd_B_set_9 : decode rc_B_set 9 = .ok (.lcmp, 1) := by decide +kernel
theorem rd_B_set_10 : decode rc_B_set 10 = .ok (.ifCond .eq 36, 3) := by decide +kernel
theorem rd_B_set_13 : decode rc_B_set 13 = .ok (.aload_n 0, 1) := by decide +kernel
theorem rd_B_set_14 : decode rc_B_set 14 = .ok (.getfield 7, 3) := by decide +kernel
theorem rd_B_set_17 : decode rc_B_set 17 = .ok (.aload_n 0, 1) := by decide +kernel
theorem rd_B_set_18 : decode rc_B_set 18 = .ok (.getfield 13, 3) := by decide +kernel
theorem rd_B_set_21 : decode rc_B_set 21 = .ok (.lload_n 3, 1) := by decide +kernel
theorem rd_B_set_22 : decode rc_B_set 22 = .ok (.ldc2_w 17, 3) := by decide +kernel
theorem rd_B_set_25 : decode rc_B_set 25 = .ok (.land, 1) := by decide +kernel
theorem rd_B_set_26 : decode rc_B_set 26 = .ok (.l2i, 1) := by decide +kernel
theorem rd_B_set_27 : decode rc_B_set 27 = .ok (.iastore, 1) := by decide +kernel
theorem rd_B_set_28 : decode rc_B_set 28 = .ok (.aload_n 0, 1) := by decide +kernel
theorem rd_B_set_29 : decode rc_B_set 29 = .ok (.dup, 1) := by decide +kernel
theorem rd_B_set_30 : decode rc_B_set 30 = .ok (.getfield 13, 3) := by decide +kernel
theorem rd_B_set_33 : decode rc_B_set 33 = .ok (.iconst 1, 1) := by decide +kernel
theorem rd_B_set_34 : decode rc_B_set 34 = .ok (.iadd, 1) := by decide +kernel
theorem rd_B_set_35 : decode rc_B_set 35 = .ok (.putfield 13, 3) := by decide +kernel
theorem rd_B_set_38 : decode rc_B_set 38 = .ok (.lload_n 3, 1) := by decide +kernel
theorem rd_B_set_39 : decode rc_B_set 39 = .ok (.bipush 16, 2) := by decide +kernel
theorem rd_B_set_41 : decode rc_B_set 41 = .ok (.lushr, 1) := by decide +kernel
theorem rd_B_set_42 : decode rc_B_set 42 = .ok (.lstore_n 3, 1) := by decide +kernel
theorem rd_B_set_43 : decode rc_B_set 43 = .ok (.goto (-36), 3) := by decide +kernel
theorem rd_B_set_46 : decode rc_B_set 46 = .ok (.return_, 1) := by decide +kernel
theorem rd_B_copy_0 : decode rc_B_copy 0 = .ok (.aload_n 0, 1) := by decide +kernel
theorem rd_B_copy_1 : decode rc_B_copy 1 = .ok (.aload_n 1, 1) := by decide +kernel
theorem rd_B_copy_2 : decode rc_B_copy 2 = .ok (.getfield 13, 3) := by decide +kernel
theorem rd_B_copy_5 : decode rc_B_copy 5 = .ok (.putfield 13, 3) := by decide +kernel
theorem rd_B_copy_8 : decode rc_B_copy 8 = .ok (.iconst 0, 1) := by decide +kernel
theorem rd_B_copy_9 : decode rc_B_copy 9 = .ok (.istore_n 2, 1) := by decide +kernel
theorem rd_B_copy_10 : decode rc_B_copy 10 = .ok (.iload_n 2, 1) := by decide +kernel
theorem rd_B_copy_11 : decode rc_B_copy 11 = .ok (.aload_n 0, 1) := by decide +kernel
theorem rd_B_copy_12 : decode rc_B_copy 12 = .ok (.getfield 13, 3) := by decide +kernel
theorem rd_B_copy_15 : decode rc_B_copy 15 = .ok (.if_icmp .ge 21, 3) := by decide +kernel
theorem rd_B_copy_18 : decode rc_B_copy 18 = .ok (.aload_n 0, 1) := by decide +kernel
theorem rd_B_copy_19 : decode rc_B_copy 19 = .ok (.getfield 7, 3) := by decide +kernel
theorem rd_B_copy_22 : decode rc_B_copy 22 = .ok (.iload_n 2, 1) := by decide +kernel
theorem rd_B_copy_23 : decode rc_B_copy 23 = .ok (.aload_n 1, 1) := by decide +kernel
theorem rd_B_copy_24 : decode rc_B_copy 24 = .ok (.getfield 7, 3) := by decide +kernel
theorem rd_B_copy_27 : decode rc_B_copy 27 = .ok (.iload_n 2, 1) := by decide +kernel
theorem rd_B_copy_28 : decode rc_B_copy 28 = .ok (.iaload, 1) := by decide +kernel
theorem rd_B_copy_29 : decode rc_B_copy 29 = .ok (.iastore, 1) := by decide +kernel
theorem rd_B_copy_30 : decode rc_B_copy 30 = .ok (.iinc 2 1, 3) := by decide +kernel
theorem rd_B_copy_33 : decode rc_B_copy 33 = .ok (.goto (-23), 3) := by decide +kernel
theorem rd_B_copy_36 : decode rc_B_copy 36 = .ok (.return_, 1) := by decide +kernel
theorem rd_B_bits_0 : decode rc_B_bits 0 = .ok (.iconst 0, 1) := by decide +kernel
theorem rd_B_bits_1 : decode rc_B_bits 1 = .ok (.istore_n 1, 1) := by decide +kernel
theorem rd_B_bits_2 : decode rc_B_bits 2 = .ok (.aload_n 0, 1) := by decide +kernel
theorem rd_B_bits_3 : decode rc_B_bits 3 = .ok (.getfield 13, 3) := by decide +kernel
theorem rd_B_bits_6 : decode rc_B_bits 6 = .ok (.ifCond .le 25, 3) := by decide +kernel
theorem rd_B_bits_9 : decode rc_B_bits 9 = .ok (.aload_n 0, 1) := by decide +kernel
theorem rd_B_bits_10 : decode rc_B_bits 10 = .ok (.getfield 7, 3) := by decide +kernel
theorem rd_B_bits_13 : decode rc_B_bits 13 = .ok (.aload_n 0, 1) := by decide +kernel
theorem rd_B_bits_14 : decode rc_B_bits 14 = .ok (.getfield 13, 3) := by decide +kernel
theorem rd_B_bits_17 : decode rc_B_bits 17 = .ok (.iconst 1, 1) := by decide +kernel
theorem rd_B_bits_18 : decode rc_B_bits 18 = .ok (.isub, 1) := by decide +kernel
theorem rd_B_bits_19 : decode rc_B_bits 19 = .ok (.iaload, 1) := by decide +kernel
theorem rd_B_bits_20 : decode rc_B_bits 20 = .ok (.iload_n 1, 1) := by decide +kernel
theorem rd_B_bits_21 : decode rc_B_bits 21 = .ok (.ishr, 1) := by decide +kernel
theorem rd_B_bits_22 : decode rc_B_bits 22 = .ok (.ifCond .eq 9, 3) := by decide +kernel
theorem rd_B_bits_25 : decode rc_B_bits 25 = .ok (.iinc 1 1, 3) := by decide +kernel
theorem rd_B_bits_28 : decode rc_B_bits 28 = .ok (.goto (-26), 3) := by decide +kernel
theorem rd_B_bits_31 : decode rc_B_bits 31 = .ok (.aload_n 0, 1) := by decide +kernel
theorem rd_B_bits_32 : decode rc_B_bits 32 = .ok (.getfield 13, 3) := by decide +kernel
theorem rd_B_bits_35 : decode rc_B_bits 35 = .ok (.ifCond .ne 7, 3) := by decide +kernel
theorem rd_B_bits_38 : decode rc_B_bits 38 = .ok (.iconst 0, 1) := by decide +kernel
theorem rd_B_bits_39 : decode rc_B_bits 39 = .ok (.goto 14, 3) := by decide +kernel
theorem rd_B_bits_42 : decode rc_B_bits 42 = .ok (.bipush 16, 2) := by decide +kernel
theorem rd_B_bits_44 : decode rc_B_bits 44 = .ok (.aload_n 0, 1) := by decide +kernel
theorem rd_B_bits_45 : decode rc_B_bits 45 = .ok (.getfield 13, 3) := by decide +kernel
theorem rd_B_bits_48 : decode rc_B_bits 48 = .ok (.iconst 1, 1) := by decide +kernel
theorem rd_B_bits_49 : decode rc_B_bits 49 = .ok (.isub, 1) := by decide +kernel
theorem rd_B_bits_50 : decode rc_B_bits 50 = .ok (.imul, 1) := by decide +kernel
theorem rd_B_bits_51 : decode rc_B_bits 51 = .ok (.iload_n 1, 1) := by decide +kernel
theorem rd_B_bits_52 : decode rc_B_bits 52 = .ok (.iadd, 1) := by decide +kernel
theorem rd_B_bits_53 : decode rc_B_bits 53 = .ok (.ireturn, 1) := by decide +kernel
theorem rd_B_isOne_0 : decode rc_B_isOne 0 = .ok (.aload_n 0, 1) := by decide +kernel
theorem rd_B_isOne_1 : decode rc_B_isOne 1 = .ok (.getfield 13, 3) := by decide +kernel
theorem rd_B_isOne_4 : decode rc_B_isOne 4 = .ok (.iconst 1, 1) := by decide +kernel
theorem rd_B_isOne_5 : decode rc_B_isOne 5 = .ok (.if_icmp .ne 17, 3) := by decide +kernel
theorem rd_B_isOne_8 : decode rc_B_isOne 8 = .ok (.aload_n 0, 1) := by decide +kernel
theorem rd_B_isOne_9 : decode rc_B_isOne 9 = .ok (.getfield 7, 3) := by decide +kernel
theorem rd_B_isOne_12 : decode rc_B_isOne 12 = .ok (.iconst 0, 1) := by decide +kernel
theorem rd_B_isOne_13 : decode rc_B_isOne 13 = .ok (.iaload, 1) := by decide +kernel
theorem rd_B_isOne_14 : decode rc_B_isOne 14 = .ok (.iconst 1, 1) := by decide +kernel
theorem rd_B_isOne_15 : decode rc_B_isOne 15 = .ok (.if_icmp .ne 7, 3) := by decide +kernel
theorem rd_B_isOne_18 : decode rc_B_isOne 18 = .ok (.iconst 1, 1) := by decide +kernel
theorem rd_B_isOne_19 : decode rc_B_isOne 19 = .ok (.goto 4, 3) := by decide +kernel
theorem rd_B_isOne_22 : decode rc_B_isOne 22 = .ok (.iconst 0, 1) := by decide +kernel
theorem rd_B_isOne_23 : decode rc_B_isOne 23 = .ok (.ireturn, 1) := by decide +kernel
theorem rd_B_grow_0 : decode rc_B_grow 0 = .ok (.iload_n 2, 1) := by decide +kernel
theorem rd_B_grow_1 : decode rc_B_grow 1 = .ok (.i2l, 1) := by decide +kernel
theorem rd_B_grow_2 : decode rc_B_grow 2 = .ok (.lstore_n 3, 1) := by decide +kernel
theorem rd_B_grow_3 : decode rc_B_grow 3 = .ok (.iconst 0, 1) := by decide +kernel
theorem rd_B_grow_4 : decode rc_B_grow 4 = .ok (.istore 5, 2) := by decide +kernel
theorem rd_B_grow_6 : decode rc_B_grow 6 = .ok (.iload 5, 2) := by decide +kernel
theorem rd_B_grow_8 : decode rc_B_grow 8 = .ok (.aload_n 0, 1) := by decide +kernel
theorem rd_B_grow_9 : decode rc_B_grow 9 = .ok (.getfield 13, 3) := by decide +kernel
theorem rd_B_grow_12 : decode rc_B_grow 12 = .ok (.if_icmp .ge 44, 3) := by decide +kernel
theorem rd_B_grow_15 : decode rc_B_grow 15 = .ok (.aload_n 0, 1) := by decide +kernel
theorem rd_B_grow_16 : decode rc_B_grow 16 = .ok (.getfield 7, 3) := by decide +kernel
theorem rd_B_grow_19 : decode rc_B_grow 19 = .ok (.iload 5, 2) := by decide +kernel
theorem rd_B_grow_21 : decode rc_B_grow 21 = .ok (.iaload, 1) := by decide +kernel
theorem rd_B_grow_22 : decode rc_B_grow 22 = .ok (.i2l, 1) := by decide +kernel
theorem rd_B_grow_23 : decode rc_B_grow 23 = .ok (.iload_n 1, 1) := by decide +kernel
theorem rd_B_grow_24 : decode rc_B_grow 24 = .ok (.i2l, 1) := by decide +kernel
theorem rd_B_grow_25 : decode rc_B_grow 25 = .ok (.lmul, 1) := by decide +kernel
theorem rd_B_grow_26 : decode rc_B_grow 26 = .ok (.lload_n 3, 1) := by decide +kernel
theorem rd_B_grow_27 : decode rc_B_grow 27 = .ok (.ladd, 1) := by decide +kernel
theorem rd_B_grow_28 : decode rc_B_grow 28 = .ok (.lstore 6, 2) := by decide +kernel
theorem rd_B_grow_30 : decode rc_B_grow 30 = .ok (.aload_n 0, 1) := by decide +kernel
theorem rd_B_grow_31 : decode rc_B_grow 31 = .ok (.getfield 7, 3) := by decide +kernel
theorem rd_B_grow_34 : decode rc_B_grow 34 = .ok (.iload 5, 2) := by decide +kernel
theorem rd_B_grow_36 : decode rc_B_grow 36 = .ok (.lload 6, 2) := by decide +kernel
theorem rd_B_grow_38 : decode rc_B_grow 38 = .ok (.ldc2_w 17, 3) := by decide +kernel
theorem rd_B_grow_41 : decode rc_B_grow 41 = .ok (.land, 1) := by decide +kernel
theorem rd_B_grow_42 : decode rc_B_grow 42 = .ok (.l2i, 1) := by decide +kernel
theorem rd_B_grow_43 : decode rc_B_grow 43 = .ok (.iastore, 1) := by decide +kernel
theorem rd_B_grow_44 : decode rc_B_grow 44 = .ok (.lload 6, 2) := by decide +kernel
theorem rd_B_grow_46 : decode rc_B_grow 46 = .ok (.bipush 16, 2) := by decide +kernel
theorem rd_B_grow_48 : decode rc_B_grow 48 = .ok (.lshr, 1) := by decide +kernel
theorem rd_B_grow_49 : decode rc_B_grow 49 = .ok (.lstore_n 3, 1) := by decide +kernel
theorem rd_B_grow_50 : decode rc_B_grow 50 = .ok (.iinc 5 1, 3) := by decide +kernel
theorem rd_B_grow_53 : decode rc_B_grow 53 = .ok (.goto (-47), 3) := by decide +kernel
theorem rd_B_grow_56 : decode rc_B_grow 56 = .ok (.lload_n 3, 1) := by decide +kernel
theorem rd_B_grow_57 : decode rc_B_grow 57 = .ok (.lconst 0, 1) := by decide +kernel
theorem rd_B_grow_58 : decode rc_B_grow 58 = .ok (.lcmp, 1) := by decide +kernel
theorem rd_B_grow_59 : decode rc_B_grow 59 = .ok (.ifCond .le 36, 3) := by decide +kernel
theorem rd_B_grow_62 : decode rc_B_grow 62 = .ok (.aload_n 0, 1) := by decide +kernel
theorem rd_B_grow_63 : decode rc_B_grow 63 = .ok (.getfield 7, 3) := by decide +kernel
theorem rd_B_grow_66 : decode rc_B_grow 66 = .ok (.aload_n 0, 1) := by decide +kernel
theorem rd_B_grow_67 : decode rc_B_grow 67 = .ok (.getfield 13, 3) := by decide +kernel
theorem rd_B_grow_70 : decode rc_B_grow 70 = .ok (.lload_n 3, 1) := by decide +kernel
theorem rd_B_grow_71 : decode rc_B_grow 71 = .ok (.ldc2_w 17, 3) := by decide +kernel
theorem rd_B_grow_74 : decode rc_B_grow 74 = .ok (.land, 1) := by decide +kernel
theorem rd_B_grow_75 : decode rc_B_grow 75 = .ok (.l2i, 1) := by decide +kernel
theorem rd_B_grow_76 : decode rc_B_grow 76 = .ok (.iastore, 1) := by decide +kernel
theorem rd_B_grow_77 : decode rc_B_grow 77 = .ok (.aload_n 0, 1) := by decide +kernel
theorem rd_B_grow_78 : decode rc_B_grow 78 = .ok (.dup, 1) := by decide +kernel
theorem rd_B_grow_79 : decode rc_B_grow 79 = .ok (.getfield 13, 3) := by decide +kernel
theorem rd_B_grow_82 : decode rc_B_grow 82 = .ok (.iconst 1, 1) := by decide +kernel
theorem rd_B_grow_83 : decode rc_B_grow 83 = .ok (.iadd, 1) := by decide +kernel
theorem rd_B_grow_84 : decode rc_B_grow 84 = .ok (.putfield 13, 3) := by decide +kernel
theorem rd_B_grow_87 : decode rc_B_grow 87 = .ok (.lload_n 3, 1) := by decide +kernel
theorem rd_B_grow_88 : decode rc_B_grow 88 = .ok (.bipush 16, 2) := by decide +kernel
theorem rd_B_grow_90 : decode rc_B_grow 90 = .ok (.lshr, 1) := by decide +kernel
theorem rd_B_grow_91 : decode rc_B_grow 91 = .ok (.lstore_n 3, 1) := by decide +kernel
theorem rd_B_grow_92 : decode rc_B_grow 92 = .ok (.goto (-36), 3) := by decide +kernel
theorem rd_B_grow_95 : decode rc_B_grow 95 = .ok (.return_, 1) := by decide +kernel
theorem rd_B_product_0 : decode rc_B_product 0 = .ok (.aload_n 0, 1) := by decide +kernel
theorem rd_B_product_1 : decode rc_B_product 1 = .ok (.aload_n 1, 1) := by decide +kernel
theorem rd_B_product_2 : decode rc_B_product 2 = .ok (.getfield 13, 3) := by decide +kernel
theorem rd_B_product_5 : decode rc_B_product 5 = .ok (.ifCond .eq 10, 3) := by decide +kernel
theorem rd_B_product_8 : decode rc_B_product 8 = .ok (.aload_n 2, 1) := by decide +kernel
theorem rd_B_product_9 : decode rc_B_product 9 = .ok (.getfield 13, 3) := by decide +kernel
theorem rd_B_product_12 : decode rc_B_product 12 = .ok (.ifCond .ne 7, 3) := by decide +kernel
theorem rd_B_product_15 : decode rc_B_product 15 = .ok (.iconst 0, 1) := by decide +kernel
theorem rd_B_product_16 : decode rc_B_product 16 = .ok (.goto 12, 3) := by decide +kernel
theorem rd_B_product_19 : decode rc_B_product 19 = .ok (.aload_n 1, 1) := by decide +kernel
theorem rd_B_product_20 : decode rc_B_product 20 = .ok (.getfield 13, 3) := by decide +kernel
theorem rd_B_product_23 : decode rc_B_product 23 = .ok (.aload_n 2, 1) := by decide +kernel
theorem rd_B_product_24 : decode rc_B_product 24 = .ok (.getfield 13, 3) := by decide +kernel
theorem rd_B_product_27 : decode rc_B_product 27 = .ok (.iadd, 1) := by decide +kernel
theorem rd_B_product_28 : decode rc_B_product 28 = .ok (.putfield 13, 3) := by decide +kernel
theorem rd_B_product_31 : decode rc_B_product 31 = .ok (.iconst 0, 1) := by decide +kernel
theorem rd_B_product_32 : decode rc_B_product 32 = .ok (.istore_n 3, 1) := by decide +kernel
theorem rd_B_product_33 : decode rc_B_product 33 = .ok (.iload_n 3, 1) := by decide +kernel
theorem rd_B_product_34 : decode rc_B_product 34 = .ok (.aload_n 0, 1) := by decide +kernel
theorem rd_B_product_35 : decode rc_B_product 35 = .ok (.getfield 13, 3) := by decide +kernel
theorem rd_B_product_38 : decode rc_B_product 38 = .ok (.if_icmp .ge 16, 3) := by decide +kernel
theorem rd_B_product_41 : decode rc_B_product 41 = .ok (.aload_n 0, 1) := by decide +kernel
theorem rd_B_product_42 : decode rc_B_product 42 = .ok (.getfield 7, 3) := by decide +kernel
theorem rd_B_product_45 : decode rc_B_product 45 = .ok (.iload_n 3, 1) := by decide +kernel
theorem rd_B_product_46 : decode rc_B_product 46 = .ok (.iconst 0, 1) := by decide +kernel
theorem rd_B_product_47 : decode rc_B_product 47 = .ok (.iastore, 1) := by decide +kernel
theorem rd_B_product_48 : decode rc_B_product 48 = .ok (.iinc 3 1, 3) := by decide +kernel
theorem rd_B_product_51 : decode rc_B_product 51 = .ok (.goto (-18), 3) := by decide +kernel
theorem rd_B_product_54 : decode rc_B_product 54 = .ok (.iconst 0, 1) := by decide +kernel
theorem rd_B_product_55 : decode rc_B_product 55 = .ok (.istore_n 3, 1) := by decide +kernel
theorem rd_B_product_56 : decode rc_B_product 56 = .ok (.iload_n 3, 1) := by decide +kernel
theorem rd_B_product_57 : decode rc_B_product 57 = .ok (.aload_n 1, 1) := by decide +kernel
theorem rd_B_product_58 : decode rc_B_product 58 = .ok (.getfield 13, 3) := by decide +kernel
theorem rd_B_product_61 : decode rc_B_product 61 = .ok (.if_icmp .ge 106, 3) := by decide +kernel
theorem rd_B_product_64 : decode rc_B_product 64 = .ok (.aload_n 0, 1) := by decide +kernel
theorem rd_B_product_65 : decode rc_B_product 65 = .ok (.getfield 13, 3) := by decide +kernel
theorem rd_B_product_68 : decode rc_B_product 68 = .ok (.ifCond .le 99, 3) := by decide +kernel
theorem rd_B_product_71 : decode rc_B_product 71 = .ok (.lconst 0, 1) := by decide +kernel
theorem rd_B_product_72 : decode rc_B_product 72 = .ok (.lstore 4, 2) := by decide +kernel
theorem rd_B_product_74 : decode rc_B_product 74 = .ok (.iconst 0, 1) := by decide +kernel
theorem rd_B_product_75 : decode rc_B_product 75 = .ok (.istore 6, 2) := by decide +kernel
theorem rd_B_product_77 : decode rc_B_product 77 = .ok (.iload 6, 2) := by decide +kernel
theorem rd_B_product_79 : decode rc_B_product 79 = .ok (.aload_n 2, 1) := by decide +kernel
theorem rd_B_product_80 : decode rc_B_product 80 = .ok (.getfield 13, 3) := by decide +kernel
theorem rd_B_product_83 : decode rc_B_product 83 = .ok (.if_icmp .ge 64, 3) := by decide +kernel
theorem rd_B_product_86 : decode rc_B_product 86 = .ok (.aload_n 1, 1) := by decide +kernel
theorem rd_B_product_87 : decode rc_B_product 87 = .ok (.getfield 7, 3) := by decide +kernel
theorem rd_B_product_90 : decode rc_B_product 90 = .ok (.iload_n 3, 1) := by decide +kernel
theorem rd_B_product_91 : decode rc_B_product 91 = .ok (.iaload, 1) := by decide +kernel
theorem rd_B_product_92 : decode rc_B_product 92 = .ok (.i2l, 1) := by decide +kernel
theorem rd_B_product_93 : decode rc_B_product 93 = .ok (.aload_n 2, 1) := by decide +kernel
theorem rd_B_product_94 : decode rc_B_product 94 = .ok (.getfield 7, 3) := by decide +kernel
theorem rd_B_product_97 : decode rc_B_product 97 = .ok (.iload 6, 2) := by decide +kernel
theorem rd_B_product_99 : decode rc_B_product 99 = .ok (.iaload, 1) := by decide +kernel
end
section
theorem rd_B_product_100 : decode rc_B_product 100 = .ok (.i2l, 1) := by decide +kernel
theorem rd_B_product_101 : decode rc_B_product 101 = .ok (.lmul, 1) := by decide +kernel
theorem rd_B_product_102 : decode rc_B_product 102 = .ok (.aload_n 0, 1) := by decide +kernel
theorem rd_B_product_103 : decode rc_B_product 103 = .ok (.getfield 7, 3) := by decide +kernel
theorem rd_B_product_106 : decode rc_B_product 106 = .ok (.iload_n 3, 1) := by decide +kernel
theorem rd_B_product_107 : decode rc_B_product 107 = .ok (.iload 6, 2) := by decide +kernel
theorem rd_B_product_109 : decode rc_B_product 109 = .ok (.iadd, 1) := by decide +kernel
theorem rd_B_product_110 : decode rc_B_product 110 = .ok (.iaload, 1) := by decide +kernel
theorem rd_B_product_111 : decode rc_B_product 111 = .ok (.i2l, 1) := by decide +kernel
theorem rd_B_product_112 : decode rc_B_product 112 = .ok (.ladd, 1) := by decide +kernel
theorem rd_B_product_113 : decode rc_B_product 113 = .ok (.lload 4, 2) := by decide +kernel
theorem rd_B_product_115 : decode rc_B_product 115 = .ok (.ladd, 1) := by decide +kernel
theorem rd_B_product_116 : decode rc_B_product 116 = .ok (.lstore 7, 2) := by decide +kernel
theorem rd_B_product_118 : decode rc_B_product 118 = .ok (.aload_n 0, 1) := by decide +kernel
theorem rd_B_product_119 : decode rc_B_product 119 = .ok (.getfield 7, 3) := by decide +kernel
theorem rd_B_product_122 : decode rc_B_product 122 = .ok (.iload_n 3, 1) := by decide +kernel
theorem rd_B_product_123 : decode rc_B_product 123 = .ok (.iload 6, 2) := by decide +kernel
theorem rd_B_product_125 : decode rc_B_product 125 = .ok (.iadd, 1) := by decide +kernel
theorem rd_B_product_126 : decode rc_B_product 126 = .ok (.lload 7, 2) := by decide +kernel
theorem rd_B_product_128 : decode rc_B_product 128 = .ok (.ldc2_w 17, 3) := by decide +kernel
theorem rd_B_product_131 : decode rc_B_product 131 = .ok (.land, 1) := by decide +kernel
theorem rd_B_product_132 : decode rc_B_product 132 = .ok (.l2i, 1) := by decide +kernel
theorem rd_B_product_133 : decode rc_B_product 133 = .ok (.iastore, 1) := by decide +kernel
theorem rd_B_product_134 : decode rc_B_product 134 = .ok (.lload 7, 2) := by decide +kernel
theorem rd_B_product_136 : decode rc_B_product 136 = .ok (.bipush 16, 2) := by decide +kernel
theorem rd_B_product_138 : decode rc_B_product 138 = .ok (.lshr, 1) := by decide +kernel
theorem rd_B_product_139 : decode rc_B_product 139 = .ok (.lstore 4, 2) := by decide +kernel
theorem rd_B_product_141 : decode rc_B_product 141 = .ok (.iinc 6 1, 3) := by decide +kernel
theorem rd_B_product_144 : decode rc_B_product 144 = .ok (.goto (-67), 3) := by decide +kernel
theorem rd_B_product_147 : decode rc_B_product 147 = .ok (.aload_n 0, 1) := by decide +kernel
theorem rd_B_product_148 : decode rc_B_product 148 = .ok (.getfield 7, 3) := by decide +kernel
theorem rd_B_product_151 : decode rc_B_product 151 = .ok (.iload_n 3, 1) := by decide +kernel
theorem rd_B_product_152 : decode rc_B_product 152 = .ok (.aload_n 2, 1) := by decide +kernel
theorem rd_B_product_153 : decode rc_B_product 153 = .ok (.getfield 13, 3) := by decide +kernel
theorem rd_B_product_156 : decode rc_B_product 156 = .ok (.iadd, 1) := by decide +kernel
theorem rd_B_product_157 : decode rc_B_product 157 = .ok (.lload 4, 2) := by decide +kernel
theorem rd_B_product_159 : decode rc_B_product 159 = .ok (.l2i, 1) := by decide +kernel
theorem rd_B_product_160 : decode rc_B_product 160 = .ok (.iastore, 1) := by decide +kernel
theorem rd_B_product_161 : decode rc_B_product 161 = .ok (.iinc 3 1, 3) := by decide +kernel
theorem rd_B_product_164 : decode rc_B_product 164 = .ok (.goto (-108), 3) := by decide +kernel
theorem rd_B_product_167 : decode rc_B_product 167 = .ok (.aload_n 0, 1) := by decide +kernel
theorem rd_B_product_168 : decode rc_B_product 168 = .ok (.invokevirtual 19, 3) := by decide +kernel
theorem rd_B_product_171 : decode rc_B_product 171 = .ok (.return_, 1) := by decide +kernel
theorem rd_B_trim_0 : decode rc_B_trim 0 = .ok (.aload_n 0, 1) := by decide +kernel
theorem rd_B_trim_1 : decode rc_B_trim 1 = .ok (.getfield 13, 3) := by decide +kernel
theorem rd_B_trim_4 : decode rc_B_trim 4 = .ok (.ifCond .le 30, 3) := by decide +kernel
theorem rd_B_trim_7 : decode rc_B_trim 7 = .ok (.aload_n 0, 1) := by decide +kernel
theorem rd_B_trim_8 : decode rc_B_trim 8 = .ok (.getfield 7, 3) := by decide +kernel
theorem rd_B_trim_11 : decode rc_B_trim 11 = .ok (.aload_n 0, 1) := by decide +kernel
theorem rd_B_trim_12 : decode rc_B_trim 12 = .ok (.getfield 13, 3) := by decide +kernel
theorem rd_B_trim_15 : decode rc_B_trim 15 = .ok (.iconst 1, 1) := by decide +kernel
theorem rd_B_trim_16 : decode rc_B_trim 16 = .ok (.isub, 1) := by decide +kernel
theorem rd_B_trim_17 : decode rc_B_trim 17 = .ok (.iaload, 1) := by decide +kernel
theorem rd_B_trim_18 : decode rc_B_trim 18 = .ok (.ifCond .ne 16, 3) := by decide +kernel
theorem rd_B_trim_21 : decode rc_B_trim 21 = .ok (.aload_n 0, 1) := by decide +kernel
theorem rd_B_trim_22 : decode rc_B_trim 22 = .ok (.dup, 1) := by decide +kernel
theorem rd_B_trim_23 : decode rc_B_trim 23 = .ok (.getfield 13, 3) := by decide +kernel
theorem rd_B_trim_26 : decode rc_B_trim 26 = .ok (.iconst 1, 1) := by decide +kernel
theorem rd_B_trim_27 : decode rc_B_trim 27 = .ok (.isub, 1) := by decide +kernel
theorem rd_B_trim_28 : decode rc_B_trim 28 = .ok (.putfield 13, 3) := by decide +kernel
theorem rd_B_trim_31 : decode rc_B_trim 31 = .ok (.goto (-31), 3) := by decide +kernel
theorem rd_B_trim_34 : decode rc_B_trim 34 = .ok (.return_, 1) := by decide +kernel
theorem rd_B_shift_0 : decode rc_B_shift 0 = .ok (.iload_n 1, 1) := by decide +kernel
theorem rd_B_shift_1 : decode rc_B_shift 1 = .ok (.bipush 16, 2) := by decide +kernel
theorem rd_B_shift_3 : decode rc_B_shift 3 = .ok (.idiv, 1) := by decide +kernel
theorem rd_B_shift_4 : decode rc_B_shift 4 = .ok (.istore_n 2, 1) := by decide +kernel
theorem rd_B_shift_5 : decode rc_B_shift 5 = .ok (.iload_n 1, 1) := by decide +kernel
theorem rd_B_shift_6 : decode rc_B_shift 6 = .ok (.bipush 16, 2) := by decide +kernel
theorem rd_B_shift_8 : decode rc_B_shift 8 = .ok (.irem, 1) := by decide +kernel
theorem rd_B_shift_9 : decode rc_B_shift 9 = .ok (.istore_n 3, 1) := by decide +kernel
theorem rd_B_shift_10 : decode rc_B_shift 10 = .ok (.aload_n 0, 1) := by decide +kernel
theorem rd_B_shift_11 : decode rc_B_shift 11 = .ok (.getfield 13, 3) := by decide +kernel
theorem rd_B_shift_14 : decode rc_B_shift 14 = .ok (.ifCond .ne 4, 3) := by decide +kernel
theorem rd_B_shift_17 : decode rc_B_shift 17 = .ok (.return_, 1) := by decide +kernel
theorem rd_B_shift_18 : decode rc_B_shift 18 = .ok (.aload_n 0, 1) := by decide +kernel
theorem rd_B_shift_19 : decode rc_B_shift 19 = .ok (.getfield 13, 3) := by decide +kernel
theorem rd_B_shift_22 : decode rc_B_shift 22 = .ok (.iconst 1, 1) := by decide +kernel
theorem rd_B_shift_23 : decode rc_B_shift 23 = .ok (.isub, 1) := by decide +kernel
theorem rd_B_shift_24 : decode rc_B_shift 24 = .ok (.istore 4, 2) := by decide +kernel
theorem rd_B_shift_26 : decode rc_B_shift 26 = .ok (.iload 4, 2) := by decide +kernel
theorem rd_B_shift_28 : decode rc_B_shift 28 = .ok (.ifCond .lt 25, 3) := by decide +kernel
theorem rd_B_shift_31 : decode rc_B_shift 31 = .ok (.aload_n 0, 1) := by decide +kernel
theorem rd_B_shift_32 : decode rc_B_shift 32 = .ok (.getfield 7, 3) := by decide +kernel
theorem rd_B_shift_35 : decode rc_B_shift 35 = .ok (.iload 4, 2) := by decide +kernel
theorem rd_B_shift_37 : decode rc_B_shift 37 = .ok (.iload_n 2, 1) := by decide +kernel
theorem rd_B_shift_38 : decode rc_B_shift 38 = .ok (.iadd, 1) := by decide +kernel
theorem rd_B_shift_39 : decode rc_B_shift 39 = .ok (.aload_n 0, 1) := by decide +kernel
theorem rd_B_shift_40 : decode rc_B_shift 40 = .ok (.getfield 7, 3) := by decide +kernel
theorem rd_B_shift_43 : decode rc_B_shift 43 = .ok (.iload 4, 2) := by decide +kernel
theorem rd_B_shift_45 : decode rc_B_shift 45 = .ok (.iaload, 1) := by decide +kernel
theorem rd_B_shift_46 : decode rc_B_shift 46 = .ok (.iastore, 1) := by decide +kernel
theorem rd_B_shift_47 : decode rc_B_shift 47 = .ok (.iinc 4 (-1), 3) := by decide +kernel
theorem rd_B_shift_50 : decode rc_B_shift 50 = .ok (.goto (-24), 3) := by decide +kernel
theorem rd_B_shift_53 : decode rc_B_shift 53 = .ok (.iconst 0, 1) := by decide +kernel
theorem rd_B_shift_54 : decode rc_B_shift 54 = .ok (.istore 4, 2) := by decide +kernel
theorem rd_B_shift_56 : decode rc_B_shift 56 = .ok (.iload 4, 2) := by decide +kernel
theorem rd_B_shift_58 : decode rc_B_shift 58 = .ok (.iload_n 2, 1) := by decide +kernel
theorem rd_B_shift_59 : decode rc_B_shift 59 = .ok (.if_icmp .ge 17, 3) := by decide +kernel
theorem rd_B_shift_62 : decode rc_B_shift 62 = .ok (.aload_n 0, 1) := by decide +kernel
theorem rd_B_shift_63 : decode rc_B_shift 63 = .ok (.getfield 7, 3) := by decide +kernel
theorem rd_B_shift_66 : decode rc_B_shift 66 = .ok (.iload 4, 2) := by decide +kernel
theorem rd_B_shift_68 : decode rc_B_shift 68 = .ok (.iconst 0, 1) := by decide +kernel
theorem rd_B_shift_69 : decode rc_B_shift 69 = .ok (.iastore, 1) := by decide +kernel
theorem rd_B_shift_70 : decode rc_B_shift 70 = .ok (.iinc 4 1, 3) := by decide +kernel
theorem rd_B_shift_73 : decode rc_B_shift 73 = .ok (.goto (-17), 3) := by decide +kernel
theorem rd_B_shift_76 : decode rc_B_shift 76 = .ok (.aload_n 0, 1) := by decide +kernel
theorem rd_B_shift_77 : decode rc_B_shift 77 = .ok (.aload_n 0, 1) := by decide +kernel
theorem rd_B_shift_78 : decode rc_B_shift 78 = .ok (.getfield 13, 3) := by decide +kernel
theorem rd_B_shift_81 : decode rc_B_shift 81 = .ok (.iload_n 2, 1) := by decide +kernel
theorem rd_B_shift_82 : decode rc_B_shift 82 = .ok (.iadd, 1) := by decide +kernel
theorem rd_B_shift_83 : decode rc_B_shift 83 = .ok (.putfield 13, 3) := by decide +kernel
theorem rd_B_shift_86 : decode rc_B_shift 86 = .ok (.aload_n 0, 1) := by decide +kernel
theorem rd_B_shift_87 : decode rc_B_shift 87 = .ok (.iconst 1, 1) := by decide +kernel
theorem rd_B_shift_88 : decode rc_B_shift 88 = .ok (.iload_n 3, 1) := by decide +kernel
theorem rd_B_shift_89 : decode rc_B_shift 89 = .ok (.ishl, 1) := by decide +kernel
theorem rd_B_shift_90 : decode rc_B_shift 90 = .ok (.iconst 0, 1) := by decide +kernel
theorem rd_B_shift_91 : decode rc_B_shift 91 = .ok (.invokevirtual 22, 3) := by decide +kernel
theorem rd_B_shift_94 : decode rc_B_shift 94 = .ok (.return_, 1) := by decide +kernel
theorem rd_B_compare_0 : decode rc_B_compare 0 = .ok (.aload_n 0, 1) := by decide +kernel
theorem rd_B_compare_1 : decode rc_B_compare 1 = .ok (.getfield 13, 3) := by decide +kernel
theorem rd_B_compare_4 : decode rc_B_compare 4 = .ok (.aload_n 1, 1) := by decide +kernel
theorem rd_B_compare_5 : decode rc_B_compare 5 = .ok (.getfield 13, 3) := by decide +kernel
theorem rd_B_compare_8 : decode rc_B_compare 8 = .ok (.if_icmp .eq 20, 3) := by decide +kernel
theorem rd_B_compare_11 : decode rc_B_compare 11 = .ok (.aload_n 0, 1) := by decide +kernel
theorem rd_B_compare_12 : decode rc_B_compare 12 = .ok (.getfield 13, 3) := by decide +kernel
theorem rd_B_compare_15 : decode rc_B_compare 15 = .ok (.aload_n 1, 1) := by decide +kernel
theorem rd_B_compare_16 : decode rc_B_compare 16 = .ok (.getfield 13, 3) := by decide +kernel
theorem rd_B_compare_19 : decode rc_B_compare 19 = .ok (.if_icmp .ge 7, 3) := by decide +kernel
theorem rd_B_compare_22 : decode rc_B_compare 22 = .ok (.iconst (-1), 1) := by decide +kernel
theorem rd_B_compare_23 : decode rc_B_compare 23 = .ok (.goto 4, 3) := by decide +kernel
theorem rd_B_compare_26 : decode rc_B_compare 26 = .ok (.iconst 1, 1) := by decide +kernel
theorem rd_B_compare_27 : decode rc_B_compare 27 = .ok (.ireturn, 1) := by decide +kernel
theorem rd_B_compare_28 : decode rc_B_compare 28 = .ok (.aload_n 0, 1) := by decide +kernel
theorem rd_B_compare_29 : decode rc_B_compare 29 = .ok (.getfield 13, 3) := by decide +kernel
theorem rd_B_compare_32 : decode rc_B_compare 32 = .ok (.iconst 1, 1) := by decide +kernel
theorem rd_B_compare_33 : decode rc_B_compare 33 = .ok (.isub, 1) := by decide +kernel
theorem rd_B_compare_34 : decode rc_B_compare 34 = .ok (.istore_n 2, 1) := by decide +kernel
theorem rd_B_compare_35 : decode rc_B_compare 35 = .ok (.iload_n 2, 1) := by decide +kernel
theorem rd_B_compare_36 : decode rc_B_compare 36 = .ok (.ifCond .lt 45, 3) := by decide +kernel
theorem rd_B_compare_39 : decode rc_B_compare 39 = .ok (.aload_n 0, 1) := by decide +kernel
theorem rd_B_compare_40 : decode rc_B_compare 40 = .ok (.getfield 7, 3) := by decide +kernel
theorem rd_B_compare_43 : decode rc_B_compare 43 = .ok (.iload_n 2, 1) := by decide +kernel
theorem rd_B_compare_44 : decode rc_B_compare 44 = .ok (.iaload, 1) := by decide +kernel
theorem rd_B_compare_45 : decode rc_B_compare 45 = .ok (.aload_n 1, 1) := by decide +kernel
theorem rd_B_compare_46 : decode rc_B_compare 46 = .ok (.getfield 7, 3) := by decide +kernel
theorem rd_B_compare_49 : decode rc_B_compare 49 = .ok (.iload_n 2, 1) := by decide +kernel
theorem rd_B_compare_50 : decode rc_B_compare 50 = .ok (.iaload, 1) := by decide +kernel
theorem rd_B_compare_51 : decode rc_B_compare 51 = .ok (.if_icmp .eq 24, 3) := by decide +kernel
theorem rd_B_compare_54 : decode rc_B_compare 54 = .ok (.aload_n 0, 1) := by decide +kernel
theorem rd_B_compare_55 : decode rc_B_compare 55 = .ok (.getfield 7, 3) := by decide +kernel
theorem rd_B_compare_58 : decode rc_B_compare 58 = .ok (.iload_n 2, 1) := by decide +kernel
theorem rd_B_compare_59 : decode rc_B_compare 59 = .ok (.iaload, 1) := by decide +kernel
theorem rd_B_compare_60 : decode rc_B_compare 60 = .ok (.aload_n 1, 1) := by decide +kernel
theorem rd_B_compare_61 : decode rc_B_compare 61 = .ok (.getfield 7, 3) := by decide +kernel
theorem rd_B_compare_64 : decode rc_B_compare 64 = .ok (.iload_n 2, 1) := by decide +kernel
theorem rd_B_compare_65 : decode rc_B_compare 65 = .ok (.iaload, 1) := by decide +kernel
theorem rd_B_compare_66 : decode rc_B_compare 66 = .ok (.if_icmp .ge 7, 3) := by decide +kernel
theorem rd_B_compare_69 : decode rc_B_compare 69 = .ok (.iconst (-1), 1) := by decide +kernel
theorem rd_B_compare_70 : decode rc_B_compare 70 = .ok (.goto 4, 3) := by decide +kernel
theorem rd_B_compare_73 : decode rc_B_compare 73 = .ok (.iconst 1, 1) := by decide +kernel
theorem rd_B_compare_74 : decode rc_B_compare 74 = .ok (.ireturn, 1) := by decide +kernel
theorem rd_B_compare_75 : decode rc_B_compare 75 = .ok (.iinc 2 (-1), 3) := by decide +kernel
theorem rd_B_compare_78 : decode rc_B_compare 78 = .ok (.goto (-43), 3) := by decide +kernel
theorem rd_B_compare_81 : decode rc_B_compare 81 = .ok (.iconst 0, 1) := by decide +kernel
theorem rd_B_compare_82 : decode rc_B_compare 82 = .ok (.ireturn, 1) := by decide +kernel
theorem rd_B_add_0 : decode rc_B_add 0 = .ok (.iconst 0, 1) := by decide +kernel
theorem rd_B_add_1 : decode rc_B_add 1 = .ok (.istore_n 2, 1) := by decide +kernel
theorem rd_B_add_2 : decode rc_B_add 2 = .ok (.iconst 0, 1) := by decide +kernel
theorem rd_B_add_3 : decode rc_B_add 3 = .ok (.istore_n 3, 1) := by decide +kernel
theorem rd_B_add_4 : decode rc_B_add 4 = .ok (.iload_n 3, 1) := by decide +kernel
theorem rd_B_add_5 : decode rc_B_add 5 = .ok (.aload_n 1, 1) := by decide +kernel
theorem rd_B_add_6 : decode rc_B_add 6 = .ok (.getfield 13, 3) := by decide +kernel
theorem rd_B_add_9 : decode rc_B_add 9 = .ok (.if_icmp .lt 7, 3) := by decide +kernel
theorem rd_B_add_12 : decode rc_B_add 12 = .ok (.iload_n 2, 1) := by decide +kernel
theorem rd_B_add_13 : decode rc_B_add 13 = .ok (.ifCond .le 89, 3) := by decide +kernel
theorem rd_B_add_16 : decode rc_B_add 16 = .ok (.iload_n 3, 1) := by decide +kernel
theorem rd_B_add_17 : decode rc_B_add 17 = .ok (.aload_n 0, 1) := by decide +kernel
theorem rd_B_add_18 : decode rc_B_add 18 = .ok (.getfield 13, 3) := by decide +kernel
theorem rd_B_add_21 : decode rc_B_add 21 = .ok (.if_icmp .ge 12, 3) := by decide +kernel
theorem rd_B_add_24 : decode rc_B_add 24 = .ok (.aload_n 0, 1) := by decide +kernel
theorem rd_B_add_25 : decode rc_B_add 25 = .ok (.getfield 7, 3) := by decide +kernel
theorem rd_B_add_28 : decode rc_B_add 28 = .ok (.iload_n 3, 1) := by decide +kernel
theorem rd_B_add_29 : decode rc_B_add 29 = .ok (.iaload, 1) := by decide +kernel
theorem rd_B_add_30 : decode rc_B_add 30 = .ok (.goto 4, 3) := by decide +kernel
theorem rd_B_add_33 : decode rc_B_add 33 = .ok (.iconst 0, 1) := by decide +kernel
theorem rd_B_add_34 : decode rc_B_add 34 = .ok (.iload_n 3, 1) := by decide +kernel
theorem rd_B_add_35 : decode rc_B_add 35 = .ok (.aload_n 1, 1) := by decide +kernel
theorem rd_B_add_36 : decode rc_B_add 36 = .ok (.getfield 13, 3) := by decide +kernel
theorem rd_B_add_39 : decode rc_B_add 39 = .ok (.if_icmp .ge 12, 3) := by decide +kernel
theorem rd_B_add_42 : decode rc_B_add 42 = .ok (.aload_n 1, 1) := by decide +kernel
theorem rd_B_add_43 : decode rc_B_add 43 = .ok (.getfield 7, 3) := by decide +kernel
theorem rd_B_add_46 : decode rc_B_add 46 = .ok (.iload_n 3, 1) := by decide +kernel
theorem rd_B_add_47 : decode rc_B_add 47 = .ok (.iaload, 1) := by decide +kernel
theorem rd_B_add_48 : decode rc_B_add 48 = .ok (.goto 4, 3) := by decide +kernel
theorem rd_B_add_51 : decode rc_B_add 51 = .ok (.iconst 0, 1) := by decide +kernel
theorem rd_B_add_52 : decode rc_B_add 52 = .ok (.iadd, 1) := by decide +kernel
theorem rd_B_add_53 : decode rc_B_add 53 = .ok (.iload_n 2, 1) := by decide +kernel
theorem rd_B_add_54 : decode rc_B_add 54 = .ok (.iadd, 1) := by decide +kernel
theorem rd_B_add_55 : decode rc_B_add 55 = .ok (.istore 4, 2) := by decide +kernel
theorem rd_B_add_57 : decode rc_B_add 57 = .ok (.aload_n 0, 1) := by decide +kernel
theorem rd_B_add_58 : decode rc_B_add 58 = .ok (.iload_n 3, 1) := by decide +kernel
theorem rd_B_add_59 : decode rc_B_add 59 = .ok (.aload_n 0, 1) := by decide +kernel
theorem rd_B_add_60 : decode rc_B_add 60 = .ok (.getfield 13, 3) := by decide +kernel
theorem rd_B_add_63 : decode rc_B_add 63 = .ok (.if_icmp .ge 10, 3) := by decide +kernel
theorem rd_B_add_66 : decode rc_B_add 66 = .ok (.aload_n 0, 1) := by decide +kernel
theorem rd_B_add_67 : decode rc_B_add 67 = .ok (.getfield 13, 3) := by decide +kernel
theorem rd_B_add_70 : decode rc_B_add 70 = .ok (.goto 6, 3) := by decide +kernel
theorem rd_B_add_73 : decode rc_B_add 73 = .ok (.iload_n 3, 1) := by decide +kernel
theorem rd_B_add_74 : decode rc_B_add 74 = .ok (.iconst 1, 1) := by decide +kernel
theorem rd_B_add_75 : decode rc_B_add 75 = .ok (.iadd, 1) := by decide +kernel
theorem rd_B_add_76 : decode rc_B_add 76 = .ok (.putfield 13, 3) := by decide +kernel
theorem rd_B_add_79 : decode rc_B_add 79 = .ok (.aload_n 0, 1) := by decide +kernel
theorem rd_B_add_80 : decode rc_B_add 80 = .ok (.getfield 7, 3) := by decide +kernel
theorem rd_B_add_83 : decode rc_B_add 83 = .ok (.iload_n 3, 1) := by decide +kernel
theorem rd_B_add_84 : decode rc_B_add 84 = .ok (.iload 4, 2) := by decide +kernel
theorem rd_B_add_86 : decode rc_B_add 86 = .ok (.ldc 26, 2) := by decide +kernel
theorem rd_B_add_88 : decode rc_B_add 88 = .ok (.iand, 1) := by decide +kernel
theorem rd_B_add_89 : decode rc_B_add 89 = .ok (.iastore, 1) := by decide +kernel
theorem rd_B_add_90 : decode rc_B_add 90 = .ok (.iload 4, 2) := by decide +kernel
theorem rd_B_add_92 : decode rc_B_add 92 = .ok (.bipush 16, 2) := by decide +kernel
theorem rd_B_add_94 : decode rc_B_add 94 = .ok (.ishr, 1) := by decide +kernel
theorem rd_B_add_95 : decode rc_B_add 95 = .ok (.istore_n 2, 1) := by decide +kernel
theorem rd_B_add_96 : decode rc_B_add 96 = .ok (.iinc 3 1, 3) := by decide +kernel
theorem rd_B_add_99 : decode rc_B_add 99 = .ok (.goto (-95), 3) := by decide +kernel
theorem rd_B_add_102 : decode rc_B_add 102 = .ok (.return_, 1) := by decide +kernel
theorem rd_B_subtract_0 : decode rc_B_subtract 0 = .ok (.iconst 0, 1) := by decide +kernel
theorem rd_B_subtract_1 : decode rc_B_subtract 1 = .ok (.istore_n 2, 1) := by decide +kernel
theorem rd_B_subtract_2 : decode rc_B_subtract 2 = .ok (.iconst 0, 1) := by decide +kernel
theorem rd_B_subtract_3 : decode rc_B_subtract 3 = .ok (.istore_n 3, 1) := by decide +kernel
theorem rd_B_subtract_4 : decode rc_B_subtract 4 = .ok (.iload_n 3, 1) := by decide +kernel
theorem rd_B_subtract_5 : decode rc_B_subtract 5 = .ok (.aload_n 0, 1) := by decide +kernel
theorem rd_B_subtract_6 : decode rc_B_subtract 6 = .ok (.getfield 13, 3) := by decide +kernel
theorem rd_B_subtract_9 : decode rc_B_subtract 9 = .ok (.if_icmp .ge 60, 3) := by decide +kernel
theorem rd_B_subtract_12 : decode rc_B_subtract 12 = .ok (.aload_n 0, 1) := by decide +kernel
theorem rd_B_subtract_13 : decode rc_B_subtract 13 = .ok (.getfield 7, 3) := by decide +kernel
theorem rd_B_subtract_16 : decode rc_B_subtract 16 = .ok (.iload_n 3, 1) := by decide +kernel
theorem rd_B_subtract_17 : decode rc_B_subtract 17 = .ok (.iaload, 1) := by decide +kernel
theorem rd_B_subtract_18 : decode rc_B_subtract 18 = .ok (.iload_n 3, 1) := by decide +kernel
theorem rd_B_subtract_19 : decode rc_B_subtract 19 = .ok (.aload_n 1, 1) := by decide +kernel
theorem rd_B_subtract_20 : decode rc_B_subtract 20 = .ok (.getfield 13, 3) := by decide +kernel
theorem rd_B_subtract_23 : decode rc_B_subtract 23 = .ok (.if_icmp .ge 12, 3) := by decide +kernel
theorem rd_B_subtract_26 : decode rc_B_subtract 26 = .ok (.aload_n 1, 1) := by decide +kernel
theorem rd_B_subtract_27 : decode rc_B_subtract 27 = .ok (.getfield 7, 3) := by decide +kernel
theorem rd_B_subtract_30 : decode rc_B_subtract 30 = .ok (.iload_n 3, 1) := by decide +kernel
theorem rd_B_subtract_31 : decode rc_B_subtract 31 = .ok (.iaload, 1) := by decide +kernel
theorem rd_B_subtract_32 : decode rc_B_subtract 32 = .ok (.goto 4, 3) := by decide +kernel
theorem rd_B_subtract_35 : decode rc_B_subtract 35 = .ok (.iconst 0, 1) := by decide +kernel
theorem rd_B_subtract_36 : decode rc_B_subtract 36 = .ok (.isub, 1) := by decide +kernel
theorem rd_B_subtract_37 : decode rc_B_subtract 37 = .ok (.iload_n 2, 1) := by decide +kernel
theorem rd_B_subtract_38 : decode rc_B_subtract 38 = .ok (.isub, 1) := by decide +kernel
theorem rd_B_subtract_39 : decode rc_B_subtract 39 = .ok (.istore 4, 2) := by decide +kernel
theorem rd_B_subtract_41 : decode rc_B_subtract 41 = .ok (.aload_n 0, 1) := by decide +kernel
theorem rd_B_subtract_42 : decode rc_B_subtract 42 = .ok (.getfield 7, 3) := by decide +kernel
theorem rd_B_subtract_45 : decode rc_B_subtract 45 = .ok (.iload_n 3, 1) := by decide +kernel
theorem rd_B_subtract_46 : decode rc_B_subtract 46 = .ok (.iload 4, 2) := by decide +kernel
theorem rd_B_subtract_48 : decode rc_B_subtract 48 = .ok (.ldc 26, 2) := by decide +kernel
theorem rd_B_subtract_50 : decode rc_B_subtract 50 = .ok (.iand, 1) := by decide +kernel
theorem rd_B_subtract_51 : decode rc_B_subtract 51 = .ok (.iastore, 1) := by decide +kernel
theorem rd_B_subtract_52 : decode rc_B_subtract 52 = .ok (.iload 4, 2) := by decide +kernel
theorem rd_B_subtract_54 : decode rc_B_subtract 54 = .ok (.ifCond .ge 7, 3) := by decide +kernel
theorem rd_B_subtract_57 : decode rc_B_subtract 57 = .ok (.iconst 1, 1) := by decide +kernel
theorem rd_B_subtract_58 : decode rc_B_subtract 58 = .ok (.goto 4, 3) := by decide +kernel
theorem rd_B_subtract_61 : decode rc_B_subtract 61 = .ok (.iconst 0, 1) := by decide +kernel
theorem rd_B_subtract_62 : decode rc_B_subtract 62 = .ok (.istore_n 2, 1) := by decide +kernel
theorem rd_B_subtract_63 : decode rc_B_subtract 63 = .ok (.iinc 3 1, 3) := by decide +kernel
theorem rd_B_subtract_66 : decode rc_B_subtract 66 = .ok (.goto (-62), 3) := by decide +kernel
theorem rd_B_subtract_69 : decode rc_B_subtract 69 = .ok (.aload_n 0, 1) := by decide +kernel
theorem rd_B_subtract_70 : decode rc_B_subtract 70 = .ok (.invokevirtual 19, 3) := by decide +kernel
theorem rd_B_subtract_73 : decode rc_B_subtract 73 = .ok (.return_, 1) := by decide +kernel
theorem rd_N_init_0 : decode rc_N_init 0 = .ok (.aload_n 0, 1) := by decide +kernel
theorem rd_N_init_1 : decode rc_N_init 1 = .ok (.invokespecial 1, 3) := by decide +kernel
theorem rd_N_init_4 : decode rc_N_init 4 = .ok (.aload_n 0, 1) := by decide +kernel
theorem rd_N_init_5 : decode rc_N_init 5 = .ok (.new 7, 3) := by decide +kernel
theorem rd_N_init_8 : decode rc_N_init 8 = .ok (.dup, 1) := by decide +kernel
theorem rd_N_init_9 : decode rc_N_init 9 = .ok (.invokespecial 9, 3) := by decide +kernel
theorem rd_N_init_12 : decode rc_N_init 12 = .ok (.putfield 10, 3) := by decide +kernel
theorem rd_N_init_15 : decode rc_N_init 15 = .ok (.aload_n 0, 1) := by decide +kernel
theorem rd_N_init_16 : decode rc_N_init 16 = .ok (.new 7, 3) := by decide +kernel
theorem rd_N_init_19 : decode rc_N_init 19 = .ok (.dup, 1) := by decide +kernel
theorem rd_N_init_20 : decode rc_N_init 20 = .ok (.invokespecial 9, 3) := by decide +kernel
theorem rd_N_init_23 : decode rc_N_init 23 = .ok (.putfield 16, 3) := by decide +kernel
theorem rd_N_init_26 : decode rc_N_init 26 = .ok (.return_, 1) := by decide +kernel
theorem rd_N_set_0 : decode rc_N_set 0 = .ok (.aload_n 0, 1) := by decide +kernel
theorem rd_N_set_1 : decode rc_N_set 1 = .ok (.lload_n 1, 1) := by decide +kernel
theorem rd_N_set_2 : decode rc_N_set 2 = .ok (.lconst 0, 1) := by decide +kernel
theorem rd_N_set_3 : decode rc_N_set 3 = .ok (.lcmp, 1) := by decide +kernel
theorem rd_N_set_4 : decode rc_N_set 4 = .ok (.ifCond .ge 7, 3) := by decide +kernel
theorem rd_N_set_7 : decode rc_N_set 7 = .ok (.iconst 1, 1) := by decide +kernel
theorem rd_N_set_8 : decode rc_N_set 8 = .ok (.goto 4, 3) := by decide +kernel
theorem rd_N_set_11 : decode rc_N_set 11 = .ok (.iconst 0, 1) := by decide +kernel
theorem rd_N_set_12 : decode rc_N_set 12 = .ok (.putfield 19, 3) := by decide +kernel
theorem rd_N_set_15 : decode rc_N_set 15 = .ok (.aload_n 0, 1) := by decide +kernel
theorem rd_N_set_16 : decode rc_N_set 16 = .ok (.getfield 10, 3) := by decide +kernel
theorem rd_N_set_19 : decode rc_N_set 19 = .ok (.lload_n 1, 1) := by decide +kernel
theorem rd_N_set_20 : decode rc_N_set 20 = .ok (.lconst 0, 1) := by decide +kernel
theorem rd_N_set_21 : decode rc_N_set 21 = .ok (.lcmp, 1) := by decide +kernel
theorem rd_N_set_22 : decode rc_N_set 22 = .ok (.ifCond .ge 8, 3) := by decide +kernel
theorem rd_N_set_25 : decode rc_N_set 25 = .ok (.lload_n 1, 1) := by decide +kernel
theorem rd_N_set_26 : decode rc_N_set 26 = .ok (.lneg, 1) := by decide +kernel
theorem rd_N_set_27 : decode rc_N_set 27 = .ok (.goto 4, 3) := by decide +kernel
theorem rd_N_set_30 : decode rc_N_set 30 = .ok (.lload_n 1, 1) := by decide +kernel
theorem rd_N_set_31 : decode rc_N_set 31 = .ok (.invokevirtual 23, 3) := by decide +kernel
theorem rd_N_set_34 : decode rc_N_set 34 = .ok (.aload_n 0, 1) := by decide +kernel
theorem rd_N_set_35 : decode rc_N_set 35 = .ok (.getfield 16, 3) := by decide +kernel
theorem rd_N_set_38 : decode rc_N_set 38 = .ok (.lconst 1, 1) := by decide +kernel
theorem rd_N_set_39 : decode rc_N_set 39 = .ok (.invokevirtual 23, 3) := by decide +kernel
theorem rd_N_set_42 : decode rc_N_set 42 = .ok (.aload_n 0, 1) := by decide +kernel
theorem rd_N_set_43 : decode rc_N_set 43 = .ok (.iconst 0, 1) := by decide +kernel
theorem rd_N_set_44 : decode rc_N_set 44 = .ok (.putfield 27, 3) := by decide +kernel
theorem rd_N_set_47 : decode rc_N_set 47 = .ok (.return_, 1) := by decide +kernel
theorem rd_N_copy_0 : decode rc_N_copy 0 = .ok (.aload_n 0, 1) := by decide +kernel
theorem rd_N_copy_1 : decode rc_N_copy 1 = .ok (.aload_n 1, 1) := by decide +kernel
theorem rd_N_copy_2 : decode rc_N_copy 2 = .ok (.getfield 19, 3) := by decide +kernel
theorem rd_N_copy_5 : decode rc_N_copy 5 = .ok (.putfield 19, 3) := by decide +kernel
theorem rd_N_copy_8 : decode rc_N_copy 8 = .ok (.aload_n 0, 1) := by decide +kernel
theorem rd_N_copy_9 : decode rc_N_copy 9 = .ok (.getfield 10, 3) := by decide +kernel
theorem rd_N_copy_12 : decode rc_N_copy 12 = .ok (.aload_n 1, 1) := by decide +kernel
theorem rd_N_copy_13 : decode rc_N_copy 13 = .ok (.getfield 10, 3) := by decide +kernel
theorem rd_N_copy_16 : decode rc_N_copy 16 = .ok (.invokevirtual 31, 3) := by decide +kernel
theorem rd_N_copy_19 : decode rc_N_copy 19 = .ok (.aload_n 0, 1) := by decide +kernel
theorem rd_N_copy_20 : decode rc_N_copy 20 = .ok (.getfield 16, 3) := by decide +kernel
theorem rd_N_copy_23 : decode rc_N_copy 23 = .ok (.aload_n 1, 1) := by decide +kernel
theorem rd_N_copy_24 : decode rc_N_copy 24 = .ok (.getfield 16, 3) := by decide +kernel
theorem rd_N_copy_27 : decode rc_N_copy 27 = .ok (.invokevirtual 31, 3) := by decide +kernel
theorem rd_N_copy_30 : decode rc_N_copy 30 = .ok (.aload_n 0, 1) := by decide +kernel
theorem rd_N_copy_31 : decode rc_N_copy 31 = .ok (.aload_n 1, 1) := by decide +kernel
theorem rd_N_copy_32 : decode rc_N_copy 32 = .ok (.getfield 27, 3) := by decide +kernel
theorem rd_N_copy_35 : decode rc_N_copy 35 = .ok (.putfield 27, 3) := by decide +kernel
theorem rd_N_copy_38 : decode rc_N_copy 38 = .ok (.return_, 1) := by decide +kernel
theorem rd_N_sign_0 : decode rc_N_sign 0 = .ok (.aload_n 0, 1) := by decide +kernel
theorem rd_N_sign_1 : decode rc_N_sign 1 = .ok (.getfield 10, 3) := by decide +kernel
theorem rd_N_sign_4 : decode rc_N_sign 4 = .ok (.getfield 35, 3) := by decide +kernel
theorem rd_N_sign_7 : decode rc_N_sign 7 = .ok (.ifCond .ne 7, 3) := by decide +kernel
theorem rd_N_sign_10 : decode rc_N_sign 10 = .ok (.iconst 0, 1) := by decide +kernel
theorem rd_N_sign_11 : decode rc_N_sign 11 = .ok (.goto 15, 3) := by decide +kernel
theorem rd_N_sign_14 : decode rc_N_sign 14 = .ok (.aload_n 0, 1) := by decide +kernel
theorem rd_N_sign_15 : decode rc_N_sign 15 = .ok (.getfield 19, 3) := by decide +kernel
theorem rd_N_sign_18 : decode rc_N_sign 18 = .ok (.ifCond .eq 7, 3) := by decide +kernel
theorem rd_N_sign_21 : decode rc_N_sign 21 = .ok (.iconst (-1), 1) := by decide +kernel
theorem rd_N_sign_22 : decode rc_N_sign 22 = .ok (.goto 4, 3) := by decide +kernel
theorem rd_N_sign_25 : decode rc_N_sign 25 = .ok (.iconst 1, 1) := by decide +kernel
theorem rd_N_sign_26 : decode rc_N_sign 26 = .ok (.ireturn, 1) := by decide +kernel
theorem rd_N_setFloat_0 : decode rc_N_setFloat 0 = .ok (.lload_n 1, 1) := by decide +kernel
theorem rd_N_setFloat_1 : decode rc_N_setFloat 1 = .ok (.bipush 52, 2) := by decide +kernel
theorem rd_N_setFloat_3 : decode rc_N_setFloat 3 = .ok (.lushr, 1) := by decide +kernel
theorem rd_N_setFloat_4 : decode rc_N_setFloat 4 = .ok (.ldc2_w 38, 3) := by decide +kernel
theorem rd_N_setFloat_7 : decode rc_N_setFloat 7 = .ok (.land, 1) := by decide +kernel
theorem rd_N_setFloat_8 : decode rc_N_setFloat 8 = .ok (.lstore_n 3, 1) := by decide +kernel
theorem rd_N_setFloat_9 : decode rc_N_setFloat 9 = .ok (.lload_n 1, 1) := by decide +kernel
theorem rd_N_setFloat_10 : decode rc_N_setFloat 10 = .ok (.ldc2_w 40, 3) := by decide +kernel
theorem rd_N_setFloat_13 : decode rc_N_setFloat 13 = .ok (.land, 1) := by decide +kernel
theorem rd_N_setFloat_14 : decode rc_N_setFloat 14 = .ok (.lstore 5, 2) := by decide +kernel
theorem rd_N_setFloat_16 : decode rc_N_setFloat 16 = .ok (.aload_n 0, 1) := by decide +kernel
theorem rd_N_setFloat_17 : decode rc_N_setFloat 17 = .ok (.lload_n 1, 1) := by decide +kernel
theorem rd_N_setFloat_18 : decode rc_N_setFloat 18 = .ok (.lconst 0, 1) := by decide +kernel
theorem rd_N_setFloat_19 : decode rc_N_setFloat 19 = .ok (.lcmp, 1) := by decide +kernel
theorem rd_N_setFloat_20 : decode rc_N_setFloat 20 = .ok (.ifCond .ge 7, 3) := by decide +kernel
theorem rd_N_setFloat_23 : decode rc_N_setFloat 23 = .ok (.iconst 1, 1) := by decide +kernel
theorem rd_N_setFloat_24 : decode rc_N_setFloat 24 = .ok (.goto 4, 3) := by decide +kernel
theorem rd_N_setFloat_27 : decode rc_N_setFloat 27 = .ok (.iconst 0, 1) := by decide +kernel
theorem rd_N_setFloat_28 : decode rc_N_setFloat 28 = .ok (.putfield 19, 3) := by decide +kernel
theorem rd_N_setFloat_31 : decode rc_N_setFloat 31 = .ok (.aload_n 0, 1) := by decide +kernel
theorem rd_N_setFloat_32 : decode rc_N_setFloat 32 = .ok (.getfield 10, 3) := by decide +kernel
theorem rd_N_setFloat_35 : decode rc_N_setFloat 35 = .ok (.lload_n 3, 1) := by decide +kernel
theorem rd_N_setFloat_36 : decode rc_N_setFloat 36 = .ok (.lconst 0, 1) := by decide +kernel
theorem rd_N_setFloat_37 : decode rc_N_setFloat 37 = .ok (.lcmp, 1) := by decide +kernel
theorem rd_N_setFloat_38 : decode rc_N_setFloat 38 = .ok (.ifCond .ne 8, 3) := by decide +kernel
theorem rd_N_setFloat_41 : decode rc_N_setFloat 41 = .ok (.lload 5, 2) := by decide +kernel
theorem rd_N_setFloat_43 : decode rc_N_setFloat 43 = .ok (.goto 9, 3) := by decide +kernel
theorem rd_N_setFloat_46 : decode rc_N_setFloat 46 = .ok (.lload 5, 2) := by decide +kernel
theorem rd_N_setFloat_48 : decode rc_N_setFloat 48 = .ok (.ldc2_w 42, 3) := by decide +kernel
theorem rd_N_setFloat_51 : decode rc_N_setFloat 51 = .ok (.lor, 1) := by decide +kernel
theorem rd_N_setFloat_52 : decode rc_N_setFloat 52 = .ok (.invokevirtual 23, 3) := by decide +kernel
theorem rd_N_setFloat_55 : decode rc_N_setFloat 55 = .ok (.aload_n 0, 1) := by decide +kernel
theorem rd_N_setFloat_56 : decode rc_N_setFloat 56 = .ok (.getfield 16, 3) := by decide +kernel
theorem rd_N_setFloat_59 : decode rc_N_setFloat 59 = .ok (.lconst 1, 1) := by decide +kernel
theorem rd_N_setFloat_60 : decode rc_N_setFloat 60 = .ok (.invokevirtual 23, 3) := by decide +kernel
theorem rd_N_setFloat_63 : decode rc_N_setFloat 63 = .ok (.aload_n 0, 1) := by decide +kernel
theorem rd_N_setFloat_64 : decode rc_N_setFloat 64 = .ok (.lload_n 3, 1) := by decide +kernel
theorem rd_N_setFloat_65 : decode rc_N_setFloat 65 = .ok (.lconst 0, 1) := by decide +kernel
theorem rd_N_setFloat_66 : decode rc_N_setFloat 66 = .ok (.lcmp, 1) := by decide +kernel
theorem rd_N_setFloat_67 : decode rc_N_setFloat 67 = .ok (.ifCond .ne 9, 3) := by decide +kernel
theorem rd_N_setFloat_70 : decode rc_N_setFloat 70 = .ok (.sipush (-1074), 3) := by decide +kernel
theorem rd_N_setFloat_73 : decode rc_N_setFloat 73 = .ok (.goto 9, 3) := by decide +kernel
theorem rd_N_setFloat_76 : decode rc_N_setFloat 76 = .ok (.lload_n 3, 1) := by decide +kernel
theorem rd_N_setFloat_77 : decode rc_N_setFloat 77 = .ok (.l2i, 1) := by decide +kernel
theorem rd_N_setFloat_78 : decode rc_N_setFloat 78 = .ok (.sipush 1075, 3) := by decide +kernel
theorem rd_N_setFloat_81 : decode rc_N_setFloat 81 = .ok (.isub, 1) := by decide +kernel
theorem rd_N_setFloat_82 : decode rc_N_setFloat 82 = .ok (.putfield 27, 3) := by decide +kernel
theorem rd_N_setFloat_85 : decode rc_N_setFloat 85 = .ok (.return_, 1) := by decide +kernel
end
