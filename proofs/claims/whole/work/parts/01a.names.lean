/-! ===== BEGIN words of one list among another's, by their places ===== -/
theorem goodIn_r {big : List Cond} (ws : List Cond) (ps : List Nat) (hp : ws = ps.filterMap (fun i => big[i]?)) (h : ws.all goodWord = true) : GoodIn big ws := by
  intro w hw
  have h1 := List.all_eq_true.mp h w hw
  rw [hp] at hw
  obtain ⟨i, -, hi⟩ := List.mem_filterMap.mp hw
  have hm : w ∈ big := by first | exact List.mem_of_getElem? hi | exact List.getElem?_mem hi
  exact ⟨hm, good_of_word h1⟩
theorem goodIn_app {big a b : List Cond} (ha : GoodIn big a) (hb : GoodIn big b) : GoodIn big (a ++ b) := fun w h => (List.mem_append.mp h).elim (ha w) (hb w)
theorem goodIn_ca {big a b : List Cond} {c : Cond} (ha : GoodIn big (c :: a)) (hb : GoodIn big b) : GoodIn big (c :: (a ++ b)) := fun w h => (List.mem_cons.mp h).elim (fun e => ha w (List.mem_cons.mpr (Or.inl e))) (fun h => (List.mem_append.mp h).elim (fun h => ha w (List.mem_cons.mpr (Or.inr h))) (hb w))
theorem goodIn_sub {big ws : List Cond} (hm : ∀ w ∈ ws, w ∈ big) (h : ws.all goodWord = true) : GoodIn big ws := fun w hw => ⟨hm w hw, good_of_word (List.all_eq_true.mp h w hw)⟩
/-! ===== END ===== -/

/-! ===== BEGIN printed: names, fields, word lists, decode rows ===== -/
def RX0 : String := "ExactFractions$Fraction"
def TX0 : u_T := fun k => match k with
  | 0 => ("ExactFractions$Fraction", "above", "LExactFractions$Whole;", false)
  | 1 => ("ExactFractions$Fraction", "under", "LExactFractions$Whole;", false)
  | 2 => ("ExactFractions$Fraction", "below", "Z", false)
  | _ => ("ExactFractions$Fraction", "exponent", "I", false)
def tyX0 : Nat → FieldType := fun k => match k with
  | 0 => .object "ExactFractions$Whole"
  | 1 => .object "ExactFractions$Whole"
  | 2 => .boolean
  | _ => .int
abbrev wsX00 : List Cond := u_ws RX0 TX0 4
theorem nmX0 : ∀ a, a < 4 → ∀ b, b < 4 → a ≠ b → (TX0 a).2.1 ≠ (TX0 b).2.1 := by decide +kernel
theorem tyX0_ok : ∀ k, k < 4 → parseFieldDescriptor (TX0 k).2.2.1 = some (tyX0 k) := by decide +kernel
abbrev cX0_init : ByteArray := prog_2_method_1_code
def yX0_init : MethodName := ⟨RX0, "<init>", "()V"⟩
abbrev cX0_restart : ByteArray := prog_2_method_2_code
def yX0_restart : MethodName := ⟨RX0, "restart", "()V"⟩
abbrev cX0_flip : ByteArray := prog_2_method_3_code
def yX0_flip : MethodName := ⟨RX0, "flip", "()V"⟩
abbrev cX0_sign : ByteArray := prog_2_method_4_code
def yX0_sign : MethodName := ⟨RX0, "sign", "()I"⟩
abbrev cX0_rank : ByteArray := prog_2_method_5_code
def yX0_rank : MethodName := ⟨RX0, "rank", "()I"⟩
def RX1 : String := "ExactFractions$Whole"
def TX1 : u_T := fun k => match k with
  | 0 => ("ExactFractions$Whole", "words", "[I", true)
  | _ => ("ExactFractions$Whole", "used", "I", false)
def tyX1 : Nat → FieldType := fun k => match k with
  | 0 => .array .int
  | _ => .int
abbrev wsX10 : List Cond := u_ws RX1 TX1 2
theorem nmX1 : ∀ a, a < 2 → ∀ b, b < 2 → a ≠ b → (TX1 a).2.1 ≠ (TX1 b).2.1 := by decide +kernel
theorem tyX1_ok : ∀ k, k < 2 → parseFieldDescriptor (TX1 k).2.2.1 = some (tyX1 k) := by decide +kernel
abbrev cX1_init : ByteArray := prog_3_method_1_code
def yX1_init : MethodName := ⟨RX1, "<init>", "()V"⟩
abbrev cX1_wordAt : ByteArray := prog_3_method_2_code
def yX1_wordAt : MethodName := ⟨RX1, "wordAt", "(I)I"⟩
abbrev cX1_valueAt : ByteArray := prog_3_method_3_code
def yX1_valueAt : MethodName := ⟨RX1, "valueAt", "(I)J"⟩
abbrev cX1_put : ByteArray := prog_3_method_4_code
def yX1_put : MethodName := ⟨RX1, "put", "(IJ)V"⟩
abbrev cX1_settle : ByteArray := prog_3_method_5_code
def yX1_settle : MethodName := ⟨RX1, "settle", "(I)V"⟩
abbrev cX1_isZero : ByteArray := prog_3_method_6_code
def yX1_isZero : MethodName := ⟨RX1, "isZero", "()Z"⟩
abbrev cX1_length : ByteArray := prog_3_method_7_code
def yX1_length : MethodName := ⟨RX1, "length", "()I"⟩
abbrev cX1_order : ByteArray := prog_3_method_8_code
def yX1_order : MethodName := ⟨RX1, "order", "(LExactFractions$Whole;)I"⟩
abbrev cX1_become : ByteArray := prog_3_method_9_code
def yX1_become : MethodName := ⟨RX1, "become", "(J)V"⟩
abbrev cX1_copy : ByteArray := prog_3_method_10_code
def yX1_copy : MethodName := ⟨RX1, "copy", "(LExactFractions$Whole;)V"⟩
abbrev cX1_becomeMultiple : ByteArray := prog_3_method_11_code
def yX1_becomeMultiple : MethodName := ⟨RX1, "becomeMultiple", "(LExactFractions$Whole;II)V"⟩
abbrev cX1_becomeSum : ByteArray := prog_3_method_12_code
def yX1_becomeSum : MethodName := ⟨RX1, "becomeSum", "(LExactFractions$Whole;LExactFractions$Whole;)V"⟩
abbrev cX1_becomeDifference : ByteArray := prog_3_method_13_code
def yX1_becomeDifference : MethodName := ⟨RX1, "becomeDifference", "(LExactFractions$Whole;LExactFractions$Whole;)V"⟩
abbrev cX1_becomeProduct : ByteArray := prog_3_method_14_code
def yX1_becomeProduct : MethodName := ⟨RX1, "becomeProduct", "(LExactFractions$Whole;LExactFractions$Whole;)V"⟩
abbrev cX1_addMultiple : ByteArray := prog_3_method_15_code
def yX1_addMultiple : MethodName := ⟨RX1, "addMultiple", "(LExactFractions$Whole;JI)V"⟩
abbrev cX1_shiftUp : ByteArray := prog_3_method_16_code
def yX1_shiftUp : MethodName := ⟨RX1, "shiftUp", "(I)V"⟩
def RX2 : String := "ExactFractions"
def TX2 : u_T := fun k => match k with
  | 0 => ("ExactFractions", "first", "LExactFractions$Fraction;", true)
  | 1 => ("ExactFractions", "second", "LExactFractions$Fraction;", true)
  | 2 => ("ExactFractions", "left", "LExactFractions$Whole;", true)
  | _ => ("ExactFractions", "right", "LExactFractions$Whole;", true)
def tyX2 : Nat → FieldType := fun k => match k with
  | 0 => .object "ExactFractions$Fraction"
  | 1 => .object "ExactFractions$Fraction"
  | 2 => .object "ExactFractions$Whole"
  | _ => .object "ExactFractions$Whole"
abbrev wsX20 : List Cond := u_ws RX2 TX2 4
theorem nmX2 : ∀ a, a < 4 → ∀ b, b < 4 → a ≠ b → (TX2 a).2.1 ≠ (TX2 b).2.1 := by decide +kernel
theorem tyX2_ok : ∀ k, k < 4 → parseFieldDescriptor (TX2 k).2.2.1 = some (tyX2 k) := by decide +kernel
abbrev cX2_init : ByteArray := prog_1_method_1_code
def yX2_init : MethodName := ⟨RX2, "<init>", "()V"⟩
abbrev cX2_begin : ByteArray := prog_1_method_2_code
def yX2_begin : MethodName := ⟨RX2, "begin", "(I)I"⟩
abbrev cX2_digit : ByteArray := prog_1_method_3_code
def yX2_digit : MethodName := ⟨RX2, "digit", "(IIII)I"⟩
abbrev cX2_set : ByteArray := prog_1_method_4_code
def yX2_set : MethodName := ⟨RX2, "set", "(IIJ)I"⟩
abbrev cX2_scale : ByteArray := prog_1_method_5_code
def yX2_scale : MethodName := ⟨RX2, "scale", "(IZI)I"⟩
abbrev cX2_turn : ByteArray := prog_1_method_6_code
def yX2_turn : MethodName := ⟨RX2, "turn", "(I)I"⟩
abbrev cX2_move : ByteArray := prog_1_method_7_code
def yX2_move : MethodName := ⟨RX2, "move", "(IZ)I"⟩
abbrev cX2_bits : ByteArray := prog_1_method_8_code
def yX2_bits : MethodName := ⟨RX2, "bits", "(II)I"⟩
abbrev cX2_word : ByteArray := prog_1_method_9_code
def yX2_word : MethodName := ⟨RX2, "word", "(III)I"⟩
abbrev cX2_compare : ByteArray := prog_1_method_10_code
def yX2_compare : MethodName := ⟨RX2, "compare", "()I"⟩
abbrev cX2_round : ByteArray := prog_1_method_11_code
def yX2_round : MethodName := ⟨RX2, "round", "(IZ)J"⟩
abbrev cX2_numberOf : ByteArray := prog_1_method_12_code
def yX2_numberOf : MethodName := ⟨RX2, "numberOf", "(I)LExactFractions$Fraction;"⟩
abbrev cX2_partOf : ByteArray := prog_1_method_13_code
def yX2_partOf : MethodName := ⟨RX2, "partOf", "(II)LExactFractions$Whole;"⟩
abbrev cX2_keepLeftIn : ByteArray := prog_1_method_14_code
def yX2_keepLeftIn : MethodName := ⟨RX2, "keepLeftIn", "(LExactFractions$Whole;)I"⟩
abbrev cX2_orderOfSizes : ByteArray := prog_1_method_15_code
def yX2_orderOfSizes : MethodName := ⟨RX2, "orderOfSizes", "()I"⟩
abbrev cX2_alignTops : ByteArray := prog_1_method_16_code
def yX2_alignTops : MethodName := ⟨RX2, "alignTops", "(I)V"⟩
abbrev cX2_roundedSize : ByteArray := prog_1_method_17_code
def yX2_roundedSize : MethodName := ⟨RX2, "roundedSize", "(LExactFractions$Fraction;Z)J"⟩
abbrev cX2_layOut : ByteArray := prog_1_method_18_code
def yX2_layOut : MethodName := ⟨RX2, "layOut", "(LExactFractions$Fraction;)I"⟩
abbrev cX2_quotient : ByteArray := prog_1_method_19_code
def yX2_quotient : MethodName := ⟨RX2, "quotient", "(I)J"⟩
def RJ9 : String := "java/lang/Math"
def TJ9 : u_T := fun k => match k with
  | _ => ("", "", "", false)
def tyJ9 : Nat → FieldType := fun k => match k with
  | _ => .int
theorem nmJ9 : ∀ a, a < 0 → ∀ b, b < 0 → a ≠ b → (TJ9 a).2.1 ≠ (TJ9 b).2.1 := by decide +kernel
theorem tyJ9_ok : ∀ k, k < 0 → parseFieldDescriptor (TJ9 k).2.2.1 = some (tyJ9 k) := by decide +kernel
abbrev cJ9_max_7cf53 : ByteArray := prog_8_method_65_code
def yJ9_max_7cf53 : MethodName := ⟨RJ9, "max", "(II)I"⟩
abbrev cJ9_min_7cf53 : ByteArray := prog_8_method_69_code
def yJ9_min_7cf53 : MethodName := ⟨RJ9, "min", "(II)I"⟩
def RL : String := "ExactFractionsLaw"
abbrev cL_law : ByteArray := code
def yL_law : MethodName := ⟨RL, "law", "([I)Z"⟩
def wsX1_init : List Cond := .code yX1_init cX1_init 1 none :: ([.methodLink RX1 3 objectInit, .instanceMethod objectInit, .code objectInit ⟨#[0xb1]⟩ 1 none, .arrayClass .int, .fieldLink RX1 9 "ExactFractions$Whole" "words" "[I", .fieldLink RX1 15 "ExactFractions$Whole" "used" "I"] ++ wsX10)
def wsX1_put : List Cond := .code yX1_put cX1_put 4 none :: ([.fieldLink RX1 9 "ExactFractions$Whole" "words" "[I"] ++ wsX10)
def wsX1_wordAt : List Cond := .code yX1_wordAt cX1_wordAt 2 (some .int) :: ([.fieldLink RX1 9 "ExactFractions$Whole" "words" "[I"] ++ wsX10)
def wsX1_settle : List Cond := .code yX1_settle cX1_settle 3 none :: ([.fieldLink RX1 15 "ExactFractions$Whole" "used" "I", .fieldLink RX1 9 "ExactFractions$Whole" "words" "[I", .methodLink RX1 29 Lib.Math.min.name, .static Lib.Math.min.name, .initialized "java/lang/Math", .code Lib.Math.min.name Lib.Math.min.code 2 (some .int), .methodLink RX1 25 yX1_put, .instanceMethod yX1_put, .selects RX1 yX1_put yX1_put, .initialized RX1, .code yX1_put cX1_put 4 none, .methodLink RX1 19 yX1_wordAt, .instanceMethod yX1_wordAt, .selects RX1 yX1_wordAt yX1_wordAt, .code yX1_wordAt cX1_wordAt 2 (some .int)] ++ wsX10)
def wsX1_become : List Cond := .code yX1_become cX1_become 3 none :: ([.methodLink RX1 25 yX1_put, .instanceMethod yX1_put, .selects RX1 yX1_put yX1_put, .initialized RX1, .code yX1_put cX1_put 4 none, .fieldLink RX1 9 "ExactFractions$Whole" "words" "[I", .methodLink RX1 46 yX1_settle, .instanceMethod yX1_settle, .selects RX1 yX1_settle yX1_settle, .code yX1_settle cX1_settle 3 none, .fieldLink RX1 15 "ExactFractions$Whole" "used" "I", .methodLink RX1 29 Lib.Math.min.name, .static Lib.Math.min.name, .initialized "java/lang/Math", .code Lib.Math.min.name Lib.Math.min.code 2 (some .int), .methodLink RX1 19 yX1_wordAt, .instanceMethod yX1_wordAt, .selects RX1 yX1_wordAt yX1_wordAt, .code yX1_wordAt cX1_wordAt 2 (some .int)] ++ wsX10)
def wsX0_restart_r1 : List Cond := [Cond.fieldLink RX0 10 "ExactFractions$Fraction" "above" "LExactFractions$Whole;", Cond.fieldLink RX0 16 "ExactFractions$Fraction" "under" "LExactFractions$Whole;", Cond.fieldLink RX0 26 "ExactFractions$Fraction" "below" "Z", Cond.fieldLink RX0 30 "ExactFractions$Fraction" "exponent" "I", Cond.methodLink RX0 22 yX1_become, Cond.instanceMethod yX1_become, Cond.selects RX1 yX1_become yX1_become, Cond.initialized RX1, Cond.code yX1_become cX1_become 3 none, Cond.methodLink RX1 25 yX1_put, Cond.instanceMethod yX1_put, Cond.selects RX1 yX1_put yX1_put, Cond.code yX1_put cX1_put 4 none, Cond.fieldLink RX1 9 "ExactFractions$Whole" "words" "[I", Cond.methodLink RX1 46 yX1_settle, Cond.instanceMethod yX1_settle, Cond.selects RX1 yX1_settle yX1_settle, Cond.code yX1_settle cX1_settle 3 none, Cond.fieldLink RX1 15 "ExactFractions$Whole" "used" "I", Cond.methodLink RX1 29 Lib.Math.min.name, Cond.static Lib.Math.min.name, Cond.initialized "java/lang/Math", Cond.code Lib.Math.min.name Lib.Math.min.code 2 (some .int), Cond.methodLink RX1 19 yX1_wordAt]
def wsX0_restart_r2 : List Cond := [Cond.instanceMethod yX1_wordAt, Cond.selects RX1 yX1_wordAt yX1_wordAt, Cond.code yX1_wordAt cX1_wordAt 2 (some .int)]
def wsX0_restart : List Cond := .code yX0_restart cX0_restart 1 none :: ((wsX0_restart_r1 ++ wsX0_restart_r2) ++ wsX00 ++ wsX10)
def wsX0_init_r1 : List Cond := [Cond.methodLink RX0 1 objectInit, Cond.instanceMethod objectInit, Cond.code objectInit ⟨#[0xb1]⟩ 1 none, Cond.classLink RX0 7 RX1, Cond.instantiable RX1 2, Cond.initialized RX1, Cond.fieldLink RX0 10 "ExactFractions$Fraction" "above" "LExactFractions$Whole;", Cond.fieldLink RX0 16 "ExactFractions$Fraction" "under" "LExactFractions$Whole;", Cond.methodLink RX0 9 yX1_init, Cond.instanceMethod yX1_init, Cond.code yX1_init cX1_init 1 none, Cond.methodLink RX1 3 objectInit, Cond.arrayClass .int, Cond.fieldLink RX1 9 "ExactFractions$Whole" "words" "[I", Cond.fieldLink RX1 15 "ExactFractions$Whole" "used" "I", Cond.methodLink RX0 19 yX0_restart, Cond.instanceMethod yX0_restart, Cond.selects RX0 yX0_restart yX0_restart, Cond.initialized RX0, Cond.code yX0_restart cX0_restart 1 none, Cond.fieldLink RX0 26 "ExactFractions$Fraction" "below" "Z", Cond.fieldLink RX0 30 "ExactFractions$Fraction" "exponent" "I", Cond.methodLink RX0 22 yX1_become, Cond.instanceMethod yX1_become]
def wsX0_init_r2 : List Cond := [Cond.selects RX1 yX1_become yX1_become, Cond.code yX1_become cX1_become 3 none, Cond.methodLink RX1 25 yX1_put, Cond.instanceMethod yX1_put, Cond.selects RX1 yX1_put yX1_put, Cond.code yX1_put cX1_put 4 none, Cond.methodLink RX1 46 yX1_settle, Cond.instanceMethod yX1_settle, Cond.selects RX1 yX1_settle yX1_settle, Cond.code yX1_settle cX1_settle 3 none, Cond.methodLink RX1 29 Lib.Math.min.name, Cond.static Lib.Math.min.name, Cond.initialized "java/lang/Math", Cond.code Lib.Math.min.name Lib.Math.min.code 2 (some .int), Cond.methodLink RX1 19 yX1_wordAt, Cond.instanceMethod yX1_wordAt, Cond.selects RX1 yX1_wordAt yX1_wordAt, Cond.code yX1_wordAt cX1_wordAt 2 (some .int)]
def wsX0_init : List Cond := .code yX0_init cX0_init 1 none :: ((wsX0_init_r1 ++ wsX0_init_r2) ++ wsX10 ++ wsX00)
def wsX0_flip : List Cond := .code yX0_flip cX0_flip 2 none :: ([.fieldLink RX0 10 "ExactFractions$Fraction" "above" "LExactFractions$Whole;", .fieldLink RX0 16 "ExactFractions$Fraction" "under" "LExactFractions$Whole;", .fieldLink RX0 30 "ExactFractions$Fraction" "exponent" "I"] ++ wsX00)
def wsX1_isZero : List Cond := .code yX1_isZero cX1_isZero 1 (some .boolean) :: ([.fieldLink RX1 15 "ExactFractions$Whole" "used" "I"] ++ wsX10)
def wsX0_sign : List Cond := .code yX0_sign cX0_sign 1 (some .int) :: ([.fieldLink RX0 10 "ExactFractions$Fraction" "above" "LExactFractions$Whole;", .fieldLink RX0 26 "ExactFractions$Fraction" "below" "Z", .methodLink RX0 34 yX1_isZero, .instanceMethod yX1_isZero, .selects RX1 yX1_isZero yX1_isZero, .initialized RX1, .code yX1_isZero cX1_isZero 1 (some .boolean), .fieldLink RX1 15 "ExactFractions$Whole" "used" "I"] ++ wsX00 ++ wsX10)
def wsX1_length : List Cond := .code yX1_length cX1_length 3 (some .int) :: ([.fieldLink RX1 15 "ExactFractions$Whole" "used" "I", .methodLink RX1 35 yX1_isZero, .instanceMethod yX1_isZero, .selects RX1 yX1_isZero yX1_isZero, .initialized RX1, .code yX1_isZero cX1_isZero 1 (some .boolean), .methodLink RX1 19 yX1_wordAt, .instanceMethod yX1_wordAt, .selects RX1 yX1_wordAt yX1_wordAt, .code yX1_wordAt cX1_wordAt 2 (some .int), .fieldLink RX1 9 "ExactFractions$Whole" "words" "[I"] ++ wsX10)
def wsX0_rank : List Cond := .code yX0_rank cX0_rank 1 (some .int) :: ([.fieldLink RX0 10 "ExactFractions$Fraction" "above" "LExactFractions$Whole;", .fieldLink RX0 16 "ExactFractions$Fraction" "under" "LExactFractions$Whole;", .fieldLink RX0 30 "ExactFractions$Fraction" "exponent" "I", .methodLink RX0 38 yX1_length, .instanceMethod yX1_length, .selects RX1 yX1_length yX1_length, .initialized RX1, .code yX1_length cX1_length 3 (some .int), .fieldLink RX1 15 "ExactFractions$Whole" "used" "I", .methodLink RX1 35 yX1_isZero, .instanceMethod yX1_isZero, .selects RX1 yX1_isZero yX1_isZero, .code yX1_isZero cX1_isZero 1 (some .boolean), .methodLink RX1 19 yX1_wordAt, .instanceMethod yX1_wordAt, .selects RX1 yX1_wordAt yX1_wordAt, .code yX1_wordAt cX1_wordAt 2 (some .int), .fieldLink RX1 9 "ExactFractions$Whole" "words" "[I"] ++ wsX00 ++ wsX10)
def wsX1_valueAt : List Cond := .code yX1_valueAt cX1_valueAt 2 (some .long) :: ([.constantLong RX1 23 (4294967295), .methodLink RX1 19 yX1_wordAt, .instanceMethod yX1_wordAt, .selects RX1 yX1_wordAt yX1_wordAt, .initialized RX1, .code yX1_wordAt cX1_wordAt 2 (some .int), .fieldLink RX1 9 "ExactFractions$Whole" "words" "[I"] ++ wsX10)
def wsX1_order : List Cond := .code yX1_order cX1_order 5 (some .int) :: ([.fieldLink RX1 15 "ExactFractions$Whole" "used" "I", .methodLink RX1 39 Lib.Math.max.name, .static Lib.Math.max.name, .initialized "java/lang/Math", .code Lib.Math.max.name Lib.Math.max.code 2 (some .int), .methodLink RX1 42 yX1_valueAt, .instanceMethod yX1_valueAt, .selects RX1 yX1_valueAt yX1_valueAt, .initialized RX1, .code yX1_valueAt cX1_valueAt 2 (some .long), .constantLong RX1 23 (4294967295), .methodLink RX1 19 yX1_wordAt, .instanceMethod yX1_wordAt, .selects RX1 yX1_wordAt yX1_wordAt, .code yX1_wordAt cX1_wordAt 2 (some .int), .fieldLink RX1 9 "ExactFractions$Whole" "words" "[I"] ++ wsX10)
def wsX1_copy : List Cond := .code yX1_copy cX1_copy 3 none :: ([.fieldLink RX1 15 "ExactFractions$Whole" "used" "I", .methodLink RX1 19 yX1_wordAt, .instanceMethod yX1_wordAt, .selects RX1 yX1_wordAt yX1_wordAt, .initialized RX1, .code yX1_wordAt cX1_wordAt 2 (some .int), .fieldLink RX1 9 "ExactFractions$Whole" "words" "[I", .methodLink RX1 25 yX1_put, .instanceMethod yX1_put, .selects RX1 yX1_put yX1_put, .code yX1_put cX1_put 4 none, .methodLink RX1 46 yX1_settle, .instanceMethod yX1_settle, .selects RX1 yX1_settle yX1_settle, .code yX1_settle cX1_settle 3 none, .methodLink RX1 29 Lib.Math.min.name, .static Lib.Math.min.name, .initialized "java/lang/Math", .code Lib.Math.min.name Lib.Math.min.code 2 (some .int)] ++ wsX10)
def wsX1_becomeMultiple : List Cond := .code yX1_becomeMultiple cX1_becomeMultiple 7 none :: ([.fieldLink RX1 15 "ExactFractions$Whole" "used" "I", .methodLink RX1 42 yX1_valueAt, .instanceMethod yX1_valueAt, .selects RX1 yX1_valueAt yX1_valueAt, .initialized RX1, .code yX1_valueAt cX1_valueAt 2 (some .long), .constantLong RX1 23 (4294967295), .methodLink RX1 19 yX1_wordAt, .instanceMethod yX1_wordAt, .selects RX1 yX1_wordAt yX1_wordAt, .code yX1_wordAt cX1_wordAt 2 (some .int), .fieldLink RX1 9 "ExactFractions$Whole" "words" "[I", .methodLink RX1 25 yX1_put, .instanceMethod yX1_put, .selects RX1 yX1_put yX1_put, .code yX1_put cX1_put 4 none, .methodLink RX1 46 yX1_settle, .instanceMethod yX1_settle, .selects RX1 yX1_settle yX1_settle, .code yX1_settle cX1_settle 3 none, .methodLink RX1 29 Lib.Math.min.name, .static Lib.Math.min.name, .initialized "java/lang/Math", .code Lib.Math.min.name Lib.Math.min.code 2 (some .int)] ++ wsX10)
def wsX1_becomeSum_r1 : List Cond := [Cond.fieldLink RX1 15 "ExactFractions$Whole" "used" "I", Cond.methodLink RX1 39 Lib.Math.max.name, Cond.static Lib.Math.max.name, Cond.initialized "java/lang/Math", Cond.code Lib.Math.max.name Lib.Math.max.code 2 (some .int), Cond.methodLink RX1 42 yX1_valueAt, Cond.instanceMethod yX1_valueAt, Cond.selects RX1 yX1_valueAt yX1_valueAt, Cond.initialized RX1, Cond.code yX1_valueAt cX1_valueAt 2 (some .long), Cond.constantLong RX1 23 (4294967295), Cond.methodLink RX1 19 yX1_wordAt, Cond.instanceMethod yX1_wordAt, Cond.selects RX1 yX1_wordAt yX1_wordAt, Cond.code yX1_wordAt cX1_wordAt 2 (some .int), Cond.fieldLink RX1 9 "ExactFractions$Whole" "words" "[I", Cond.methodLink RX1 25 yX1_put, Cond.instanceMethod yX1_put, Cond.selects RX1 yX1_put yX1_put, Cond.code yX1_put cX1_put 4 none, Cond.methodLink RX1 46 yX1_settle, Cond.instanceMethod yX1_settle, Cond.selects RX1 yX1_settle yX1_settle, Cond.code yX1_settle cX1_settle 3 none]
def wsX1_becomeSum_r2 : List Cond := [Cond.methodLink RX1 29 Lib.Math.min.name, Cond.static Lib.Math.min.name, Cond.code Lib.Math.min.name Lib.Math.min.code 2 (some .int)]
def wsX1_becomeSum : List Cond := .code yX1_becomeSum cX1_becomeSum 7 none :: ((wsX1_becomeSum_r1 ++ wsX1_becomeSum_r2) ++ wsX10)
def wsX1_becomeDifference : List Cond := .code yX1_becomeDifference cX1_becomeDifference 6 none :: ([.fieldLink RX1 15 "ExactFractions$Whole" "used" "I", .methodLink RX1 42 yX1_valueAt, .instanceMethod yX1_valueAt, .selects RX1 yX1_valueAt yX1_valueAt, .initialized RX1, .code yX1_valueAt cX1_valueAt 2 (some .long), .constantLong RX1 23 (4294967295), .methodLink RX1 19 yX1_wordAt, .instanceMethod yX1_wordAt, .selects RX1 yX1_wordAt yX1_wordAt, .code yX1_wordAt cX1_wordAt 2 (some .int), .fieldLink RX1 9 "ExactFractions$Whole" "words" "[I", .methodLink RX1 25 yX1_put, .instanceMethod yX1_put, .selects RX1 yX1_put yX1_put, .code yX1_put cX1_put 4 none, .methodLink RX1 46 yX1_settle, .instanceMethod yX1_settle, .selects RX1 yX1_settle yX1_settle, .code yX1_settle cX1_settle 3 none, .methodLink RX1 29 Lib.Math.min.name, .static Lib.Math.min.name, .initialized "java/lang/Math", .code Lib.Math.min.name Lib.Math.min.code 2 (some .int)] ++ wsX10)
def wsX1_addMultiple : List Cond := .code yX1_addMultiple cX1_addMultiple 8 none :: ([.fieldLink RX1 15 "ExactFractions$Whole" "used" "I", .methodLink RX1 42 yX1_valueAt, .instanceMethod yX1_valueAt, .selects RX1 yX1_valueAt yX1_valueAt, .initialized RX1, .code yX1_valueAt cX1_valueAt 2 (some .long), .constantLong RX1 23 (4294967295), .methodLink RX1 19 yX1_wordAt, .instanceMethod yX1_wordAt, .selects RX1 yX1_wordAt yX1_wordAt, .code yX1_wordAt cX1_wordAt 2 (some .int), .fieldLink RX1 9 "ExactFractions$Whole" "words" "[I", .methodLink RX1 25 yX1_put, .instanceMethod yX1_put, .selects RX1 yX1_put yX1_put, .code yX1_put cX1_put 4 none] ++ wsX10)
def wsX1_becomeProduct_r1 : List Cond := [Cond.fieldLink RX1 15 "ExactFractions$Whole" "used" "I", Cond.methodLink RX1 46 yX1_settle, Cond.instanceMethod yX1_settle, Cond.selects RX1 yX1_settle yX1_settle, Cond.initialized RX1, Cond.code yX1_settle cX1_settle 3 none, Cond.fieldLink RX1 9 "ExactFractions$Whole" "words" "[I", Cond.methodLink RX1 29 Lib.Math.min.name, Cond.static Lib.Math.min.name, Cond.initialized "java/lang/Math", Cond.code Lib.Math.min.name Lib.Math.min.code 2 (some .int), Cond.methodLink RX1 25 yX1_put, Cond.instanceMethod yX1_put, Cond.selects RX1 yX1_put yX1_put, Cond.code yX1_put cX1_put 4 none, Cond.methodLink RX1 19 yX1_wordAt, Cond.instanceMethod yX1_wordAt, Cond.selects RX1 yX1_wordAt yX1_wordAt, Cond.code yX1_wordAt cX1_wordAt 2 (some .int), Cond.methodLink RX1 42 yX1_valueAt, Cond.instanceMethod yX1_valueAt, Cond.selects RX1 yX1_valueAt yX1_valueAt, Cond.code yX1_valueAt cX1_valueAt 2 (some .long), Cond.constantLong RX1 23 (4294967295)]
def wsX1_becomeProduct_r2 : List Cond := [Cond.methodLink RX1 50 yX1_addMultiple, Cond.instanceMethod yX1_addMultiple, Cond.selects RX1 yX1_addMultiple yX1_addMultiple, Cond.code yX1_addMultiple cX1_addMultiple 8 none]
def wsX1_becomeProduct : List Cond := .code yX1_becomeProduct cX1_becomeProduct 4 none :: ((wsX1_becomeProduct_r1 ++ wsX1_becomeProduct_r2) ++ wsX10)
def wsX1_shiftUp : List Cond := .code yX1_shiftUp cX1_shiftUp 8 none :: ([.fieldLink RX1 15 "ExactFractions$Whole" "used" "I", .methodLink RX1 42 yX1_valueAt, .instanceMethod yX1_valueAt, .selects RX1 yX1_valueAt yX1_valueAt, .initialized RX1, .code yX1_valueAt cX1_valueAt 2 (some .long), .constantLong RX1 23 (4294967295), .methodLink RX1 19 yX1_wordAt, .instanceMethod yX1_wordAt, .selects RX1 yX1_wordAt yX1_wordAt, .code yX1_wordAt cX1_wordAt 2 (some .int), .fieldLink RX1 9 "ExactFractions$Whole" "words" "[I", .methodLink RX1 25 yX1_put, .instanceMethod yX1_put, .selects RX1 yX1_put yX1_put, .code yX1_put cX1_put 4 none, .methodLink RX1 46 yX1_settle, .instanceMethod yX1_settle, .selects RX1 yX1_settle yX1_settle, .code yX1_settle cX1_settle 3 none, .methodLink RX1 29 Lib.Math.min.name, .static Lib.Math.min.name, .initialized "java/lang/Math", .code Lib.Math.min.name Lib.Math.min.code 2 (some .int)] ++ wsX10)
def wsX2_init_r1 : List Cond := [Cond.methodLink RX2 3 objectInit, Cond.instanceMethod objectInit, Cond.code objectInit ⟨#[0xb1]⟩ 1 none, Cond.classLink RX2 9 RX0, Cond.instantiable RX0 4, Cond.initialized RX0, Cond.fieldLink RX2 12 "ExactFractions" "first" "LExactFractions$Fraction;", Cond.fieldLink RX2 16 "ExactFractions" "second" "LExactFractions$Fraction;", Cond.classLink RX2 19 RX1, Cond.instantiable RX1 2, Cond.initialized RX1, Cond.fieldLink RX2 22 "ExactFractions" "left" "LExactFractions$Whole;", Cond.fieldLink RX2 26 "ExactFractions" "right" "LExactFractions$Whole;", Cond.methodLink RX2 11 yX0_init, Cond.instanceMethod yX0_init, Cond.code yX0_init cX0_init 1 none, Cond.methodLink RX0 1 objectInit, Cond.classLink RX0 7 RX1, Cond.fieldLink RX0 10 "ExactFractions$Fraction" "above" "LExactFractions$Whole;", Cond.fieldLink RX0 16 "ExactFractions$Fraction" "under" "LExactFractions$Whole;", Cond.methodLink RX0 9 yX1_init, Cond.instanceMethod yX1_init, Cond.code yX1_init cX1_init 1 none, Cond.methodLink RX1 3 objectInit]
def wsX2_init_r2 : List Cond := [Cond.arrayClass .int, Cond.fieldLink RX1 9 "ExactFractions$Whole" "words" "[I", Cond.fieldLink RX1 15 "ExactFractions$Whole" "used" "I", Cond.methodLink RX0 19 yX0_restart, Cond.instanceMethod yX0_restart, Cond.selects RX0 yX0_restart yX0_restart, Cond.code yX0_restart cX0_restart 1 none, Cond.fieldLink RX0 26 "ExactFractions$Fraction" "below" "Z", Cond.fieldLink RX0 30 "ExactFractions$Fraction" "exponent" "I", Cond.methodLink RX0 22 yX1_become, Cond.instanceMethod yX1_become, Cond.selects RX1 yX1_become yX1_become, Cond.code yX1_become cX1_become 3 none, Cond.methodLink RX1 25 yX1_put, Cond.instanceMethod yX1_put, Cond.selects RX1 yX1_put yX1_put, Cond.code yX1_put cX1_put 4 none, Cond.methodLink RX1 46 yX1_settle, Cond.instanceMethod yX1_settle, Cond.selects RX1 yX1_settle yX1_settle, Cond.code yX1_settle cX1_settle 3 none, Cond.methodLink RX1 29 Lib.Math.min.name, Cond.static Lib.Math.min.name, Cond.initialized "java/lang/Math"]
def wsX2_init_r3 : List Cond := [Cond.code Lib.Math.min.name Lib.Math.min.code 2 (some .int), Cond.methodLink RX1 19 yX1_wordAt, Cond.instanceMethod yX1_wordAt, Cond.selects RX1 yX1_wordAt yX1_wordAt, Cond.code yX1_wordAt cX1_wordAt 2 (some .int), Cond.methodLink RX2 21 yX1_init]
def wsX2_init : List Cond := .code yX2_init cX2_init 1 none :: ((wsX2_init_r1 ++ (wsX2_init_r2 ++ wsX2_init_r3)) ++ wsX00 ++ wsX20 ++ wsX10)
def wsX2_numberOf : List Cond := .code yX2_numberOf cX2_numberOf 2 (some (.object "ExactFractions$Fraction")) :: ([.fieldLink RX2 12 "ExactFractions" "first" "LExactFractions$Fraction;", .fieldLink RX2 16 "ExactFractions" "second" "LExactFractions$Fraction;"] ++ wsX20)
def wsX2_begin_r1 : List Cond := [Cond.methodLink RX2 29 yX2_numberOf, Cond.instanceMethod yX2_numberOf, Cond.selects RX2 yX2_numberOf yX2_numberOf, Cond.initialized RX2, Cond.code yX2_numberOf cX2_numberOf 2 (some (.object "ExactFractions$Fraction")), Cond.fieldLink RX2 12 "ExactFractions" "first" "LExactFractions$Fraction;", Cond.fieldLink RX2 16 "ExactFractions" "second" "LExactFractions$Fraction;", Cond.methodLink RX2 33 yX0_restart, Cond.instanceMethod yX0_restart, Cond.selects RX0 yX0_restart yX0_restart, Cond.initialized RX0, Cond.code yX0_restart cX0_restart 1 none, Cond.fieldLink RX0 10 "ExactFractions$Fraction" "above" "LExactFractions$Whole;", Cond.fieldLink RX0 16 "ExactFractions$Fraction" "under" "LExactFractions$Whole;", Cond.fieldLink RX0 26 "ExactFractions$Fraction" "below" "Z", Cond.fieldLink RX0 30 "ExactFractions$Fraction" "exponent" "I", Cond.methodLink RX0 22 yX1_become, Cond.instanceMethod yX1_become, Cond.selects RX1 yX1_become yX1_become, Cond.initialized RX1, Cond.code yX1_become cX1_become 3 none, Cond.methodLink RX1 25 yX1_put, Cond.instanceMethod yX1_put, Cond.selects RX1 yX1_put yX1_put]
def wsX2_begin_r2 : List Cond := [Cond.code yX1_put cX1_put 4 none, Cond.fieldLink RX1 9 "ExactFractions$Whole" "words" "[I", Cond.methodLink RX1 46 yX1_settle, Cond.instanceMethod yX1_settle, Cond.selects RX1 yX1_settle yX1_settle, Cond.code yX1_settle cX1_settle 3 none, Cond.fieldLink RX1 15 "ExactFractions$Whole" "used" "I", Cond.methodLink RX1 29 Lib.Math.min.name, Cond.static Lib.Math.min.name, Cond.initialized "java/lang/Math", Cond.code Lib.Math.min.name Lib.Math.min.code 2 (some .int), Cond.methodLink RX1 19 yX1_wordAt, Cond.instanceMethod yX1_wordAt, Cond.selects RX1 yX1_wordAt yX1_wordAt, Cond.code yX1_wordAt cX1_wordAt 2 (some .int)]
def wsX2_begin : List Cond := .code yX2_begin cX2_begin 3 (some .int) :: ((wsX2_begin_r1 ++ wsX2_begin_r2) ++ wsX20 ++ wsX00 ++ wsX10)
def wsX2_partOf : List Cond := .code yX2_partOf cX2_partOf 4 (some (.object "ExactFractions$Whole")) :: ([.fieldLink RX2 65 "ExactFractions$Fraction" "above" "LExactFractions$Whole;", .fieldLink RX2 103 "ExactFractions$Fraction" "under" "LExactFractions$Whole;", .methodLink RX2 29 yX2_numberOf, .instanceMethod yX2_numberOf, .selects RX2 yX2_numberOf yX2_numberOf, .initialized RX2, .code yX2_numberOf cX2_numberOf 2 (some (.object "ExactFractions$Fraction")), .fieldLink RX2 12 "ExactFractions" "first" "LExactFractions$Fraction;", .fieldLink RX2 16 "ExactFractions" "second" "LExactFractions$Fraction;"] ++ wsX00 ++ wsX20)
def wsX2_keepLeftIn_r1 : List Cond := [Cond.fieldLink RX2 22 "ExactFractions" "left" "LExactFractions$Whole;", Cond.methodLink RX2 53 yX1_length, Cond.instanceMethod yX1_length, Cond.selects RX1 yX1_length yX1_length, Cond.initialized RX1, Cond.code yX1_length cX1_length 3 (some .int), Cond.fieldLink RX1 15 "ExactFractions$Whole" "used" "I", Cond.methodLink RX1 35 yX1_isZero, Cond.instanceMethod yX1_isZero, Cond.selects RX1 yX1_isZero yX1_isZero, Cond.code yX1_isZero cX1_isZero 1 (some .boolean), Cond.methodLink RX1 19 yX1_wordAt, Cond.instanceMethod yX1_wordAt, Cond.selects RX1 yX1_wordAt yX1_wordAt, Cond.code yX1_wordAt cX1_wordAt 2 (some .int), Cond.fieldLink RX1 9 "ExactFractions$Whole" "words" "[I", Cond.methodLink RX2 106 yX1_copy, Cond.instanceMethod yX1_copy, Cond.selects RX1 yX1_copy yX1_copy, Cond.code yX1_copy cX1_copy 3 none, Cond.methodLink RX1 25 yX1_put, Cond.instanceMethod yX1_put, Cond.selects RX1 yX1_put yX1_put, Cond.code yX1_put cX1_put 4 none]
def wsX2_keepLeftIn_r2 : List Cond := [Cond.methodLink RX1 46 yX1_settle, Cond.instanceMethod yX1_settle, Cond.selects RX1 yX1_settle yX1_settle, Cond.code yX1_settle cX1_settle 3 none, Cond.methodLink RX1 29 Lib.Math.min.name, Cond.static Lib.Math.min.name, Cond.initialized "java/lang/Math", Cond.code Lib.Math.min.name Lib.Math.min.code 2 (some .int)]
def wsX2_keepLeftIn : List Cond := .code yX2_keepLeftIn cX2_keepLeftIn 2 (some .int) :: ((wsX2_keepLeftIn_r1 ++ wsX2_keepLeftIn_r2) ++ wsX20 ++ wsX10)
def wsX2_digit_r1 : List Cond := [Cond.constant RX2 40 (1000000), Cond.fieldLink RX2 22 "ExactFractions" "left" "LExactFractions$Whole;", Cond.methodLink RX2 36 yX2_partOf, Cond.instanceMethod yX2_partOf, Cond.selects RX2 yX2_partOf yX2_partOf, Cond.initialized RX2, Cond.code yX2_partOf cX2_partOf 4 (some (.object "ExactFractions$Whole")), Cond.fieldLink RX2 65 "ExactFractions$Fraction" "above" "LExactFractions$Whole;", Cond.fieldLink RX2 103 "ExactFractions$Fraction" "under" "LExactFractions$Whole;", Cond.methodLink RX2 29 yX2_numberOf, Cond.instanceMethod yX2_numberOf, Cond.selects RX2 yX2_numberOf yX2_numberOf, Cond.code yX2_numberOf cX2_numberOf 2 (some (.object "ExactFractions$Fraction")), Cond.fieldLink RX2 12 "ExactFractions" "first" "LExactFractions$Fraction;", Cond.fieldLink RX2 16 "ExactFractions" "second" "LExactFractions$Fraction;", Cond.methodLink RX2 41 yX1_becomeMultiple, Cond.instanceMethod yX1_becomeMultiple, Cond.selects RX1 yX1_becomeMultiple yX1_becomeMultiple, Cond.initialized RX1, Cond.code yX1_becomeMultiple cX1_becomeMultiple 7 none, Cond.fieldLink RX1 15 "ExactFractions$Whole" "used" "I", Cond.methodLink RX1 42 yX1_valueAt, Cond.instanceMethod yX1_valueAt, Cond.selects RX1 yX1_valueAt yX1_valueAt]
def wsX2_digit_r2 : List Cond := [Cond.code yX1_valueAt cX1_valueAt 2 (some .long), Cond.constantLong RX1 23 (4294967295), Cond.methodLink RX1 19 yX1_wordAt, Cond.instanceMethod yX1_wordAt, Cond.selects RX1 yX1_wordAt yX1_wordAt, Cond.code yX1_wordAt cX1_wordAt 2 (some .int), Cond.fieldLink RX1 9 "ExactFractions$Whole" "words" "[I", Cond.methodLink RX1 25 yX1_put, Cond.instanceMethod yX1_put, Cond.selects RX1 yX1_put yX1_put, Cond.code yX1_put cX1_put 4 none, Cond.methodLink RX1 46 yX1_settle, Cond.instanceMethod yX1_settle, Cond.selects RX1 yX1_settle yX1_settle, Cond.code yX1_settle cX1_settle 3 none, Cond.methodLink RX1 29 Lib.Math.min.name, Cond.static Lib.Math.min.name, Cond.initialized "java/lang/Math", Cond.code Lib.Math.min.name Lib.Math.min.code 2 (some .int), Cond.methodLink RX2 45 yX2_keepLeftIn, Cond.instanceMethod yX2_keepLeftIn, Cond.selects RX2 yX2_keepLeftIn yX2_keepLeftIn, Cond.code yX2_keepLeftIn cX2_keepLeftIn 2 (some .int), Cond.methodLink RX2 53 yX1_length]
def wsX2_digit_r3 : List Cond := [Cond.instanceMethod yX1_length, Cond.selects RX1 yX1_length yX1_length, Cond.code yX1_length cX1_length 3 (some .int), Cond.methodLink RX1 35 yX1_isZero, Cond.instanceMethod yX1_isZero, Cond.selects RX1 yX1_isZero yX1_isZero, Cond.code yX1_isZero cX1_isZero 1 (some .boolean), Cond.methodLink RX2 106 yX1_copy, Cond.instanceMethod yX1_copy, Cond.selects RX1 yX1_copy yX1_copy, Cond.code yX1_copy cX1_copy 3 none]
def wsX2_digit : List Cond := .code yX2_digit cX2_digit 6 (some .int) :: ((wsX2_digit_r1 ++ (wsX2_digit_r2 ++ wsX2_digit_r3)) ++ wsX20 ++ wsX00 ++ wsX10)
def wsX2_set_r1 : List Cond := [Cond.methodLink RX2 36 yX2_partOf, Cond.instanceMethod yX2_partOf, Cond.selects RX2 yX2_partOf yX2_partOf, Cond.initialized RX2, Cond.code yX2_partOf cX2_partOf 4 (some (.object "ExactFractions$Whole")), Cond.fieldLink RX2 65 "ExactFractions$Fraction" "above" "LExactFractions$Whole;", Cond.fieldLink RX2 103 "ExactFractions$Fraction" "under" "LExactFractions$Whole;", Cond.methodLink RX2 29 yX2_numberOf, Cond.instanceMethod yX2_numberOf, Cond.selects RX2 yX2_numberOf yX2_numberOf, Cond.code yX2_numberOf cX2_numberOf 2 (some (.object "ExactFractions$Fraction")), Cond.fieldLink RX2 12 "ExactFractions" "first" "LExactFractions$Fraction;", Cond.fieldLink RX2 16 "ExactFractions" "second" "LExactFractions$Fraction;", Cond.methodLink RX2 49 yX1_become, Cond.instanceMethod yX1_become, Cond.selects RX1 yX1_become yX1_become, Cond.initialized RX1, Cond.code yX1_become cX1_become 3 none, Cond.methodLink RX1 25 yX1_put, Cond.instanceMethod yX1_put, Cond.selects RX1 yX1_put yX1_put, Cond.code yX1_put cX1_put 4 none, Cond.fieldLink RX1 9 "ExactFractions$Whole" "words" "[I", Cond.methodLink RX1 46 yX1_settle]
def wsX2_set_r2 : List Cond := [Cond.instanceMethod yX1_settle, Cond.selects RX1 yX1_settle yX1_settle, Cond.code yX1_settle cX1_settle 3 none, Cond.fieldLink RX1 15 "ExactFractions$Whole" "used" "I", Cond.methodLink RX1 29 Lib.Math.min.name, Cond.static Lib.Math.min.name, Cond.initialized "java/lang/Math", Cond.code Lib.Math.min.name Lib.Math.min.code 2 (some .int), Cond.methodLink RX1 19 yX1_wordAt, Cond.instanceMethod yX1_wordAt, Cond.selects RX1 yX1_wordAt yX1_wordAt, Cond.code yX1_wordAt cX1_wordAt 2 (some .int), Cond.methodLink RX2 53 yX1_length, Cond.instanceMethod yX1_length, Cond.selects RX1 yX1_length yX1_length, Cond.code yX1_length cX1_length 3 (some .int), Cond.methodLink RX1 35 yX1_isZero, Cond.instanceMethod yX1_isZero, Cond.selects RX1 yX1_isZero yX1_isZero, Cond.code yX1_isZero cX1_isZero 1 (some .boolean)]
def wsX2_set : List Cond := .code yX2_set cX2_set 6 (some .int) :: ((wsX2_set_r1 ++ wsX2_set_r2) ++ wsX00 ++ wsX20 ++ wsX10)
def wsX2_scale : List Cond := .code yX2_scale cX2_scale 5 (some .int) :: ([.fieldLink RX2 57 "ExactFractions$Fraction" "below" "Z", .fieldLink RX2 61 "ExactFractions$Fraction" "exponent" "I", .methodLink RX2 29 yX2_numberOf, .instanceMethod yX2_numberOf, .selects RX2 yX2_numberOf yX2_numberOf, .initialized RX2, .code yX2_numberOf cX2_numberOf 2 (some (.object "ExactFractions$Fraction")), .fieldLink RX2 12 "ExactFractions" "first" "LExactFractions$Fraction;", .fieldLink RX2 16 "ExactFractions" "second" "LExactFractions$Fraction;"] ++ wsX00 ++ wsX20)
def wsX2_turn : List Cond := .code yX2_turn cX2_turn 3 (some .int) :: ([.fieldLink RX2 65 "ExactFractions$Fraction" "above" "LExactFractions$Whole;", .methodLink RX2 29 yX2_numberOf, .instanceMethod yX2_numberOf, .selects RX2 yX2_numberOf yX2_numberOf, .initialized RX2, .code yX2_numberOf cX2_numberOf 2 (some (.object "ExactFractions$Fraction")), .fieldLink RX2 12 "ExactFractions" "first" "LExactFractions$Fraction;", .fieldLink RX2 16 "ExactFractions" "second" "LExactFractions$Fraction;", .methodLink RX2 68 yX1_isZero, .instanceMethod yX1_isZero, .selects RX1 yX1_isZero yX1_isZero, .initialized RX1, .code yX1_isZero cX1_isZero 1 (some .boolean), .fieldLink RX1 15 "ExactFractions$Whole" "used" "I", .methodLink RX2 72 yX0_flip, .instanceMethod yX0_flip, .selects RX0 yX0_flip yX0_flip, .initialized RX0, .code yX0_flip cX0_flip 2 none, .fieldLink RX0 10 "ExactFractions$Fraction" "above" "LExactFractions$Whole;", .fieldLink RX0 16 "ExactFractions$Fraction" "under" "LExactFractions$Whole;", .fieldLink RX0 30 "ExactFractions$Fraction" "exponent" "I"] ++ wsX00 ++ wsX20 ++ wsX10)
def wsX2_move_r1 : List Cond := [Cond.fieldLink RX2 16 "ExactFractions" "second" "LExactFractions$Fraction;", Cond.fieldLink RX2 65 "ExactFractions$Fraction" "above" "LExactFractions$Whole;", Cond.fieldLink RX2 12 "ExactFractions" "first" "LExactFractions$Fraction;", Cond.fieldLink RX2 57 "ExactFractions$Fraction" "below" "Z", Cond.fieldLink RX2 22 "ExactFractions" "left" "LExactFractions$Whole;", Cond.methodLink RX2 29 yX2_numberOf, Cond.instanceMethod yX2_numberOf, Cond.selects RX2 yX2_numberOf yX2_numberOf, Cond.initialized RX2, Cond.code yX2_numberOf cX2_numberOf 2 (some (.object "ExactFractions$Fraction")), Cond.methodLink RX2 75 yX1_becomeSum, Cond.instanceMethod yX1_becomeSum, Cond.selects RX1 yX1_becomeSum yX1_becomeSum, Cond.initialized RX1, Cond.code yX1_becomeSum cX1_becomeSum 7 none, Cond.fieldLink RX1 15 "ExactFractions$Whole" "used" "I", Cond.methodLink RX1 39 Lib.Math.max.name, Cond.static Lib.Math.max.name, Cond.initialized "java/lang/Math", Cond.code Lib.Math.max.name Lib.Math.max.code 2 (some .int), Cond.methodLink RX1 42 yX1_valueAt, Cond.instanceMethod yX1_valueAt, Cond.selects RX1 yX1_valueAt yX1_valueAt, Cond.code yX1_valueAt cX1_valueAt 2 (some .long)]
def wsX2_move_r2 : List Cond := [Cond.constantLong RX1 23 (4294967295), Cond.methodLink RX1 19 yX1_wordAt, Cond.instanceMethod yX1_wordAt, Cond.selects RX1 yX1_wordAt yX1_wordAt, Cond.code yX1_wordAt cX1_wordAt 2 (some .int), Cond.fieldLink RX1 9 "ExactFractions$Whole" "words" "[I", Cond.methodLink RX1 25 yX1_put, Cond.instanceMethod yX1_put, Cond.selects RX1 yX1_put yX1_put, Cond.code yX1_put cX1_put 4 none, Cond.methodLink RX1 46 yX1_settle, Cond.instanceMethod yX1_settle, Cond.selects RX1 yX1_settle yX1_settle, Cond.code yX1_settle cX1_settle 3 none, Cond.methodLink RX1 29 Lib.Math.min.name, Cond.static Lib.Math.min.name, Cond.code Lib.Math.min.name Lib.Math.min.code 2 (some .int), Cond.methodLink RX2 79 yX1_order, Cond.instanceMethod yX1_order, Cond.selects RX1 yX1_order yX1_order, Cond.code yX1_order cX1_order 5 (some .int), Cond.methodLink RX2 82 yX1_becomeDifference, Cond.instanceMethod yX1_becomeDifference, Cond.selects RX1 yX1_becomeDifference yX1_becomeDifference]
def wsX2_move_r3 : List Cond := [Cond.code yX1_becomeDifference cX1_becomeDifference 6 none, Cond.methodLink RX2 45 yX2_keepLeftIn, Cond.instanceMethod yX2_keepLeftIn, Cond.selects RX2 yX2_keepLeftIn yX2_keepLeftIn, Cond.code yX2_keepLeftIn cX2_keepLeftIn 2 (some .int), Cond.methodLink RX2 53 yX1_length, Cond.instanceMethod yX1_length, Cond.selects RX1 yX1_length yX1_length, Cond.code yX1_length cX1_length 3 (some .int), Cond.methodLink RX1 35 yX1_isZero, Cond.instanceMethod yX1_isZero, Cond.selects RX1 yX1_isZero yX1_isZero, Cond.code yX1_isZero cX1_isZero 1 (some .boolean), Cond.methodLink RX2 106 yX1_copy, Cond.instanceMethod yX1_copy, Cond.selects RX1 yX1_copy yX1_copy, Cond.code yX1_copy cX1_copy 3 none]
def wsX2_move : List Cond := .code yX2_move cX2_move 5 (some .int) :: ((wsX2_move_r1 ++ (wsX2_move_r2 ++ wsX2_move_r3)) ++ wsX20 ++ wsX00 ++ wsX10)
def wsX2_bits_r1 : List Cond := [Cond.methodLink RX2 36 yX2_partOf, Cond.instanceMethod yX2_partOf, Cond.selects RX2 yX2_partOf yX2_partOf, Cond.initialized RX2, Cond.code yX2_partOf cX2_partOf 4 (some (.object "ExactFractions$Whole")), Cond.fieldLink RX2 65 "ExactFractions$Fraction" "above" "LExactFractions$Whole;", Cond.fieldLink RX2 103 "ExactFractions$Fraction" "under" "LExactFractions$Whole;", Cond.methodLink RX2 29 yX2_numberOf, Cond.instanceMethod yX2_numberOf, Cond.selects RX2 yX2_numberOf yX2_numberOf, Cond.code yX2_numberOf cX2_numberOf 2 (some (.object "ExactFractions$Fraction")), Cond.fieldLink RX2 12 "ExactFractions" "first" "LExactFractions$Fraction;", Cond.fieldLink RX2 16 "ExactFractions" "second" "LExactFractions$Fraction;", Cond.methodLink RX2 53 yX1_length, Cond.instanceMethod yX1_length, Cond.selects RX1 yX1_length yX1_length, Cond.initialized RX1, Cond.code yX1_length cX1_length 3 (some .int), Cond.fieldLink RX1 15 "ExactFractions$Whole" "used" "I", Cond.methodLink RX1 35 yX1_isZero, Cond.instanceMethod yX1_isZero, Cond.selects RX1 yX1_isZero yX1_isZero, Cond.code yX1_isZero cX1_isZero 1 (some .boolean), Cond.methodLink RX1 19 yX1_wordAt]
def wsX2_bits_r2 : List Cond := [Cond.instanceMethod yX1_wordAt, Cond.selects RX1 yX1_wordAt yX1_wordAt, Cond.code yX1_wordAt cX1_wordAt 2 (some .int), Cond.fieldLink RX1 9 "ExactFractions$Whole" "words" "[I"]
def wsX2_bits : List Cond := .code yX2_bits cX2_bits 4 (some .int) :: ((wsX2_bits_r1 ++ wsX2_bits_r2) ++ wsX00 ++ wsX20 ++ wsX10)
def wsX2_word : List Cond := .code yX2_word cX2_word 5 (some .int) :: ([.methodLink RX2 36 yX2_partOf, .instanceMethod yX2_partOf, .selects RX2 yX2_partOf yX2_partOf, .initialized RX2, .code yX2_partOf cX2_partOf 4 (some (.object "ExactFractions$Whole")), .fieldLink RX2 65 "ExactFractions$Fraction" "above" "LExactFractions$Whole;", .fieldLink RX2 103 "ExactFractions$Fraction" "under" "LExactFractions$Whole;", .methodLink RX2 29 yX2_numberOf, .instanceMethod yX2_numberOf, .selects RX2 yX2_numberOf yX2_numberOf, .code yX2_numberOf cX2_numberOf 2 (some (.object "ExactFractions$Fraction")), .fieldLink RX2 12 "ExactFractions" "first" "LExactFractions$Fraction;", .fieldLink RX2 16 "ExactFractions" "second" "LExactFractions$Fraction;", .methodLink RX2 85 yX1_wordAt, .instanceMethod yX1_wordAt, .selects RX1 yX1_wordAt yX1_wordAt, .initialized RX1, .code yX1_wordAt cX1_wordAt 2 (some .int), .fieldLink RX1 9 "ExactFractions$Whole" "words" "[I"] ++ wsX00 ++ wsX20 ++ wsX10)
def wsX2_alignTops_r1 : List Cond := [Cond.fieldLink RX2 22 "ExactFractions" "left" "LExactFractions$Whole;", Cond.fieldLink RX2 26 "ExactFractions" "right" "LExactFractions$Whole;", Cond.methodLink RX2 120 yX1_shiftUp, Cond.instanceMethod yX1_shiftUp, Cond.selects RX1 yX1_shiftUp yX1_shiftUp, Cond.initialized RX1, Cond.code yX1_shiftUp cX1_shiftUp 8 none, Cond.fieldLink RX1 15 "ExactFractions$Whole" "used" "I", Cond.methodLink RX1 42 yX1_valueAt, Cond.instanceMethod yX1_valueAt, Cond.selects RX1 yX1_valueAt yX1_valueAt, Cond.code yX1_valueAt cX1_valueAt 2 (some .long), Cond.constantLong RX1 23 (4294967295), Cond.methodLink RX1 19 yX1_wordAt, Cond.instanceMethod yX1_wordAt, Cond.selects RX1 yX1_wordAt yX1_wordAt, Cond.code yX1_wordAt cX1_wordAt 2 (some .int), Cond.fieldLink RX1 9 "ExactFractions$Whole" "words" "[I", Cond.methodLink RX1 25 yX1_put, Cond.instanceMethod yX1_put, Cond.selects RX1 yX1_put yX1_put, Cond.code yX1_put cX1_put 4 none, Cond.methodLink RX1 46 yX1_settle, Cond.instanceMethod yX1_settle]
def wsX2_alignTops_r2 : List Cond := [Cond.selects RX1 yX1_settle yX1_settle, Cond.code yX1_settle cX1_settle 3 none, Cond.methodLink RX1 29 Lib.Math.min.name, Cond.static Lib.Math.min.name, Cond.initialized "java/lang/Math", Cond.code Lib.Math.min.name Lib.Math.min.code 2 (some .int)]
def wsX2_alignTops : List Cond := .code yX2_alignTops cX2_alignTops 2 none :: ((wsX2_alignTops_r1 ++ wsX2_alignTops_r2) ++ wsX20 ++ wsX10)
def wsX2_orderOfSizes_r1 : List Cond := [Cond.fieldLink RX2 12 "ExactFractions" "first" "LExactFractions$Fraction;", Cond.fieldLink RX2 16 "ExactFractions" "second" "LExactFractions$Fraction;", Cond.fieldLink RX2 22 "ExactFractions" "left" "LExactFractions$Whole;", Cond.fieldLink RX2 65 "ExactFractions$Fraction" "above" "LExactFractions$Whole;", Cond.fieldLink RX2 103 "ExactFractions$Fraction" "under" "LExactFractions$Whole;", Cond.fieldLink RX2 26 "ExactFractions" "right" "LExactFractions$Whole;", Cond.fieldLink RX2 61 "ExactFractions$Fraction" "exponent" "I", Cond.methodLink RX2 110 yX0_rank, Cond.instanceMethod yX0_rank, Cond.selects RX0 yX0_rank yX0_rank, Cond.initialized RX0, Cond.code yX0_rank cX0_rank 1 (some .int), Cond.fieldLink RX0 10 "ExactFractions$Fraction" "above" "LExactFractions$Whole;", Cond.fieldLink RX0 16 "ExactFractions$Fraction" "under" "LExactFractions$Whole;", Cond.fieldLink RX0 30 "ExactFractions$Fraction" "exponent" "I", Cond.methodLink RX0 38 yX1_length, Cond.instanceMethod yX1_length, Cond.selects RX1 yX1_length yX1_length, Cond.initialized RX1, Cond.code yX1_length cX1_length 3 (some .int), Cond.fieldLink RX1 15 "ExactFractions$Whole" "used" "I", Cond.methodLink RX1 35 yX1_isZero, Cond.instanceMethod yX1_isZero, Cond.selects RX1 yX1_isZero yX1_isZero]
def wsX2_orderOfSizes_r2 : List Cond := [Cond.code yX1_isZero cX1_isZero 1 (some .boolean), Cond.methodLink RX1 19 yX1_wordAt, Cond.instanceMethod yX1_wordAt, Cond.selects RX1 yX1_wordAt yX1_wordAt, Cond.code yX1_wordAt cX1_wordAt 2 (some .int), Cond.fieldLink RX1 9 "ExactFractions$Whole" "words" "[I", Cond.methodLink RX2 113 yX1_becomeProduct, Cond.instanceMethod yX1_becomeProduct, Cond.selects RX1 yX1_becomeProduct yX1_becomeProduct, Cond.code yX1_becomeProduct cX1_becomeProduct 4 none, Cond.methodLink RX1 46 yX1_settle, Cond.instanceMethod yX1_settle, Cond.selects RX1 yX1_settle yX1_settle, Cond.code yX1_settle cX1_settle 3 none, Cond.methodLink RX1 29 Lib.Math.min.name, Cond.static Lib.Math.min.name, Cond.initialized "java/lang/Math", Cond.code Lib.Math.min.name Lib.Math.min.code 2 (some .int), Cond.methodLink RX1 25 yX1_put, Cond.instanceMethod yX1_put, Cond.selects RX1 yX1_put yX1_put, Cond.code yX1_put cX1_put 4 none, Cond.methodLink RX1 42 yX1_valueAt, Cond.instanceMethod yX1_valueAt]
def wsX2_orderOfSizes_r3 : List Cond := [Cond.selects RX1 yX1_valueAt yX1_valueAt, Cond.code yX1_valueAt cX1_valueAt 2 (some .long), Cond.constantLong RX1 23 (4294967295), Cond.methodLink RX1 50 yX1_addMultiple, Cond.instanceMethod yX1_addMultiple, Cond.selects RX1 yX1_addMultiple yX1_addMultiple, Cond.code yX1_addMultiple cX1_addMultiple 8 none, Cond.methodLink RX2 53 yX1_length, Cond.methodLink RX2 116 yX2_alignTops, Cond.instanceMethod yX2_alignTops, Cond.selects RX2 yX2_alignTops yX2_alignTops, Cond.initialized RX2, Cond.code yX2_alignTops cX2_alignTops 2 none, Cond.methodLink RX2 120 yX1_shiftUp, Cond.instanceMethod yX1_shiftUp, Cond.selects RX1 yX1_shiftUp yX1_shiftUp, Cond.code yX1_shiftUp cX1_shiftUp 8 none, Cond.methodLink RX2 79 yX1_order, Cond.instanceMethod yX1_order, Cond.selects RX1 yX1_order yX1_order, Cond.code yX1_order cX1_order 5 (some .int), Cond.methodLink RX1 39 Lib.Math.max.name, Cond.static Lib.Math.max.name, Cond.code Lib.Math.max.name Lib.Math.max.code 2 (some .int)]
def wsX2_orderOfSizes : List Cond := .code yX2_orderOfSizes cX2_orderOfSizes 3 (some .int) :: ((wsX2_orderOfSizes_r1 ++ (wsX2_orderOfSizes_r2 ++ wsX2_orderOfSizes_r3)) ++ wsX20 ++ wsX00 ++ wsX10)
def wsX2_compare_r1 : List Cond := [Cond.fieldLink RX2 12 "ExactFractions" "first" "LExactFractions$Fraction;", Cond.fieldLink RX2 16 "ExactFractions" "second" "LExactFractions$Fraction;", Cond.methodLink RX2 89 yX0_sign, Cond.instanceMethod yX0_sign, Cond.selects RX0 yX0_sign yX0_sign, Cond.initialized RX0, Cond.code yX0_sign cX0_sign 1 (some .int), Cond.fieldLink RX0 10 "ExactFractions$Fraction" "above" "LExactFractions$Whole;", Cond.fieldLink RX0 26 "ExactFractions$Fraction" "below" "Z", Cond.methodLink RX0 34 yX1_isZero, Cond.instanceMethod yX1_isZero, Cond.selects RX1 yX1_isZero yX1_isZero, Cond.initialized RX1, Cond.code yX1_isZero cX1_isZero 1 (some .boolean), Cond.fieldLink RX1 15 "ExactFractions$Whole" "used" "I", Cond.methodLink RX2 92 yX2_orderOfSizes, Cond.instanceMethod yX2_orderOfSizes, Cond.selects RX2 yX2_orderOfSizes yX2_orderOfSizes, Cond.initialized RX2, Cond.code yX2_orderOfSizes cX2_orderOfSizes 3 (some .int), Cond.fieldLink RX2 22 "ExactFractions" "left" "LExactFractions$Whole;", Cond.fieldLink RX2 65 "ExactFractions$Fraction" "above" "LExactFractions$Whole;", Cond.fieldLink RX2 103 "ExactFractions$Fraction" "under" "LExactFractions$Whole;", Cond.fieldLink RX2 26 "ExactFractions" "right" "LExactFractions$Whole;"]
def wsX2_compare_r2 : List Cond := [Cond.fieldLink RX2 61 "ExactFractions$Fraction" "exponent" "I", Cond.methodLink RX2 110 yX0_rank, Cond.instanceMethod yX0_rank, Cond.selects RX0 yX0_rank yX0_rank, Cond.code yX0_rank cX0_rank 1 (some .int), Cond.fieldLink RX0 16 "ExactFractions$Fraction" "under" "LExactFractions$Whole;", Cond.fieldLink RX0 30 "ExactFractions$Fraction" "exponent" "I", Cond.methodLink RX0 38 yX1_length, Cond.instanceMethod yX1_length, Cond.selects RX1 yX1_length yX1_length, Cond.code yX1_length cX1_length 3 (some .int), Cond.methodLink RX1 35 yX1_isZero, Cond.methodLink RX1 19 yX1_wordAt, Cond.instanceMethod yX1_wordAt, Cond.selects RX1 yX1_wordAt yX1_wordAt, Cond.code yX1_wordAt cX1_wordAt 2 (some .int), Cond.fieldLink RX1 9 "ExactFractions$Whole" "words" "[I", Cond.methodLink RX2 113 yX1_becomeProduct, Cond.instanceMethod yX1_becomeProduct, Cond.selects RX1 yX1_becomeProduct yX1_becomeProduct, Cond.code yX1_becomeProduct cX1_becomeProduct 4 none, Cond.methodLink RX1 46 yX1_settle, Cond.instanceMethod yX1_settle, Cond.selects RX1 yX1_settle yX1_settle]
def wsX2_compare_r3 : List Cond := [Cond.code yX1_settle cX1_settle 3 none, Cond.methodLink RX1 29 Lib.Math.min.name, Cond.static Lib.Math.min.name, Cond.initialized "java/lang/Math", Cond.code Lib.Math.min.name Lib.Math.min.code 2 (some .int), Cond.methodLink RX1 25 yX1_put, Cond.instanceMethod yX1_put, Cond.selects RX1 yX1_put yX1_put, Cond.code yX1_put cX1_put 4 none, Cond.methodLink RX1 42 yX1_valueAt, Cond.instanceMethod yX1_valueAt, Cond.selects RX1 yX1_valueAt yX1_valueAt, Cond.code yX1_valueAt cX1_valueAt 2 (some .long), Cond.constantLong RX1 23 (4294967295), Cond.methodLink RX1 50 yX1_addMultiple, Cond.instanceMethod yX1_addMultiple, Cond.selects RX1 yX1_addMultiple yX1_addMultiple, Cond.code yX1_addMultiple cX1_addMultiple 8 none, Cond.methodLink RX2 53 yX1_length, Cond.methodLink RX2 116 yX2_alignTops, Cond.instanceMethod yX2_alignTops, Cond.selects RX2 yX2_alignTops yX2_alignTops, Cond.code yX2_alignTops cX2_alignTops 2 none, Cond.methodLink RX2 120 yX1_shiftUp]
def wsX2_compare_r4 : List Cond := [Cond.instanceMethod yX1_shiftUp, Cond.selects RX1 yX1_shiftUp yX1_shiftUp, Cond.code yX1_shiftUp cX1_shiftUp 8 none, Cond.methodLink RX2 79 yX1_order, Cond.instanceMethod yX1_order, Cond.selects RX1 yX1_order yX1_order, Cond.code yX1_order cX1_order 5 (some .int), Cond.methodLink RX1 39 Lib.Math.max.name, Cond.static Lib.Math.max.name, Cond.code Lib.Math.max.name Lib.Math.max.code 2 (some .int)]
def wsX2_compare : List Cond := .code yX2_compare cX2_compare 3 (some .int) :: ((wsX2_compare_r1 ++ (wsX2_compare_r2 ++ (wsX2_compare_r3 ++ wsX2_compare_r4))) ++ wsX20 ++ wsX00 ++ wsX10)
def wsX2_layOut_r1 : List Cond := [Cond.fieldLink RX2 22 "ExactFractions" "left" "LExactFractions$Whole;", Cond.fieldLink RX2 65 "ExactFractions$Fraction" "above" "LExactFractions$Whole;", Cond.fieldLink RX2 26 "ExactFractions" "right" "LExactFractions$Whole;", Cond.fieldLink RX2 103 "ExactFractions$Fraction" "under" "LExactFractions$Whole;", Cond.methodLink RX2 106 yX1_copy, Cond.instanceMethod yX1_copy, Cond.selects RX1 yX1_copy yX1_copy, Cond.initialized RX1, Cond.code yX1_copy cX1_copy 3 none, Cond.fieldLink RX1 15 "ExactFractions$Whole" "used" "I", Cond.methodLink RX1 19 yX1_wordAt, Cond.instanceMethod yX1_wordAt, Cond.selects RX1 yX1_wordAt yX1_wordAt, Cond.code yX1_wordAt cX1_wordAt 2 (some .int), Cond.fieldLink RX1 9 "ExactFractions$Whole" "words" "[I", Cond.methodLink RX1 25 yX1_put, Cond.instanceMethod yX1_put, Cond.selects RX1 yX1_put yX1_put, Cond.code yX1_put cX1_put 4 none, Cond.methodLink RX1 46 yX1_settle, Cond.instanceMethod yX1_settle, Cond.selects RX1 yX1_settle yX1_settle, Cond.code yX1_settle cX1_settle 3 none, Cond.methodLink RX1 29 Lib.Math.min.name]
def wsX2_layOut_r2 : List Cond := [Cond.static Lib.Math.min.name, Cond.initialized "java/lang/Math", Cond.code Lib.Math.min.name Lib.Math.min.code 2 (some .int), Cond.methodLink RX2 53 yX1_length, Cond.instanceMethod yX1_length, Cond.selects RX1 yX1_length yX1_length, Cond.code yX1_length cX1_length 3 (some .int), Cond.methodLink RX1 35 yX1_isZero, Cond.instanceMethod yX1_isZero, Cond.selects RX1 yX1_isZero yX1_isZero, Cond.code yX1_isZero cX1_isZero 1 (some .boolean), Cond.methodLink RX2 116 yX2_alignTops, Cond.instanceMethod yX2_alignTops, Cond.selects RX2 yX2_alignTops yX2_alignTops, Cond.initialized RX2, Cond.code yX2_alignTops cX2_alignTops 2 none, Cond.methodLink RX2 120 yX1_shiftUp, Cond.instanceMethod yX1_shiftUp, Cond.selects RX1 yX1_shiftUp yX1_shiftUp, Cond.code yX1_shiftUp cX1_shiftUp 8 none, Cond.methodLink RX1 42 yX1_valueAt, Cond.instanceMethod yX1_valueAt, Cond.selects RX1 yX1_valueAt yX1_valueAt, Cond.code yX1_valueAt cX1_valueAt 2 (some .long)]
def wsX2_layOut_r3 : List Cond := [Cond.constantLong RX1 23 (4294967295), Cond.methodLink RX2 79 yX1_order, Cond.instanceMethod yX1_order, Cond.selects RX1 yX1_order yX1_order, Cond.code yX1_order cX1_order 5 (some .int), Cond.methodLink RX1 39 Lib.Math.max.name, Cond.static Lib.Math.max.name, Cond.code Lib.Math.max.name Lib.Math.max.code 2 (some .int), Cond.methodLink RX2 110 yX0_rank, Cond.instanceMethod yX0_rank, Cond.selects RX0 yX0_rank yX0_rank, Cond.initialized RX0, Cond.code yX0_rank cX0_rank 1 (some .int), Cond.fieldLink RX0 10 "ExactFractions$Fraction" "above" "LExactFractions$Whole;", Cond.fieldLink RX0 16 "ExactFractions$Fraction" "under" "LExactFractions$Whole;", Cond.fieldLink RX0 30 "ExactFractions$Fraction" "exponent" "I", Cond.methodLink RX0 38 yX1_length]
def wsX2_layOut : List Cond := .code yX2_layOut cX2_layOut 2 (some .int) :: ((wsX2_layOut_r1 ++ (wsX2_layOut_r2 ++ wsX2_layOut_r3)) ++ wsX20 ++ wsX00 ++ wsX10)
def wsX2_quotient_r1 : List Cond := [Cond.fieldLink RX2 22 "ExactFractions" "left" "LExactFractions$Whole;", Cond.fieldLink RX2 26 "ExactFractions" "right" "LExactFractions$Whole;", Cond.methodLink RX2 79 yX1_order, Cond.instanceMethod yX1_order, Cond.selects RX1 yX1_order yX1_order, Cond.initialized RX1, Cond.code yX1_order cX1_order 5 (some .int), Cond.fieldLink RX1 15 "ExactFractions$Whole" "used" "I", Cond.methodLink RX1 39 Lib.Math.max.name, Cond.static Lib.Math.max.name, Cond.initialized "java/lang/Math", Cond.code Lib.Math.max.name Lib.Math.max.code 2 (some .int), Cond.methodLink RX1 42 yX1_valueAt, Cond.instanceMethod yX1_valueAt, Cond.selects RX1 yX1_valueAt yX1_valueAt, Cond.code yX1_valueAt cX1_valueAt 2 (some .long), Cond.constantLong RX1 23 (4294967295), Cond.methodLink RX1 19 yX1_wordAt, Cond.instanceMethod yX1_wordAt, Cond.selects RX1 yX1_wordAt yX1_wordAt, Cond.code yX1_wordAt cX1_wordAt 2 (some .int), Cond.fieldLink RX1 9 "ExactFractions$Whole" "words" "[I", Cond.methodLink RX2 82 yX1_becomeDifference, Cond.instanceMethod yX1_becomeDifference]
def wsX2_quotient_r2 : List Cond := [Cond.selects RX1 yX1_becomeDifference yX1_becomeDifference, Cond.code yX1_becomeDifference cX1_becomeDifference 6 none, Cond.methodLink RX1 25 yX1_put, Cond.instanceMethod yX1_put, Cond.selects RX1 yX1_put yX1_put, Cond.code yX1_put cX1_put 4 none, Cond.methodLink RX1 46 yX1_settle, Cond.instanceMethod yX1_settle, Cond.selects RX1 yX1_settle yX1_settle, Cond.code yX1_settle cX1_settle 3 none, Cond.methodLink RX1 29 Lib.Math.min.name, Cond.static Lib.Math.min.name, Cond.code Lib.Math.min.name Lib.Math.min.code 2 (some .int), Cond.methodLink RX2 120 yX1_shiftUp, Cond.instanceMethod yX1_shiftUp, Cond.selects RX1 yX1_shiftUp yX1_shiftUp, Cond.code yX1_shiftUp cX1_shiftUp 8 none]
def wsX2_quotient : List Cond := .code yX2_quotient cX2_quotient 5 (some .long) :: ((wsX2_quotient_r1 ++ wsX2_quotient_r2) ++ wsX20 ++ wsX10)
def wsX2_roundedSize_r1 : List Cond := [Cond.constantLong RX2 127 (9218868437227405312), Cond.constantLong RX2 129 (9218868437227405311), Cond.methodLink RX2 131 Lib.Math.min.name, Cond.static Lib.Math.min.name, Cond.initialized "java/lang/Math", Cond.code Lib.Math.min.name Lib.Math.min.code 2 (some .int), Cond.fieldLink RX2 22 "ExactFractions" "left" "LExactFractions$Whole;", Cond.methodLink RX2 123 yX2_layOut, Cond.instanceMethod yX2_layOut, Cond.selects RX2 yX2_layOut yX2_layOut, Cond.initialized RX2, Cond.code yX2_layOut cX2_layOut 2 (some .int), Cond.fieldLink RX2 65 "ExactFractions$Fraction" "above" "LExactFractions$Whole;", Cond.fieldLink RX2 26 "ExactFractions" "right" "LExactFractions$Whole;", Cond.fieldLink RX2 103 "ExactFractions$Fraction" "under" "LExactFractions$Whole;", Cond.methodLink RX2 106 yX1_copy, Cond.instanceMethod yX1_copy, Cond.selects RX1 yX1_copy yX1_copy, Cond.initialized RX1, Cond.code yX1_copy cX1_copy 3 none, Cond.fieldLink RX1 15 "ExactFractions$Whole" "used" "I", Cond.methodLink RX1 19 yX1_wordAt, Cond.instanceMethod yX1_wordAt, Cond.selects RX1 yX1_wordAt yX1_wordAt]
def wsX2_roundedSize_r2 : List Cond := [Cond.code yX1_wordAt cX1_wordAt 2 (some .int), Cond.fieldLink RX1 9 "ExactFractions$Whole" "words" "[I", Cond.methodLink RX1 25 yX1_put, Cond.instanceMethod yX1_put, Cond.selects RX1 yX1_put yX1_put, Cond.code yX1_put cX1_put 4 none, Cond.methodLink RX1 46 yX1_settle, Cond.instanceMethod yX1_settle, Cond.selects RX1 yX1_settle yX1_settle, Cond.code yX1_settle cX1_settle 3 none, Cond.methodLink RX1 29 Lib.Math.min.name, Cond.methodLink RX2 53 yX1_length, Cond.instanceMethod yX1_length, Cond.selects RX1 yX1_length yX1_length, Cond.code yX1_length cX1_length 3 (some .int), Cond.methodLink RX1 35 yX1_isZero, Cond.instanceMethod yX1_isZero, Cond.selects RX1 yX1_isZero yX1_isZero, Cond.code yX1_isZero cX1_isZero 1 (some .boolean), Cond.methodLink RX2 116 yX2_alignTops, Cond.instanceMethod yX2_alignTops, Cond.selects RX2 yX2_alignTops yX2_alignTops, Cond.code yX2_alignTops cX2_alignTops 2 none, Cond.methodLink RX2 120 yX1_shiftUp]
def wsX2_roundedSize_r3 : List Cond := [Cond.instanceMethod yX1_shiftUp, Cond.selects RX1 yX1_shiftUp yX1_shiftUp, Cond.code yX1_shiftUp cX1_shiftUp 8 none, Cond.methodLink RX1 42 yX1_valueAt, Cond.instanceMethod yX1_valueAt, Cond.selects RX1 yX1_valueAt yX1_valueAt, Cond.code yX1_valueAt cX1_valueAt 2 (some .long), Cond.constantLong RX1 23 (4294967295), Cond.methodLink RX2 79 yX1_order, Cond.instanceMethod yX1_order, Cond.selects RX1 yX1_order yX1_order, Cond.code yX1_order cX1_order 5 (some .int), Cond.methodLink RX1 39 Lib.Math.max.name, Cond.static Lib.Math.max.name, Cond.code Lib.Math.max.name Lib.Math.max.code 2 (some .int), Cond.methodLink RX2 110 yX0_rank, Cond.instanceMethod yX0_rank, Cond.selects RX0 yX0_rank yX0_rank, Cond.initialized RX0, Cond.code yX0_rank cX0_rank 1 (some .int), Cond.fieldLink RX0 10 "ExactFractions$Fraction" "above" "LExactFractions$Whole;", Cond.fieldLink RX0 16 "ExactFractions$Fraction" "under" "LExactFractions$Whole;", Cond.fieldLink RX0 30 "ExactFractions$Fraction" "exponent" "I", Cond.methodLink RX0 38 yX1_length]
def wsX2_roundedSize_r4 : List Cond := [Cond.methodLink RX2 137 yX2_quotient, Cond.instanceMethod yX2_quotient, Cond.selects RX2 yX2_quotient yX2_quotient, Cond.code yX2_quotient cX2_quotient 5 (some .long), Cond.methodLink RX2 82 yX1_becomeDifference, Cond.instanceMethod yX1_becomeDifference, Cond.selects RX1 yX1_becomeDifference yX1_becomeDifference, Cond.code yX1_becomeDifference cX1_becomeDifference 6 none, Cond.methodLink RX2 68 yX1_isZero]
def wsX2_roundedSize : List Cond := .code yX2_roundedSize cX2_roundedSize 6 (some .long) :: ((wsX2_roundedSize_r1 ++ (wsX2_roundedSize_r2 ++ (wsX2_roundedSize_r3 ++ wsX2_roundedSize_r4))) ++ wsX20 ++ wsX00 ++ wsX10)
def wsX2_round_r1 : List Cond := [Cond.constantLong RX2 95 (9221120237041090560), Cond.fieldLink RX2 65 "ExactFractions$Fraction" "above" "LExactFractions$Whole;", Cond.fieldLink RX2 57 "ExactFractions$Fraction" "below" "Z", Cond.constantLong RX2 101 (-9223372036854775808), Cond.methodLink RX2 29 yX2_numberOf, Cond.instanceMethod yX2_numberOf, Cond.selects RX2 yX2_numberOf yX2_numberOf, Cond.initialized RX2, Cond.code yX2_numberOf cX2_numberOf 2 (some (.object "ExactFractions$Fraction")), Cond.fieldLink RX2 12 "ExactFractions" "first" "LExactFractions$Fraction;", Cond.fieldLink RX2 16 "ExactFractions" "second" "LExactFractions$Fraction;", Cond.methodLink RX2 68 yX1_isZero, Cond.instanceMethod yX1_isZero, Cond.selects RX1 yX1_isZero yX1_isZero, Cond.initialized RX1, Cond.code yX1_isZero cX1_isZero 1 (some .boolean), Cond.fieldLink RX1 15 "ExactFractions$Whole" "used" "I", Cond.methodLink RX2 97 yX2_roundedSize, Cond.instanceMethod yX2_roundedSize, Cond.selects RX2 yX2_roundedSize yX2_roundedSize, Cond.code yX2_roundedSize cX2_roundedSize 6 (some .long), Cond.constantLong RX2 127 (9218868437227405312), Cond.constantLong RX2 129 (9218868437227405311), Cond.methodLink RX2 131 Lib.Math.min.name]
def wsX2_round_r2 : List Cond := [Cond.static Lib.Math.min.name, Cond.initialized "java/lang/Math", Cond.code Lib.Math.min.name Lib.Math.min.code 2 (some .int), Cond.fieldLink RX2 22 "ExactFractions" "left" "LExactFractions$Whole;", Cond.methodLink RX2 123 yX2_layOut, Cond.instanceMethod yX2_layOut, Cond.selects RX2 yX2_layOut yX2_layOut, Cond.code yX2_layOut cX2_layOut 2 (some .int), Cond.fieldLink RX2 26 "ExactFractions" "right" "LExactFractions$Whole;", Cond.fieldLink RX2 103 "ExactFractions$Fraction" "under" "LExactFractions$Whole;", Cond.methodLink RX2 106 yX1_copy, Cond.instanceMethod yX1_copy, Cond.selects RX1 yX1_copy yX1_copy, Cond.code yX1_copy cX1_copy 3 none, Cond.methodLink RX1 19 yX1_wordAt, Cond.instanceMethod yX1_wordAt, Cond.selects RX1 yX1_wordAt yX1_wordAt, Cond.code yX1_wordAt cX1_wordAt 2 (some .int), Cond.fieldLink RX1 9 "ExactFractions$Whole" "words" "[I", Cond.methodLink RX1 25 yX1_put, Cond.instanceMethod yX1_put, Cond.selects RX1 yX1_put yX1_put, Cond.code yX1_put cX1_put 4 none, Cond.methodLink RX1 46 yX1_settle]
def wsX2_round_r3 : List Cond := [Cond.instanceMethod yX1_settle, Cond.selects RX1 yX1_settle yX1_settle, Cond.code yX1_settle cX1_settle 3 none, Cond.methodLink RX1 29 Lib.Math.min.name, Cond.methodLink RX2 53 yX1_length, Cond.instanceMethod yX1_length, Cond.selects RX1 yX1_length yX1_length, Cond.code yX1_length cX1_length 3 (some .int), Cond.methodLink RX1 35 yX1_isZero, Cond.methodLink RX2 116 yX2_alignTops, Cond.instanceMethod yX2_alignTops, Cond.selects RX2 yX2_alignTops yX2_alignTops, Cond.code yX2_alignTops cX2_alignTops 2 none, Cond.methodLink RX2 120 yX1_shiftUp, Cond.instanceMethod yX1_shiftUp, Cond.selects RX1 yX1_shiftUp yX1_shiftUp, Cond.code yX1_shiftUp cX1_shiftUp 8 none, Cond.methodLink RX1 42 yX1_valueAt, Cond.instanceMethod yX1_valueAt, Cond.selects RX1 yX1_valueAt yX1_valueAt, Cond.code yX1_valueAt cX1_valueAt 2 (some .long), Cond.constantLong RX1 23 (4294967295), Cond.methodLink RX2 79 yX1_order, Cond.instanceMethod yX1_order]
def wsX2_round_r4 : List Cond := [Cond.selects RX1 yX1_order yX1_order, Cond.code yX1_order cX1_order 5 (some .int), Cond.methodLink RX1 39 Lib.Math.max.name, Cond.static Lib.Math.max.name, Cond.code Lib.Math.max.name Lib.Math.max.code 2 (some .int), Cond.methodLink RX2 110 yX0_rank, Cond.instanceMethod yX0_rank, Cond.selects RX0 yX0_rank yX0_rank, Cond.initialized RX0, Cond.code yX0_rank cX0_rank 1 (some .int), Cond.fieldLink RX0 10 "ExactFractions$Fraction" "above" "LExactFractions$Whole;", Cond.fieldLink RX0 16 "ExactFractions$Fraction" "under" "LExactFractions$Whole;", Cond.fieldLink RX0 30 "ExactFractions$Fraction" "exponent" "I", Cond.methodLink RX0 38 yX1_length, Cond.methodLink RX2 137 yX2_quotient, Cond.instanceMethod yX2_quotient, Cond.selects RX2 yX2_quotient yX2_quotient, Cond.code yX2_quotient cX2_quotient 5 (some .long), Cond.methodLink RX2 82 yX1_becomeDifference, Cond.instanceMethod yX1_becomeDifference, Cond.selects RX1 yX1_becomeDifference yX1_becomeDifference, Cond.code yX1_becomeDifference cX1_becomeDifference 6 none]
def wsX2_round : List Cond := .code yX2_round cX2_round 6 (some .long) :: ((wsX2_round_r1 ++ (wsX2_round_r2 ++ (wsX2_round_r3 ++ wsX2_round_r4))) ++ wsX00 ++ wsX20 ++ wsX10)
set_option maxRecDepth 20000 in
theorem ggX0_init_X1_init : GoodIn wsX0_init wsX1_init := goodIn_r _ [11, 12, 2, 3, 13, 14, 15, 43, 44] (by decide +kernel) (by decide +kernel)
set_option maxRecDepth 20000 in
theorem gX0_init_X1_init : GoodIn wsX0_init (wsX1_init) := ggX0_init_X1_init
set_option maxRecDepth 20000 in
theorem ggX0_init_X0_restart : GoodIn wsX0_init wsX0_restart := goodIn_r _ [20, 7, 8, 21, 22, 23, 24, 25, 6, 26, 27, 28, 29, 30, 14, 31, 32, 33, 34, 15, 35, 36, 37, 38, 39, 40, 41, 42, 45, 46, 47, 48, 43, 44] (by decide +kernel) (by decide +kernel)
set_option maxRecDepth 20000 in
theorem gX0_init_X0_restart : GoodIn wsX0_init (wsV RX0 19 RX0 yX0_restart wsX0_restart) := goodIn_app (goodIn_of _ (by decide +kernel)) ggX0_init_X0_restart
theorem dX0_init_0 : decode cX0_init 0 = .ok (.aload_n 0, 1) := by decide +kernel
theorem dX0_init_1 : decode cX0_init 1 = .ok (.invokespecial 1, 3) := by decide +kernel
theorem dX0_init_4 : decode cX0_init 4 = .ok (.aload_n 0, 1) := by decide +kernel
theorem dX0_init_5 : decode cX0_init 5 = .ok (.new 7, 3) := by decide +kernel
theorem dX0_init_8 : decode cX0_init 8 = .ok (.dup, 1) := by decide +kernel
theorem dX0_init_9 : decode cX0_init 9 = .ok (.invokespecial 9, 3) := by decide +kernel
theorem dX0_init_12 : decode cX0_init 12 = .ok (.putfield 10, 3) := by decide +kernel
theorem dX0_init_15 : decode cX0_init 15 = .ok (.aload_n 0, 1) := by decide +kernel
theorem dX0_init_16 : decode cX0_init 16 = .ok (.new 7, 3) := by decide +kernel
theorem dX0_init_19 : decode cX0_init 19 = .ok (.dup, 1) := by decide +kernel
theorem dX0_init_20 : decode cX0_init 20 = .ok (.invokespecial 9, 3) := by decide +kernel
theorem dX0_init_23 : decode cX0_init 23 = .ok (.putfield 16, 3) := by decide +kernel
theorem dX0_init_26 : decode cX0_init 26 = .ok (.aload_n 0, 1) := by decide +kernel
theorem dX0_init_27 : decode cX0_init 27 = .ok (.invokevirtual 19, 3) := by decide +kernel
theorem dX0_init_30 : decode cX0_init 30 = .ok (.return_, 1) := by decide +kernel
set_option maxRecDepth 20000 in
theorem ggX0_restart_X1_become : GoodIn wsX0_restart wsX1_become := goodIn_r _ [9, 10, 11, 12, 8, 13, 14, 15, 16, 17, 18, 19, 20, 21, 22, 23, 24, 25, 26, 27, 32, 33] (by decide +kernel) (by decide +kernel)
set_option maxRecDepth 20000 in
theorem gX0_restart_X1_become : GoodIn wsX0_restart (wsV RX0 22 RX1 yX1_become wsX1_become) := goodIn_app (goodIn_of _ (by decide +kernel)) ggX0_restart_X1_become
theorem dX0_restart_0 : decode cX0_restart 0 = .ok (.aload_n 0, 1) := by decide +kernel
theorem dX0_restart_1 : decode cX0_restart 1 = .ok (.getfield 10, 3) := by decide +kernel
theorem dX0_restart_4 : decode cX0_restart 4 = .ok (.lconst 0, 1) := by decide +kernel
theorem dX0_restart_5 : decode cX0_restart 5 = .ok (.invokevirtual 22, 3) := by decide +kernel
theorem dX0_restart_8 : decode cX0_restart 8 = .ok (.aload_n 0, 1) := by decide +kernel
theorem dX0_restart_9 : decode cX0_restart 9 = .ok (.getfield 16, 3) := by decide +kernel
theorem dX0_restart_12 : decode cX0_restart 12 = .ok (.lconst 1, 1) := by decide +kernel
theorem dX0_restart_13 : decode cX0_restart 13 = .ok (.invokevirtual 22, 3) := by decide +kernel
theorem dX0_restart_16 : decode cX0_restart 16 = .ok (.aload_n 0, 1) := by decide +kernel
theorem dX0_restart_17 : decode cX0_restart 17 = .ok (.iconst 0, 1) := by decide +kernel
theorem dX0_restart_18 : decode cX0_restart 18 = .ok (.putfield 26, 3) := by decide +kernel
theorem dX0_restart_21 : decode cX0_restart 21 = .ok (.aload_n 0, 1) := by decide +kernel
theorem dX0_restart_22 : decode cX0_restart 22 = .ok (.iconst 0, 1) := by decide +kernel
theorem dX0_restart_23 : decode cX0_restart 23 = .ok (.putfield 30, 3) := by decide +kernel
theorem dX0_restart_26 : decode cX0_restart 26 = .ok (.return_, 1) := by decide +kernel
theorem dX0_flip_0 : decode cX0_flip 0 = .ok (.aload_n 0, 1) := by decide +kernel
theorem dX0_flip_1 : decode cX0_flip 1 = .ok (.getfield 10, 3) := by decide +kernel
theorem dX0_flip_4 : decode cX0_flip 4 = .ok (.astore_n 1, 1) := by decide +kernel
theorem dX0_flip_5 : decode cX0_flip 5 = .ok (.aload_n 0, 1) := by decide +kernel
theorem dX0_flip_6 : decode cX0_flip 6 = .ok (.aload_n 0, 1) := by decide +kernel
theorem dX0_flip_7 : decode cX0_flip 7 = .ok (.getfield 16, 3) := by decide +kernel
theorem dX0_flip_10 : decode cX0_flip 10 = .ok (.putfield 10, 3) := by decide +kernel
theorem dX0_flip_13 : decode cX0_flip 13 = .ok (.aload_n 0, 1) := by decide +kernel
theorem dX0_flip_14 : decode cX0_flip 14 = .ok (.aload_n 1, 1) := by decide +kernel
theorem dX0_flip_15 : decode cX0_flip 15 = .ok (.putfield 16, 3) := by decide +kernel
theorem dX0_flip_18 : decode cX0_flip 18 = .ok (.aload_n 0, 1) := by decide +kernel
theorem dX0_flip_19 : decode cX0_flip 19 = .ok (.aload_n 0, 1) := by decide +kernel
theorem dX0_flip_20 : decode cX0_flip 20 = .ok (.getfield 30, 3) := by decide +kernel
theorem dX0_flip_23 : decode cX0_flip 23 = .ok (.ineg, 1) := by decide +kernel
theorem dX0_flip_24 : decode cX0_flip 24 = .ok (.putfield 30, 3) := by decide +kernel
theorem dX0_flip_27 : decode cX0_flip 27 = .ok (.return_, 1) := by decide +kernel
set_option maxRecDepth 20000 in
theorem ggX0_sign_X1_isZero : GoodIn wsX0_sign wsX1_isZero := goodIn_r _ [7, 8, 13, 14] (by decide +kernel) (by decide +kernel)
set_option maxRecDepth 20000 in
theorem gX0_sign_X1_isZero : GoodIn wsX0_sign (wsV RX0 34 RX1 yX1_isZero wsX1_isZero) := goodIn_app (goodIn_of _ (by decide +kernel)) ggX0_sign_X1_isZero
theorem dX0_sign_0 : decode cX0_sign 0 = .ok (.aload_n 0, 1) := by decide +kernel
theorem dX0_sign_1 : decode cX0_sign 1 = .ok (.getfield 10, 3) := by decide +kernel
theorem dX0_sign_4 : decode cX0_sign 4 = .ok (.invokevirtual 34, 3) := by decide +kernel
theorem dX0_sign_7 : decode cX0_sign 7 = .ok (.ifCond .eq 5, 3) := by decide +kernel
theorem dX0_sign_10 : decode cX0_sign 10 = .ok (.iconst 0, 1) := by decide +kernel
theorem dX0_sign_11 : decode cX0_sign 11 = .ok (.ireturn, 1) := by decide +kernel
theorem dX0_sign_12 : decode cX0_sign 12 = .ok (.aload_n 0, 1) := by decide +kernel
theorem dX0_sign_13 : decode cX0_sign 13 = .ok (.getfield 26, 3) := by decide +kernel
theorem dX0_sign_16 : decode cX0_sign 16 = .ok (.ifCond .eq 7, 3) := by decide +kernel
theorem dX0_sign_19 : decode cX0_sign 19 = .ok (.iconst (-1), 1) := by decide +kernel
theorem dX0_sign_20 : decode cX0_sign 20 = .ok (.goto 4, 3) := by decide +kernel
theorem dX0_sign_23 : decode cX0_sign 23 = .ok (.iconst 1, 1) := by decide +kernel
theorem dX0_sign_24 : decode cX0_sign 24 = .ok (.ireturn, 1) := by decide +kernel
set_option maxRecDepth 20000 in
theorem ggX0_rank_X1_length : GoodIn wsX0_rank wsX1_length := goodIn_r _ [8, 9, 10, 11, 12, 7, 13, 14, 15, 16, 17, 18, 23, 24] (by decide +kernel) (by decide +kernel)
set_option maxRecDepth 20000 in
theorem gX0_rank_X1_length : GoodIn wsX0_rank (wsV RX0 38 RX1 yX1_length wsX1_length) := goodIn_app (goodIn_of _ (by decide +kernel)) ggX0_rank_X1_length
theorem dX0_rank_0 : decode cX0_rank 0 = .ok (.aload_n 0, 1) := by decide +kernel
theorem dX0_rank_1 : decode cX0_rank 1 = .ok (.getfield 10, 3) := by decide +kernel
theorem dX0_rank_4 : decode cX0_rank 4 = .ok (.invokevirtual 38, 3) := by decide +kernel
theorem dX0_rank_7 : decode cX0_rank 7 = .ok (.aload_n 0, 1) := by decide +kernel
theorem dX0_rank_8 : decode cX0_rank 8 = .ok (.getfield 16, 3) := by decide +kernel
theorem dX0_rank_11 : decode cX0_rank 11 = .ok (.invokevirtual 38, 3) := by decide +kernel
theorem dX0_rank_14 : decode cX0_rank 14 = .ok (.isub, 1) := by decide +kernel
theorem dX0_rank_15 : decode cX0_rank 15 = .ok (.aload_n 0, 1) := by decide +kernel
theorem dX0_rank_16 : decode cX0_rank 16 = .ok (.getfield 30, 3) := by decide +kernel
theorem dX0_rank_19 : decode cX0_rank 19 = .ok (.iadd, 1) := by decide +kernel
theorem dX0_rank_20 : decode cX0_rank 20 = .ok (.ireturn, 1) := by decide +kernel
theorem dX1_init_0 : decode cX1_init 0 = .ok (.aload_n 0, 1) := by decide +kernel
theorem dX1_init_1 : decode cX1_init 1 = .ok (.invokespecial 3, 3) := by decide +kernel
theorem dX1_init_4 : decode cX1_init 4 = .ok (.aload_n 0, 1) := by decide +kernel
theorem dX1_init_5 : decode cX1_init 5 = .ok (.sipush 301, 3) := by decide +kernel
theorem dX1_init_8 : decode cX1_init 8 = .ok (.newarray .int, 2) := by decide +kernel
theorem dX1_init_10 : decode cX1_init 10 = .ok (.putfield 9, 3) := by decide +kernel
theorem dX1_init_13 : decode cX1_init 13 = .ok (.aload_n 0, 1) := by decide +kernel
theorem dX1_init_14 : decode cX1_init 14 = .ok (.iconst 0, 1) := by decide +kernel
theorem dX1_init_15 : decode cX1_init 15 = .ok (.putfield 15, 3) := by decide +kernel
theorem dX1_init_18 : decode cX1_init 18 = .ok (.return_, 1) := by decide +kernel
theorem dX1_wordAt_0 : decode cX1_wordAt 0 = .ok (.iload_n 1, 1) := by decide +kernel
theorem dX1_wordAt_1 : decode cX1_wordAt 1 = .ok (.ifCond .lt 21, 3) := by decide +kernel
theorem dX1_wordAt_4 : decode cX1_wordAt 4 = .ok (.iload_n 1, 1) := by decide +kernel
theorem dX1_wordAt_5 : decode cX1_wordAt 5 = .ok (.aload_n 0, 1) := by decide +kernel
theorem dX1_wordAt_6 : decode cX1_wordAt 6 = .ok (.getfield 9, 3) := by decide +kernel
theorem dX1_wordAt_9 : decode cX1_wordAt 9 = .ok (.arraylength, 1) := by decide +kernel
theorem dX1_wordAt_10 : decode cX1_wordAt 10 = .ok (.if_icmp .ge 12, 3) := by decide +kernel
theorem dX1_wordAt_13 : decode cX1_wordAt 13 = .ok (.aload_n 0, 1) := by decide +kernel
theorem dX1_wordAt_14 : decode cX1_wordAt 14 = .ok (.getfield 9, 3) := by decide +kernel
theorem dX1_wordAt_17 : decode cX1_wordAt 17 = .ok (.iload_n 1, 1) := by decide +kernel
theorem dX1_wordAt_18 : decode cX1_wordAt 18 = .ok (.iaload, 1) := by decide +kernel
theorem dX1_wordAt_19 : decode cX1_wordAt 19 = .ok (.goto 4, 3) := by decide +kernel
theorem dX1_wordAt_22 : decode cX1_wordAt 22 = .ok (.iconst 0, 1) := by decide +kernel
theorem dX1_wordAt_23 : decode cX1_wordAt 23 = .ok (.ireturn, 1) := by decide +kernel
set_option maxRecDepth 20000 in
theorem ggX1_valueAt_X1_wordAt : GoodIn wsX1_valueAt wsX1_wordAt := goodIn_r _ [6, 7, 8, 9] (by decide +kernel) (by decide +kernel)
set_option maxRecDepth 20000 in
theorem gX1_valueAt_X1_wordAt : GoodIn wsX1_valueAt (wsV RX1 19 RX1 yX1_wordAt wsX1_wordAt) := goodIn_app (goodIn_of _ (by decide +kernel)) ggX1_valueAt_X1_wordAt
theorem dX1_valueAt_0 : decode cX1_valueAt 0 = .ok (.aload_n 0, 1) := by decide +kernel
theorem dX1_valueAt_1 : decode cX1_valueAt 1 = .ok (.iload_n 1, 1) := by decide +kernel
theorem dX1_valueAt_2 : decode cX1_valueAt 2 = .ok (.invokevirtual 19, 3) := by decide +kernel
theorem dX1_valueAt_5 : decode cX1_valueAt 5 = .ok (.i2l, 1) := by decide +kernel
theorem dX1_valueAt_6 : decode cX1_valueAt 6 = .ok (.ldc2_w 23, 3) := by decide +kernel
theorem dX1_valueAt_9 : decode cX1_valueAt 9 = .ok (.land, 1) := by decide +kernel
theorem dX1_valueAt_10 : decode cX1_valueAt 10 = .ok (.lreturn, 1) := by decide +kernel
theorem dX1_put_0 : decode cX1_put 0 = .ok (.iload_n 1, 1) := by decide +kernel
theorem dX1_put_1 : decode cX1_put 1 = .ok (.ifCond .lt 20, 3) := by decide +kernel
theorem dX1_put_4 : decode cX1_put 4 = .ok (.iload_n 1, 1) := by decide +kernel
theorem dX1_put_5 : decode cX1_put 5 = .ok (.aload_n 0, 1) := by decide +kernel
theorem dX1_put_6 : decode cX1_put 6 = .ok (.getfield 9, 3) := by decide +kernel
theorem dX1_put_9 : decode cX1_put 9 = .ok (.arraylength, 1) := by decide +kernel
theorem dX1_put_10 : decode cX1_put 10 = .ok (.if_icmp .ge 11, 3) := by decide +kernel
theorem dX1_put_13 : decode cX1_put 13 = .ok (.aload_n 0, 1) := by decide +kernel
theorem dX1_put_14 : decode cX1_put 14 = .ok (.getfield 9, 3) := by decide +kernel
theorem dX1_put_17 : decode cX1_put 17 = .ok (.iload_n 1, 1) := by decide +kernel
theorem dX1_put_18 : decode cX1_put 18 = .ok (.lload_n 2, 1) := by decide +kernel
theorem dX1_put_19 : decode cX1_put 19 = .ok (.l2i, 1) := by decide +kernel
theorem dX1_put_20 : decode cX1_put 20 = .ok (.iastore, 1) := by decide +kernel
theorem dX1_put_21 : decode cX1_put 21 = .ok (.return_, 1) := by decide +kernel
set_option maxRecDepth 20000 in
theorem ggX1_settle_X1_put : GoodIn wsX1_settle wsX1_put := goodIn_r _ [11, 2, 16, 17] (by decide +kernel) (by decide +kernel)
set_option maxRecDepth 20000 in
theorem gX1_settle_X1_put : GoodIn wsX1_settle (wsV RX1 25 RX1 yX1_put wsX1_put) := goodIn_app (goodIn_of _ (by decide +kernel)) ggX1_settle_X1_put
set_option maxRecDepth 20000 in
theorem ggX1_settle_X1_wordAt : GoodIn wsX1_settle wsX1_wordAt := goodIn_r _ [15, 2, 16, 17] (by decide +kernel) (by decide +kernel)
set_option maxRecDepth 20000 in
theorem gX1_settle_X1_wordAt : GoodIn wsX1_settle (wsV RX1 19 RX1 yX1_wordAt wsX1_wordAt) := goodIn_app (goodIn_of _ (by decide +kernel)) ggX1_settle_X1_wordAt
theorem dX1_settle_0 : decode cX1_settle 0 = .ok (.iload_n 1, 1) := by decide +kernel
theorem dX1_settle_1 : decode cX1_settle 1 = .ok (.istore_n 2, 1) := by decide +kernel
theorem dX1_settle_2 : decode cX1_settle 2 = .ok (.iload_n 2, 1) := by decide +kernel
theorem dX1_settle_3 : decode cX1_settle 3 = .ok (.aload_n 0, 1) := by decide +kernel
theorem dX1_settle_4 : decode cX1_settle 4 = .ok (.getfield 15, 3) := by decide +kernel
theorem dX1_settle_7 : decode cX1_settle 7 = .ok (.if_icmp .ge 15, 3) := by decide +kernel
theorem dX1_settle_10 : decode cX1_settle 10 = .ok (.aload_n 0, 1) := by decide +kernel
theorem dX1_settle_11 : decode cX1_settle 11 = .ok (.iload_n 2, 1) := by decide +kernel
theorem dX1_settle_12 : decode cX1_settle 12 = .ok (.lconst 0, 1) := by decide +kernel
theorem dX1_settle_13 : decode cX1_settle 13 = .ok (.invokevirtual 25, 3) := by decide +kernel
theorem dX1_settle_16 : decode cX1_settle 16 = .ok (.iinc 2 1, 3) := by decide +kernel
theorem dX1_settle_19 : decode cX1_settle 19 = .ok (.goto (-17), 3) := by decide +kernel
theorem dX1_settle_22 : decode cX1_settle 22 = .ok (.aload_n 0, 1) := by decide +kernel
theorem dX1_settle_23 : decode cX1_settle 23 = .ok (.iload_n 1, 1) := by decide +kernel
theorem dX1_settle_24 : decode cX1_settle 24 = .ok (.aload_n 0, 1) := by decide +kernel
theorem dX1_settle_25 : decode cX1_settle 25 = .ok (.getfield 9, 3) := by decide +kernel
theorem dX1_settle_28 : decode cX1_settle 28 = .ok (.arraylength, 1) := by decide +kernel
theorem dX1_settle_29 : decode cX1_settle 29 = .ok (.invokestatic 29, 3) := by decide +kernel
theorem dX1_settle_32 : decode cX1_settle 32 = .ok (.putfield 15, 3) := by decide +kernel
theorem dX1_settle_35 : decode cX1_settle 35 = .ok (.aload_n 0, 1) := by decide +kernel
theorem dX1_settle_36 : decode cX1_settle 36 = .ok (.getfield 15, 3) := by decide +kernel
theorem dX1_settle_39 : decode cX1_settle 39 = .ok (.ifCond .le 29, 3) := by decide +kernel
theorem dX1_settle_42 : decode cX1_settle 42 = .ok (.aload_n 0, 1) := by decide +kernel
theorem dX1_settle_43 : decode cX1_settle 43 = .ok (.aload_n 0, 1) := by decide +kernel
theorem dX1_settle_44 : decode cX1_settle 44 = .ok (.getfield 15, 3) := by decide +kernel
theorem dX1_settle_47 : decode cX1_settle 47 = .ok (.iconst 1, 1) := by decide +kernel
theorem dX1_settle_48 : decode cX1_settle 48 = .ok (.isub, 1) := by decide +kernel
theorem dX1_settle_49 : decode cX1_settle 49 = .ok (.invokevirtual 19, 3) := by decide +kernel
theorem dX1_settle_52 : decode cX1_settle 52 = .ok (.ifCond .ne 16, 3) := by decide +kernel
theorem dX1_settle_55 : decode cX1_settle 55 = .ok (.aload_n 0, 1) := by decide +kernel
theorem dX1_settle_56 : decode cX1_settle 56 = .ok (.dup, 1) := by decide +kernel
theorem dX1_settle_57 : decode cX1_settle 57 = .ok (.getfield 15, 3) := by decide +kernel
theorem dX1_settle_60 : decode cX1_settle 60 = .ok (.iconst 1, 1) := by decide +kernel
theorem dX1_settle_61 : decode cX1_settle 61 = .ok (.isub, 1) := by decide +kernel
theorem dX1_settle_62 : decode cX1_settle 62 = .ok (.putfield 15, 3) := by decide +kernel
theorem dX1_settle_65 : decode cX1_settle 65 = .ok (.goto (-30), 3) := by decide +kernel
theorem dX1_settle_68 : decode cX1_settle 68 = .ok (.return_, 1) := by decide +kernel
theorem dX1_isZero_0 : decode cX1_isZero 0 = .ok (.aload_n 0, 1) := by decide +kernel
theorem dX1_isZero_1 : decode cX1_isZero 1 = .ok (.getfield 15, 3) := by decide +kernel
theorem dX1_isZero_4 : decode cX1_isZero 4 = .ok (.ifCond .ne 7, 3) := by decide +kernel
