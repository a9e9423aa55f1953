def rR3 : String := "ExactFractionsModel$Big"
def rT3 : u_T := fun k => match k with
  | 0 => ("ExactFractionsModel$Big", "d", "[I", true)
  | _ => ("ExactFractionsModel$Big", "n", "I", false)
def rty3 : Nat → FieldType := fun k => match k with
  | 0 => .array .int
  | _ => .int
theorem rnm3 : ∀ a, a < 2 → ∀ b, b < 2 → a ≠ b → (rT3 a).2.1 ≠ (rT3 b).2.1 := by decide +kernel
theorem rtyok3 : ∀ k, k < 2 → parseFieldDescriptor (rT3 k).2.2.1 = some (rty3 k) := by decide +kernel
def rR4 : String := "ExactFractionsModel$Num"
def rT4 : u_T := fun k => match k with
  | 0 => ("ExactFractionsModel$Num", "below", "Z", false)
  | 1 => ("ExactFractionsModel$Num", "p", "LExactFractionsModel$Big;", true)
  | 2 => ("ExactFractionsModel$Num", "q", "LExactFractionsModel$Big;", true)
  | _ => ("ExactFractionsModel$Num", "e", "I", false)
def rty4 : Nat → FieldType := fun k => match k with
  | 0 => .boolean
  | 1 => .object "ExactFractionsModel$Big"
  | 2 => .object "ExactFractionsModel$Big"
  | _ => .int
theorem rnm4 : ∀ a, a < 4 → ∀ b, b < 4 → a ≠ b → (rT4 a).2.1 ≠ (rT4 b).2.1 := by decide +kernel
theorem rtyok4 : ∀ k, k < 4 → parseFieldDescriptor (rT4 k).2.2.1 = some (rty4 k) := by decide +kernel
def rR5 : String := "ExactFractionsModel"
def rT5 : u_T := fun k => match k with
  | 0 => ("ExactFractionsModel", "left", "LExactFractionsModel$Big;", true)
  | 1 => ("ExactFractionsModel", "right", "LExactFractionsModel$Big;", true)
  | 2 => ("ExactFractionsModel", "probe", "LExactFractionsModel$Num;", true)
  | 3 => ("ExactFractionsModel", "opposite", "LExactFractionsModel$Num;", true)
  | 4 => ("ExactFractionsModel", "first", "LExactFractionsModel$Num;", true)
  | 5 => ("ExactFractionsModel", "second", "LExactFractionsModel$Num;", true)
  | _ => ("ExactFractionsModel", "draft", "LExactFractionsModel$Big;", true)
def rty5 : Nat → FieldType := fun k => match k with
  | 0 => .object "ExactFractionsModel$Big"
  | 1 => .object "ExactFractionsModel$Big"
  | 2 => .object "ExactFractionsModel$Num"
  | 3 => .object "ExactFractionsModel$Num"
  | 4 => .object "ExactFractionsModel$Num"
  | 5 => .object "ExactFractionsModel$Num"
  | _ => .object "ExactFractionsModel$Big"
theorem rnm5 : ∀ a, a < 7 → ∀ b, b < 7 → a ≠ b → (rT5 a).2.1 ≠ (rT5 b).2.1 := by decide +kernel
theorem rtyok5 : ∀ k, k < 7 → parseFieldDescriptor (rT5 k).2.2.1 = some (rty5 k) := by decide +kernel
/-- the tables' words that a callee may be given -/
def efG : List Cond := lw_tbl.filter goodWord
theorem rin3 : ∀ w ∈ u_ws rR3 rT3 2, w ∈ efG := by decide +kernel
theorem rin4 : ∀ w ∈ u_ws rR4 rT4 4, w ∈ efG := by decide +kernel
theorem rin5 : ∀ w ∈ u_ws rR5 rT5 7, w ∈ efG := by decide +kernel
abbrev rc_M_compareSizes : ByteArray := prog_5_method_1_code
def ry_M_compareSizes : MethodName := ⟨rR5, "compareSizes", "(LExactFractionsModel$Num;LExactFractionsModel$Num;)I"⟩
def rw_M_compareSizes : List Cond := .code ry_M_compareSizes rc_M_compareSizes 5 (some .int) :: efG
abbrev rc_M_orderOf : ByteArray := prog_5_method_2_code
def ry_M_orderOf : MethodName := ⟨rR5, "orderOf", "(LExactFractionsModel$Num;LExactFractionsModel$Num;)I"⟩
def rw_M_orderOf : List Cond := .code ry_M_orderOf rc_M_orderOf 5 (some .int) :: efG
abbrev rc_M_floatOf : ByteArray := prog_5_method_3_code
def ry_M_floatOf : MethodName := ⟨rR5, "floatOf", "(J)J"⟩
def rw_M_floatOf : List Cond := .code ry_M_floatOf rc_M_floatOf 2 (some .long) :: efG
abbrev rc_M_minus : ByteArray := prog_5_method_4_code
def ry_M_minus : MethodName := ⟨rR5, "minus", "(J)J"⟩
def rw_M_minus : List Cond := .code ry_M_minus rc_M_minus 2 (some .long) :: efG
abbrev rc_M_down : ByteArray := prog_5_method_5_code
def ry_M_down : MethodName := ⟨rR5, "down", "(LExactFractionsModel$Num;)J"⟩
def rw_M_down : List Cond := .code ry_M_down rc_M_down 9 (some .long) :: efG
abbrev rc_M_up : ByteArray := prog_5_method_6_code
def ry_M_up : MethodName := ⟨rR5, "up", "(LExactFractionsModel$Num;)J"⟩
def rw_M_up : List Cond := .code ry_M_up rc_M_up 2 (some .long) :: efG
abbrev rc_M_init : ByteArray := prog_5_method_7_code
def ry_M_init : MethodName := ⟨rR5, "<init>", "()V"⟩
def rw_M_init : List Cond := .code ry_M_init rc_M_init 1 none :: efG
abbrev rc_M_isNumber : ByteArray := prog_5_method_8_code
def ry_M_isNumber : MethodName := ⟨rR5, "isNumber", "(I)Z"⟩
def rw_M_isNumber : List Cond := .code ry_M_isNumber rc_M_isNumber 1 (some .boolean) :: efG
abbrev rc_M_numberOf : ByteArray := prog_5_method_9_code
def ry_M_numberOf : MethodName := ⟨rR5, "numberOf", "(I)LExactFractionsModel$Num;"⟩
def rw_M_numberOf : List Cond := .code ry_M_numberOf rc_M_numberOf 2 (some (.object "ExactFractionsModel$Num")) :: efG
abbrev rc_M_partOf : ByteArray := prog_5_method_10_code
def ry_M_partOf : MethodName := ⟨rR5, "partOf", "(II)LExactFractionsModel$Big;"⟩
def rw_M_partOf : List Cond := .code ry_M_partOf rc_M_partOf 4 (some (.object "ExactFractionsModel$Big")) :: efG
abbrev rc_M_begin : ByteArray := prog_5_method_11_code
def ry_M_begin : MethodName := ⟨rR5, "begin", "(I)I"⟩
def rw_M_begin : List Cond := .code ry_M_begin rc_M_begin 2 (some .int) :: efG
abbrev rc_M_digit : ByteArray := prog_5_method_12_code
def ry_M_digit : MethodName := ⟨rR5, "digit", "(IIII)I"⟩
def rw_M_digit : List Cond := .code ry_M_digit rc_M_digit 6 (some .int) :: efG
abbrev rc_M_set : ByteArray := prog_5_method_13_code
def ry_M_set : MethodName := ⟨rR5, "set", "(IIJ)I"⟩
def rw_M_set : List Cond := .code ry_M_set rc_M_set 6 (some .int) :: efG
abbrev rc_M_scale : ByteArray := prog_5_method_14_code
def ry_M_scale : MethodName := ⟨rR5, "scale", "(IZI)I"⟩
def rw_M_scale : List Cond := .code ry_M_scale rc_M_scale 5 (some .int) :: efG
abbrev rc_M_turn : ByteArray := prog_5_method_15_code
def ry_M_turn : MethodName := ⟨rR5, "turn", "(I)I"⟩
def rw_M_turn : List Cond := .code ry_M_turn rc_M_turn 3 (some .int) :: efG
abbrev rc_M_move : ByteArray := prog_5_method_16_code
def ry_M_move : MethodName := ⟨rR5, "move", "(IZ)I"⟩
def rw_M_move : List Cond := .code ry_M_move rc_M_move 6 (some .int) :: efG
abbrev rc_M_bits : ByteArray := prog_5_method_17_code
def ry_M_bits : MethodName := ⟨rR5, "bits", "(II)I"⟩
def rw_M_bits : List Cond := .code ry_M_bits rc_M_bits 3 (some .int) :: efG
abbrev rc_M_word : ByteArray := prog_5_method_18_code
def ry_M_word : MethodName := ⟨rR5, "word", "(III)I"⟩
def rw_M_word : List Cond := .code ry_M_word rc_M_word 7 (some .int) :: efG
abbrev rc_M_compare : ByteArray := prog_5_method_19_code
def ry_M_compare : MethodName := ⟨rR5, "compare", "()I"⟩
def rw_M_compare : List Cond := .code ry_M_compare rc_M_compare 1 (some .int) :: efG
abbrev rc_M_round : ByteArray := prog_5_method_20_code
def ry_M_round : MethodName := ⟨rR5, "round", "(IZ)J"⟩
def rw_M_round : List Cond := .code ry_M_round rc_M_round 3 (some .long) :: efG
abbrev rc_B_init : ByteArray := prog_6_method_1_code
def ry_B_init : MethodName := ⟨rR3, "<init>", "()V"⟩
def rw_B_init : List Cond := .code ry_B_init rc_B_init 1 none :: efG
abbrev rc_B_set : ByteArray := prog_6_method_2_code
def ry_B_set : MethodName := ⟨rR3, "set", "(J)V"⟩
def rw_B_set : List Cond := .code ry_B_set rc_B_set 5 none :: efG
abbrev rc_B_copy : ByteArray := prog_6_method_3_code
def ry_B_copy : MethodName := ⟨rR3, "copy", "(LExactFractionsModel$Big;)V"⟩
def rw_B_copy : List Cond := .code ry_B_copy rc_B_copy 3 none :: efG
abbrev rc_B_bits : ByteArray := prog_6_method_4_code
def ry_B_bits : MethodName := ⟨rR3, "bits", "()I"⟩
def rw_B_bits : List Cond := .code ry_B_bits rc_B_bits 2 (some .int) :: efG
abbrev rc_B_isOne : ByteArray := prog_6_method_5_code
def ry_B_isOne : MethodName := ⟨rR3, "isOne", "()Z"⟩
def rw_B_isOne : List Cond := .code ry_B_isOne rc_B_isOne 1 (some .boolean) :: efG
abbrev rc_B_grow : ByteArray := prog_6_method_6_code
def ry_B_grow : MethodName := ⟨rR3, "grow", "(II)V"⟩
def rw_B_grow : List Cond := .code ry_B_grow rc_B_grow 8 none :: efG
abbrev rc_B_product : ByteArray := prog_6_method_7_code
def ry_B_product : MethodName := ⟨rR3, "product", "(LExactFractionsModel$Big;LExactFractionsModel$Big;)V"⟩
def rw_B_product : List Cond := .code ry_B_product rc_B_product 9 none :: efG
abbrev rc_B_trim : ByteArray := prog_6_method_8_code
def ry_B_trim : MethodName := ⟨rR3, "trim", "()V"⟩
def rw_B_trim : List Cond := .code ry_B_trim rc_B_trim 1 none :: efG
abbrev rc_B_shift : ByteArray := prog_6_method_9_code
def ry_B_shift : MethodName := ⟨rR3, "shift", "(I)V"⟩
def rw_B_shift : List Cond := .code ry_B_shift rc_B_shift 5 none :: efG
abbrev rc_B_compare : ByteArray := prog_6_method_10_code
def ry_B_compare : MethodName := ⟨rR3, "compare", "(LExactFractionsModel$Big;)I"⟩
def rw_B_compare : List Cond := .code ry_B_compare rc_B_compare 3 (some .int) :: efG
abbrev rc_B_add : ByteArray := prog_6_method_11_code
def ry_B_add : MethodName := ⟨rR3, "add", "(LExactFractionsModel$Big;)V"⟩
def rw_B_add : List Cond := .code ry_B_add rc_B_add 5 none :: efG
abbrev rc_B_subtract : ByteArray := prog_6_method_12_code
def ry_B_subtract : MethodName := ⟨rR3, "subtract", "(LExactFractionsModel$Big;)V"⟩
def rw_B_subtract : List Cond := .code ry_B_subtract rc_B_subtract 5 none :: efG
abbrev rc_N_init : ByteArray := prog_7_method_1_code
def ry_N_init : MethodName := ⟨rR4, "<init>", "()V"⟩
def rw_N_init : List Cond := .code ry_N_init rc_N_init 1 none :: efG
abbrev rc_N_set : ByteArray := prog_7_method_2_code
def ry_N_set : MethodName := ⟨rR4, "set", "(J)V"⟩
def rw_N_set : List Cond := .code ry_N_set rc_N_set 3 none :: efG
abbrev rc_N_copy : ByteArray := prog_7_method_3_code
def ry_N_copy : MethodName := ⟨rR4, "copy", "(LExactFractionsModel$Num;)V"⟩
def rw_N_copy : List Cond := .code ry_N_copy rc_N_copy 2 none :: efG
abbrev rc_N_sign : ByteArray := prog_7_method_4_code
def ry_N_sign : MethodName := ⟨rR4, "sign", "()I"⟩
def rw_N_sign : List Cond := .code ry_N_sign rc_N_sign 1 (some .int) :: efG
abbrev rc_N_setFloat : ByteArray := prog_7_method_5_code
def ry_N_setFloat : MethodName := ⟨rR4, "setFloat", "(J)V"⟩
def rw_N_setFloat : List Cond := .code ry_N_setFloat rc_N_setFloat 7 none :: efG
theorem ef_inG {w : Cond} (h : w ∈ efG) {c1 : Cond} : w ∈ c1 :: efG ∧ ((w.onTables && w.keeps) = true ∨ ∃ ty, w = .arrayClass ty) := ⟨List.mem_cons_of_mem _ h, good_of_word (List.mem_filter.mp h).2⟩
theorem ef_goodV {c1 c2 : Cond} {own C : String} {idx : Nat} {y : MethodName} (h1 : Cond.methodLink own idx y ∈ efG) (h2 : Cond.instanceMethod y ∈ efG) (h3 : Cond.selects C y y ∈ efG) (h4 : Cond.initialized C ∈ efG) (h5 : c2 ∈ efG) : GoodIn (c1 :: efG) (wsV own idx C y (c2 :: efG)) := by
  intro w hw
  unfold wsV at hw
  rcases List.mem_append.mp hw with h | h
  · simp only [List.mem_cons, List.not_mem_nil, or_false] at h
    rcases h with rfl | rfl | rfl | rfl
    · exact ef_inG h1
    · exact ef_inG h2
    · exact ef_inG h3
    · exact ef_inG h4
  · rcases List.mem_cons.mp h with rfl | h
    · exact ef_inG h5
    · exact ef_inG h
theorem ef_goodS {c1 c2 : Cond} {own : String} {idx : Nat} {y : MethodName} (h1 : Cond.methodLink own idx y ∈ efG) (h2 : Cond.static y ∈ efG) (h4 : Cond.initialized own ∈ efG) (h5 : c2 ∈ efG) : GoodIn (c1 :: efG) (wsS own idx y (c2 :: efG)) := by
  intro w hw
  unfold wsS at hw
  rcases List.mem_append.mp hw with h | h
  · simp only [List.mem_cons, List.not_mem_nil, or_false] at h
    rcases h with rfl | rfl | rfl
    · exact ef_inG h1
    · exact ef_inG h2
    · exact ef_inG h4
  · rcases List.mem_cons.mp h with rfl | h
    · exact ef_inG h5
    · exact ef_inG h
theorem ef_goodI {c1 c2 : Cond} (h5 : c2 ∈ efG) : GoodIn (c1 :: efG) (c2 :: efG) := by
  intro w hw
  rcases List.mem_cons.mp hw with rfl | h
  · exact ef_inG h5
  · exact ef_inG h
