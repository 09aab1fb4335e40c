def RX0 : String := "GrowForms"
def TX0 : u_T := fun k => match k with
  | 0 => ("GrowForms", "sizes", "[I", true)
  | 1 => ("GrowForms", "bitCounts", "[I", true)
  | 2 => ("GrowForms", "sorts", "[I", true)
  | 3 => ("GrowForms", "formCounts", "[I", true)
  | 4 => ("GrowForms", "offsets", "[I", true)
  | 5 => ("GrowForms", "targets", "[I", true)
  | 6 => ("GrowForms", "chosen", "[I", true)
  | 7 => ("GrowForms", "addresses", "[I", true)
  | 8 => ("GrowForms", "lineCount", "I", false)
  | _ => ("GrowForms", "settled", "Z", false)
def tyX0 : Nat → FieldType := fun k => match k with
  | 0 => .array .int
  | 1 => .array .int
  | 2 => .array .int
  | 3 => .array .int
  | 4 => .array .int
  | 5 => .array .int
  | 6 => .array .int
  | 7 => .array .int
  | 8 => .int
  | _ => .boolean
theorem nmX0 : ∀ a, a < 10 → ∀ b, b < 10 → a ≠ b → (TX0 a).2.1 ≠ (TX0 b).2.1 := by decide +kernel
theorem tyX0_ok : ∀ k, k < 10 → parseFieldDescriptor (TX0 k).2.2.1 = some (tyX0 k) := by decide +kernel
def RX1 : String := "GrowFormsModel"
def TX1 : u_T := fun k => match k with
  | 0 => ("GrowFormsModel", "many", "[I", true)
  | 1 => ("GrowFormsModel", "size", "[I", true)
  | 2 => ("GrowFormsModel", "bits", "[I", true)
  | 3 => ("GrowFormsModel", "sort", "[I", true)
  | 4 => ("GrowFormsModel", "target", "[I", true)
  | 5 => ("GrowFormsModel", "offset", "[I", true)
  | 6 => ("GrowFormsModel", "now", "[I", true)
  | 7 => ("GrowFormsModel", "lines", "I", false)
  | 8 => ("GrowFormsModel", "thrown", "I", false)
  | 9 => ("GrowFormsModel", "isSettled", "Z", false)
  | _ => ("GrowFormsModel", "grows", "[Z", true)
def tyX1 : Nat → FieldType := fun k => match k with
  | 0 => .array .int
  | 1 => .array .int
  | 2 => .array .int
  | 3 => .array .int
  | 4 => .array .int
  | 5 => .array .int
  | 6 => .array .int
  | 7 => .int
  | 8 => .int
  | 9 => .boolean
  | _ => .array .boolean
theorem nmX1 : ∀ a, a < 11 → ∀ b, b < 11 → a ≠ b → (TX1 a).2.1 ≠ (TX1 b).2.1 := by decide +kernel
theorem tyX1_ok : ∀ k, k < 11 → parseFieldDescriptor (TX1 k).2.2.1 = some (tyX1 k) := by decide +kernel
def RL : String := "GrowFormsLaw"
abbrev vwCl : List vw_C := [(RX0, TX0, 10), (RX1, TX1, 11)]
/-- the words that every method is given: those of the tables that a callee keeps -/
def gTT : List Cond := lw_tbl.filter goodWord
abbrev cX0_init : ByteArray := prog_1_method_1_code
def yX0_init : MethodName := ⟨RX0, "<init>", "()V"⟩
abbrev cX0_clear : ByteArray := prog_1_method_5_code
def yX0_clear : MethodName := ⟨RX0, "clear", "()I"⟩
abbrev cL_line : ByteArray := method_3_code
def yL_line : MethodName := ⟨RL, "line", "(LGrowForms;[J)I"⟩
abbrev cX0_line : ByteArray := prog_1_method_2_code
def yX0_line : MethodName := ⟨RX0, "line", "()I"⟩
abbrev cL_form : ByteArray := method_4_code
def yL_form : MethodName := ⟨RL, "form", "(LGrowForms;III[J)I"⟩
abbrev cX0_form : ByteArray := prog_1_method_3_code
def yX0_form : MethodName := ⟨RX0, "form", "(III)I"⟩
abbrev cX0_isForm : ByteArray := prog_1_method_10_code
def yX0_isForm : MethodName := ⟨RX0, "isForm", "(III)Z"⟩
abbrev cX0_placeOf : ByteArray := prog_1_method_13_code
def yX0_placeOf : MethodName := ⟨RX0, "placeOf", "(II)I"⟩
abbrev cL_aim : ByteArray := method_5_code
def yL_aim : MethodName := ⟨RL, "aim", "(LGrowForms;III)I"⟩
abbrev cX0_aim : ByteArray := prog_1_method_4_code
def yX0_aim : MethodName := ⟨RX0, "aim", "(III)V"⟩
abbrev cX0_isLine : ByteArray := prog_1_method_11_code
def yX0_isLine : MethodName := ⟨RX0, "isLine", "(I)Z"⟩
abbrev cX0_isLineOrEnd : ByteArray := prog_1_method_12_code
def yX0_isLineOrEnd : MethodName := ⟨RX0, "isLineOrEnd", "(I)Z"⟩
abbrev cL_settle : ByteArray := method_6_code
def yL_settle : MethodName := ⟨RL, "settle", "(LGrowForms;[J)I"⟩
abbrev cX0_settle : ByteArray := prog_1_method_6_code
def yX0_settle : MethodName := ⟨RX0, "settle", "()I"⟩
abbrev cX0_takeFirstForms : ByteArray := prog_1_method_14_code
def yX0_takeFirstForms : MethodName := ⟨RX0, "takeFirstForms", "()V"⟩
abbrev cX0_giveAddresses : ByteArray := prog_1_method_15_code
def yX0_giveAddresses : MethodName := ⟨RX0, "giveAddresses", "()V"⟩
abbrev cX0_sizeOf : ByteArray := prog_1_method_16_code
def yX0_sizeOf : MethodName := ⟨RX0, "sizeOf", "(I)I"⟩
abbrev cX0_leastUnfit : ByteArray := prog_1_method_17_code
def yX0_leastUnfit : MethodName := ⟨RX0, "leastUnfit", "()I"⟩
abbrev cX0_isFitting : ByteArray := prog_1_method_22_code
def yX0_isFitting : MethodName := ⟨RX0, "isFitting", "(I)Z"⟩
abbrev cX0_valueOf : ByteArray := prog_1_method_20_code
def yX0_valueOf : MethodName := ⟨RX0, "valueOf", "(I)J"⟩
abbrev cX0_isFromItsLine : ByteArray := prog_1_method_21_code
def yX0_isFromItsLine : MethodName := ⟨RX0, "isFromItsLine", "(I)Z"⟩
abbrev cX0_someUnfitHasNoNext : ByteArray := prog_1_method_18_code
def yX0_someUnfitHasNoNext : MethodName := ⟨RX0, "someUnfitHasNoNext", "()Z"⟩
abbrev cX0_moveUnfitOn : ByteArray := prog_1_method_19_code
def yX0_moveUnfitOn : MethodName := ⟨RX0, "moveUnfitOn", "()V"⟩
abbrev cL_told : ByteArray := method_7_code
def yL_told : MethodName := ⟨RL, "told", "(LGrowForms;II[J)I"⟩
abbrev cX0_told : ByteArray := prog_1_method_7_code
def yX0_told : MethodName := ⟨RX0, "told", "(II)I"⟩
abbrev cL_value : ByteArray := method_8_code
def yL_value : MethodName := ⟨RL, "value", "(LGrowForms;I[J)I"⟩
abbrev cX0_value : ByteArray := prog_1_method_8_code
def yX0_value : MethodName := ⟨RX0, "value", "(I)J"⟩
abbrev cL_wrong : ByteArray := method_9_code
def yL_wrong : MethodName := ⟨RL, "wrong", "(LGrowForms;[J)I"⟩
abbrev cX0_wrong : ByteArray := prog_1_method_9_code
def yX0_wrong : MethodName := ⟨RX0, "wrong", "()I"⟩
abbrev cX1_init : ByteArray := prog_3_method_1_code
def yX1_init : MethodName := ⟨RX1, "<init>", "()V"⟩
abbrev cX1_thrown : ByteArray := prog_3_method_2_code
def yX1_thrown : MethodName := ⟨RX1, "thrown", "()I"⟩
abbrev cX1_line : ByteArray := prog_3_method_3_code
def yX1_line : MethodName := ⟨RX1, "line", "()I"⟩
abbrev cX1_form : ByteArray := prog_3_method_4_code
def yX1_form : MethodName := ⟨RX1, "form", "(III)I"⟩
abbrev cX1_aim : ByteArray := prog_3_method_5_code
def yX1_aim : MethodName := ⟨RX1, "aim", "(III)V"⟩
abbrev cX1_clear : ByteArray := prog_3_method_6_code
def yX1_clear : MethodName := ⟨RX1, "clear", "()I"⟩
abbrev cX1_settle : ByteArray := prog_3_method_10_code
def yX1_settle : MethodName := ⟨RX1, "settle", "()I"⟩
abbrev cX1_address : ByteArray := prog_3_method_7_code
def yX1_address : MethodName := ⟨RX1, "address", "(I)I"⟩
abbrev cX1_isFitting : ByteArray := prog_3_method_9_code
def yX1_isFitting : MethodName := ⟨RX1, "isFitting", "(I)Z"⟩
abbrev cX1_worth : ByteArray := prog_3_method_8_code
def yX1_worth : MethodName := ⟨RX1, "worth", "(I)J"⟩
abbrev cX1_told : ByteArray := prog_3_method_11_code
def yX1_told : MethodName := ⟨RX1, "told", "(II)I"⟩
abbrev cX1_value : ByteArray := prog_3_method_12_code
def yX1_value : MethodName := ⟨RX1, "value", "(I)J"⟩
abbrev cX1_wrong : ByteArray := prog_3_method_13_code
def yX1_wrong : MethodName := ⟨RX1, "wrong", "()I"⟩
abbrev cL_law : ByteArray := code
def yL_law : MethodName := ⟨RL, "law", "([I)Z"⟩
def wsX0_init : List Cond := .code yX0_init cX0_init 1 none :: gTT
def wsX0_clear : List Cond := .code yX0_clear cX0_clear 2 (some .int) :: gTT
def wsL_line : List Cond := .codeWith yL_line cL_line 3 (some .int) [(0, 8, 11, 13)] :: gTT
def wsX0_line : List Cond := .code yX0_line cX0_line 2 (some .int) :: gTT
def wsL_form : List Cond := .codeWith yL_form cL_form 6 (some .int) [(0, 12, 15, 19), (0, 12, 19, 13)] :: gTT
def wsX0_form : List Cond := .code yX0_form cX0_form 6 (some .int) :: gTT
def wsX0_isForm : List Cond := .code yX0_isForm cX0_isForm 3 (some .boolean) :: gTT
def wsX0_placeOf : List Cond := .code yX0_placeOf cX0_placeOf 2 (some .int) :: gTT
def wsL_aim : List Cond := .codeWith yL_aim cL_aim 5 (some .int) [(0, 7, 10, 25)] :: gTT
def wsX0_aim : List Cond := .code yX0_aim cX0_aim 4 none :: gTT
def wsX0_isLine : List Cond := .code yX0_isLine cX0_isLine 2 (some .boolean) :: gTT
def wsX0_isLineOrEnd : List Cond := .code yX0_isLineOrEnd cX0_isLineOrEnd 2 (some .boolean) :: gTT
def wsL_settle : List Cond := .codeWith yL_settle cL_settle 3 (some .int) [(0, 8, 11, 13), (0, 8, 14, 30)] :: gTT
def wsX0_settle : List Cond := .code yX0_settle cX0_settle 2 (some .int) :: gTT
def wsX0_takeFirstForms : List Cond := .code yX0_takeFirstForms cX0_takeFirstForms 2 none :: gTT
def wsX0_giveAddresses : List Cond := .code yX0_giveAddresses cX0_giveAddresses 2 none :: gTT
def wsX0_sizeOf : List Cond := .code yX0_sizeOf cX0_sizeOf 2 (some .int) :: gTT
def wsX0_leastUnfit : List Cond := .code yX0_leastUnfit cX0_leastUnfit 2 (some .int) :: gTT
def wsX0_isFitting : List Cond := .code yX0_isFitting cX0_isFitting 7 (some .boolean) :: gTT
def wsX0_valueOf : List Cond := .code yX0_valueOf cX0_valueOf 4 (some .long) :: gTT
def wsX0_isFromItsLine : List Cond := .code yX0_isFromItsLine cX0_isFromItsLine 2 (some .boolean) :: gTT
def wsX0_someUnfitHasNoNext : List Cond := .code yX0_someUnfitHasNoNext cX0_someUnfitHasNoNext 2 (some .boolean) :: gTT
def wsX0_moveUnfitOn : List Cond := .code yX0_moveUnfitOn cX0_moveUnfitOn 2 none :: gTT
def wsL_told : List Cond := .codeWith yL_told cL_told 5 (some .int) [(0, 10, 13, 13), (0, 10, 17, 25), (0, 10, 21, 19)] :: gTT
def wsX0_told : List Cond := .code yX0_told cX0_told 3 (some .int) :: gTT
def wsL_value : List Cond := .codeWith yL_value cL_value 4 (some .int) [(0, 8, 11, 13), (0, 8, 14, 25)] :: gTT
def wsX0_value : List Cond := .code yX0_value cX0_value 2 (some .long) :: gTT
def wsL_wrong : List Cond := .codeWith yL_wrong cL_wrong 3 (some .int) [(0, 8, 11, 13)] :: gTT
def wsX0_wrong : List Cond := .code yX0_wrong cX0_wrong 1 (some .int) :: gTT
def wsX1_init : List Cond := .code yX1_init cX1_init 1 none :: gTT
def wsX1_thrown : List Cond := .code yX1_thrown cX1_thrown 1 (some .int) :: gTT
def wsX1_line : List Cond := .code yX1_line cX1_line 1 (some .int) :: gTT
def wsX1_form : List Cond := .code yX1_form cX1_form 7 (some .int) :: gTT
def wsX1_aim : List Cond := .code yX1_aim cX1_aim 4 none :: gTT
def wsX1_clear : List Cond := .code yX1_clear cX1_clear 2 (some .int) :: gTT
def wsX1_settle : List Cond := .code yX1_settle cX1_settle 4 (some .int) :: gTT
def wsX1_address : List Cond := .code yX1_address cX1_address 4 (some .int) :: gTT
def wsX1_isFitting : List Cond := .code yX1_isFitting cX1_isFitting 7 (some .boolean) :: gTT
def wsX1_worth : List Cond := .code yX1_worth cX1_worth 4 (some .long) :: gTT
def wsX1_told : List Cond := .code yX1_told cX1_told 3 (some .int) :: gTT
def wsX1_value : List Cond := .code yX1_value cX1_value 2 (some .long) :: gTT
def wsX1_wrong : List Cond := .code yX1_wrong cX1_wrong 2 (some .int) :: gTT
def gWW : List Cond := [.initialized "GrowFormsLaw",
  .initialized "GrowForms",
  .initialized "GrowFormsModel",
  .initialized "java/lang/Throwable",
  .initialized "java/lang/Exception",
  .initialized "java/lang/RuntimeException",
  .initialized "java/lang/IllegalStateException",
  .initialized "java/lang/IllegalArgumentException",
  .initialized "java/lang/IndexOutOfBoundsException",
  .initialized "java/lang/UnsupportedOperationException",
  .classLink RL 8 "GrowForms",
  .instantiable "GrowForms" 10,
  .fieldLink RX0 9 "GrowForms" "sizes" "[I",
  .fieldLink RX0 13 "GrowForms" "bitCounts" "[I",
  .fieldLink RX0 16 "GrowForms" "sorts" "[I",
  .fieldLink RX0 19 "GrowForms" "formCounts" "[I",
  .fieldLink RX0 22 "GrowForms" "offsets" "[I",
  .fieldLink RX0 25 "GrowForms" "targets" "[I",
  .fieldLink RX0 28 "GrowForms" "chosen" "[I",
  .fieldLink RX0 31 "GrowForms" "addresses" "[I",
  .fieldLink RX0 34 "GrowForms" "lineCount" "I",
  .fieldLink RX0 38 "GrowForms" "settled" "Z",
  .arrayClass .int,
  .classLink RL 13 "java/lang/IllegalStateException",
  .classLink RX0 42 "java/lang/IllegalStateException",
  .instantiable "java/lang/IllegalStateException" 6,
  .instantiable "java/lang/Throwable" 6,
  .arrayClass .byte,
  .classLink RL 19 "java/lang/IllegalArgumentException",
  .classLink RX0 53 "java/lang/IllegalArgumentException",
  .instantiable "java/lang/IllegalArgumentException" 6,
  .classLink RL 25 "java/lang/IndexOutOfBoundsException",
  .classLink RX0 73 "java/lang/IndexOutOfBoundsException",
  .instantiable "java/lang/IndexOutOfBoundsException" 6,
  .classLink RL 30 "java/lang/UnsupportedOperationException",
  .classLink RX0 94 "java/lang/UnsupportedOperationException",
  .instantiable "java/lang/UnsupportedOperationException" 6,
  .classLink RL 44 "GrowFormsModel",
  .instantiable "GrowFormsModel" 11,
  .fieldLink RX1 9 "GrowFormsModel" "many" "[I",
  .fieldLink RX1 13 "GrowFormsModel" "size" "[I",
  .fieldLink RX1 16 "GrowFormsModel" "bits" "[I",
  .fieldLink RX1 19 "GrowFormsModel" "sort" "[I",
  .fieldLink RX1 22 "GrowFormsModel" "target" "[I",
  .fieldLink RX1 25 "GrowFormsModel" "offset" "[I",
  .fieldLink RX1 28 "GrowFormsModel" "now" "[I",
  .fieldLink RX1 39 "GrowFormsModel" "lines" "I",
  .fieldLink RX1 35 "GrowFormsModel" "thrown" "I",
  .fieldLink RX1 42 "GrowFormsModel" "isSettled" "Z",
  .fieldLink RX1 31 "GrowFormsModel" "grows" "[Z",
  .arrayClass .boolean,
  .constantLong RX1 54 2,
  .arrayClass .long,
  .methodLink RX0 49 yX0_isForm,
  .code yX0_isForm cX0_isForm 3 (some .boolean),
  .static yX0_isForm,
  .initialized RX0,
  .methodLink RX0 62 yX0_placeOf,
  .code yX0_placeOf cX0_placeOf 2 (some .int),
  .static yX0_placeOf,
  .methodLink RX0 66 yX0_isLine,
  .code yX0_isLine cX0_isLine 2 (some .boolean),
  .instanceMethod yX0_isLine,
  .selects RX0 yX0_isLine yX0_isLine,
  .methodLink RX0 70 yX0_isLineOrEnd,
  .code yX0_isLineOrEnd cX0_isLineOrEnd 2 (some .boolean),
  .instanceMethod yX0_isLineOrEnd,
  .selects RX0 yX0_isLineOrEnd yX0_isLineOrEnd,
  .methodLink RX0 78 yX0_takeFirstForms,
  .code yX0_takeFirstForms cX0_takeFirstForms 2 none,
  .instanceMethod yX0_takeFirstForms,
  .selects RX0 yX0_takeFirstForms yX0_takeFirstForms,
  .methodLink RX0 81 yX0_giveAddresses,
  .code yX0_giveAddresses cX0_giveAddresses 2 none,
  .instanceMethod yX0_giveAddresses,
  .selects RX0 yX0_giveAddresses yX0_giveAddresses,
  .methodLink RX0 86 yX0_leastUnfit,
  .code yX0_leastUnfit cX0_leastUnfit 2 (some .int),
  .instanceMethod yX0_leastUnfit,
  .selects RX0 yX0_leastUnfit yX0_leastUnfit,
  .methodLink RX0 90 yX0_someUnfitHasNoNext,
  .code yX0_someUnfitHasNoNext cX0_someUnfitHasNoNext 2 (some .boolean),
  .instanceMethod yX0_someUnfitHasNoNext,
  .selects RX0 yX0_someUnfitHasNoNext yX0_someUnfitHasNoNext,
  .methodLink RX0 99 yX0_moveUnfitOn,
  .code yX0_moveUnfitOn cX0_moveUnfitOn 2 none,
  .instanceMethod yX0_moveUnfitOn,
  .selects RX0 yX0_moveUnfitOn yX0_moveUnfitOn,
  .methodLink RX0 108 yX0_isFitting,
  .code yX0_isFitting cX0_isFitting 7 (some .boolean),
  .instanceMethod yX0_isFitting,
  .selects RX0 yX0_isFitting yX0_isFitting,
  .methodLink RX0 111 yX0_valueOf,
  .code yX0_valueOf cX0_valueOf 4 (some .long),
  .instanceMethod yX0_valueOf,
  .selects RX0 yX0_valueOf yX0_valueOf,
  .methodLink RX0 115 yX0_sizeOf,
  .code yX0_sizeOf cX0_sizeOf 2 (some .int),
  .instanceMethod yX0_sizeOf,
  .selects RX0 yX0_sizeOf yX0_sizeOf,
  .methodLink RX0 119 yX0_isFromItsLine,
  .code yX0_isFromItsLine cX0_isFromItsLine 2 (some .boolean),
  .instanceMethod yX0_isFromItsLine,
  .selects RX0 yX0_isFromItsLine yX0_isFromItsLine,
  .methodLink RX1 46 yX1_address,
  .code yX1_address cX1_address 4 (some .int),
  .instanceMethod yX1_address,
  .selects RX1 yX1_address yX1_address,
  .initialized RX1,
  .methodLink RX1 50 yX1_worth,
  .code yX1_worth cX1_worth 4 (some .long),
  .instanceMethod yX1_worth,
  .selects RX1 yX1_worth yX1_worth,
  .methodLink RX1 56 yX1_isFitting,
  .code yX1_isFitting cX1_isFitting 7 (some .boolean),
  .instanceMethod yX1_isFitting,
  .selects RX1 yX1_isFitting yX1_isFitting,
  .methodLink RL 7 yX0_line,
  .code yX0_line cX0_line 2 (some .int),
  .instanceMethod yX0_line,
  .selects RX0 yX0_line yX0_line,
  .methodLink RL 15 yX0_form,
  .code yX0_form cX0_form 6 (some .int),
  .instanceMethod yX0_form,
  .selects RX0 yX0_form yX0_form,
  .methodLink RL 21 yX0_aim,
  .code yX0_aim cX0_aim 4 none,
  .instanceMethod yX0_aim,
  .selects RX0 yX0_aim yX0_aim,
  .methodLink RL 27 yX0_settle,
  .code yX0_settle cX0_settle 2 (some .int),
  .instanceMethod yX0_settle,
  .selects RX0 yX0_settle yX0_settle,
  .methodLink RL 32 yX0_told,
  .code yX0_told cX0_told 3 (some .int),
  .instanceMethod yX0_told,
  .selects RX0 yX0_told yX0_told,
  .methodLink RL 36 yX0_value,
  .code yX0_value cX0_value 2 (some .long),
  .instanceMethod yX0_value,
  .selects RX0 yX0_value yX0_value,
  .methodLink RL 40 yX0_wrong,
  .code yX0_wrong cX0_wrong 1 (some .int),
  .instanceMethod yX0_wrong,
  .selects RX0 yX0_wrong yX0_wrong,
  .methodLink RL 43 yX0_init,
  .code yX0_init cX0_init 1 none,
  .instanceMethod yX0_init,
  .methodLink RL 46 yX1_init,
  .code yX1_init cX1_init 1 none,
  .instanceMethod yX1_init,
  .methodLink RL 47 yL_line,
  .codeWith yL_line cL_line 3 (some .int) [(0, 8, 11, 13)],
  .static yL_line,
  .initialized RL,
  .methodLink RL 52 yX1_line,
  .code yX1_line cX1_line 1 (some .int),
  .instanceMethod yX1_line,
  .selects RX1 yX1_line yX1_line,
  .methodLink RL 53 yX1_thrown,
  .code yX1_thrown cX1_thrown 1 (some .int),
  .instanceMethod yX1_thrown,
  .selects RX1 yX1_thrown yX1_thrown,
  .methodLink RL 56 yL_form,
  .codeWith yL_form cL_form 6 (some .int) [(0, 12, 15, 19), (0, 12, 19, 13)],
  .static yL_form,
  .methodLink RL 59 yX1_form,
  .code yX1_form cX1_form 7 (some .int),
  .instanceMethod yX1_form,
  .selects RX1 yX1_form yX1_form,
  .methodLink RL 60 yL_aim,
  .codeWith yL_aim cL_aim 5 (some .int) [(0, 7, 10, 25)],
  .static yL_aim,
  .methodLink RL 63 yX1_aim,
  .code yX1_aim cX1_aim 4 none,
  .instanceMethod yX1_aim,
  .selects RX1 yX1_aim yX1_aim,
  .methodLink RL 64 yX0_clear,
  .code yX0_clear cX0_clear 2 (some .int),
  .instanceMethod yX0_clear,
  .selects RX0 yX0_clear yX0_clear,
  .methodLink RL 67 yX1_clear,
  .code yX1_clear cX1_clear 2 (some .int),
  .instanceMethod yX1_clear,
  .selects RX1 yX1_clear yX1_clear,
  .methodLink RL 68 yL_settle,
  .codeWith yL_settle cL_settle 3 (some .int) [(0, 8, 11, 13), (0, 8, 14, 30)],
  .static yL_settle,
  .methodLink RL 70 yX1_settle,
  .code yX1_settle cX1_settle 4 (some .int),
  .instanceMethod yX1_settle,
  .selects RX1 yX1_settle yX1_settle,
  .methodLink RL 71 yL_told,
  .codeWith yL_told cL_told 5 (some .int) [(0, 10, 13, 13), (0, 10, 17, 25), (0, 10, 21, 19)],
  .static yL_told,
  .methodLink RL 74 yX1_told,
  .code yX1_told cX1_told 3 (some .int),
  .instanceMethod yX1_told,
  .selects RX1 yX1_told yX1_told,
  .methodLink RL 75 yL_value,
  .codeWith yL_value cL_value 4 (some .int) [(0, 8, 11, 13), (0, 8, 14, 25)],
  .static yL_value,
  .methodLink RL 78 yX1_value,
  .code yX1_value cX1_value 2 (some .long),
  .instanceMethod yX1_value,
  .selects RX1 yX1_value yX1_value,
  .methodLink RL 79 yL_wrong,
  .codeWith yL_wrong cL_wrong 3 (some .int) [(0, 8, 11, 13)],
  .static yL_wrong,
  .methodLink RL 81 yX1_wrong,
  .code yX1_wrong cX1_wrong 2 (some .int),
  .instanceMethod yX1_wrong,
  .selects RX1 yX1_wrong yX1_wrong,
  .methodLink RX0 3 objectInit,
  .methodLink RX1 1 objectInit,
  .instanceMethod objectInit,
  .code objectInit ⟨#[0xb1]⟩ 1 none]
set_option maxRecDepth 100000 in
set_option maxHeartbeats 4000000 in
theorem gWW_in : ∀ w ∈ gWW, w ∈ gTT := by decide +kernel
theorem inTX0 : ∀ w ∈ u_ws RX0 TX0 10, w ∈ gTT := by decide +kernel
theorem inTX1 : ∀ w ∈ u_ws RX1 TX1 11, w ∈ gTT := by decide +kernel
theorem gTT_tbl : ∀ w ∈ gTT, w ∈ lw_tbl := fun w h => (List.mem_filter.mp h).1
theorem gTT_good : ∀ w ∈ gTT, (w.onTables && w.keeps) = true ∨ ∃ ty, w = .arrayClass ty := fun w h => good_of_word (List.mem_filter.mp h).2
theorem ti_GrowFormsLaw : Cond.initialized "GrowFormsLaw" ∈ gTT := gWW_in _ (List.mem_of_getElem? (i := 0) rfl)
theorem ti_GrowForms : Cond.initialized "GrowForms" ∈ gTT := gWW_in _ (List.mem_of_getElem? (i := 1) rfl)
theorem ti_GrowFormsModel : Cond.initialized "GrowFormsModel" ∈ gTT := gWW_in _ (List.mem_of_getElem? (i := 2) rfl)
theorem ti_Throwable : Cond.initialized "java/lang/Throwable" ∈ gTT := gWW_in _ (List.mem_of_getElem? (i := 3) rfl)
theorem ti_Exception : Cond.initialized "java/lang/Exception" ∈ gTT := gWW_in _ (List.mem_of_getElem? (i := 4) rfl)
theorem ti_RuntimeException : Cond.initialized "java/lang/RuntimeException" ∈ gTT := gWW_in _ (List.mem_of_getElem? (i := 5) rfl)
theorem ti_IllegalStateException : Cond.initialized "java/lang/IllegalStateException" ∈ gTT := gWW_in _ (List.mem_of_getElem? (i := 6) rfl)
theorem ti_IllegalArgumentException : Cond.initialized "java/lang/IllegalArgumentException" ∈ gTT := gWW_in _ (List.mem_of_getElem? (i := 7) rfl)
theorem ti_IndexOutOfBoundsException : Cond.initialized "java/lang/IndexOutOfBoundsException" ∈ gTT := gWW_in _ (List.mem_of_getElem? (i := 8) rfl)
theorem ti_UnsupportedOperationException : Cond.initialized "java/lang/UnsupportedOperationException" ∈ gTT := gWW_in _ (List.mem_of_getElem? (i := 9) rfl)
theorem tkL_8 : Cond.classLink RL 8 "GrowForms" ∈ gTT := gWW_in _ (List.mem_of_getElem? (i := 10) rfl)
theorem tn_GrowForms : Cond.instantiable "GrowForms" 10 ∈ gTT := gWW_in _ (List.mem_of_getElem? (i := 11) rfl)
theorem tfX0_9 : Cond.fieldLink RX0 9 "GrowForms" "sizes" "[I" ∈ gTT := gWW_in _ (List.mem_of_getElem? (i := 12) rfl)
theorem tfX0_13 : Cond.fieldLink RX0 13 "GrowForms" "bitCounts" "[I" ∈ gTT := gWW_in _ (List.mem_of_getElem? (i := 13) rfl)
theorem tfX0_16 : Cond.fieldLink RX0 16 "GrowForms" "sorts" "[I" ∈ gTT := gWW_in _ (List.mem_of_getElem? (i := 14) rfl)
theorem tfX0_19 : Cond.fieldLink RX0 19 "GrowForms" "formCounts" "[I" ∈ gTT := gWW_in _ (List.mem_of_getElem? (i := 15) rfl)
theorem tfX0_22 : Cond.fieldLink RX0 22 "GrowForms" "offsets" "[I" ∈ gTT := gWW_in _ (List.mem_of_getElem? (i := 16) rfl)
theorem tfX0_25 : Cond.fieldLink RX0 25 "GrowForms" "targets" "[I" ∈ gTT := gWW_in _ (List.mem_of_getElem? (i := 17) rfl)
theorem tfX0_28 : Cond.fieldLink RX0 28 "GrowForms" "chosen" "[I" ∈ gTT := gWW_in _ (List.mem_of_getElem? (i := 18) rfl)
theorem tfX0_31 : Cond.fieldLink RX0 31 "GrowForms" "addresses" "[I" ∈ gTT := gWW_in _ (List.mem_of_getElem? (i := 19) rfl)
theorem tfX0_34 : Cond.fieldLink RX0 34 "GrowForms" "lineCount" "I" ∈ gTT := gWW_in _ (List.mem_of_getElem? (i := 20) rfl)
theorem tfX0_38 : Cond.fieldLink RX0 38 "GrowForms" "settled" "Z" ∈ gTT := gWW_in _ (List.mem_of_getElem? (i := 21) rfl)
theorem ta_int : Cond.arrayClass .int ∈ gTT := gWW_in _ (List.mem_of_getElem? (i := 22) rfl)
theorem tkL_13 : Cond.classLink RL 13 "java/lang/IllegalStateException" ∈ gTT := gWW_in _ (List.mem_of_getElem? (i := 23) rfl)
theorem tkX0_42 : Cond.classLink RX0 42 "java/lang/IllegalStateException" ∈ gTT := gWW_in _ (List.mem_of_getElem? (i := 24) rfl)
theorem tn_IllegalStateException : Cond.instantiable "java/lang/IllegalStateException" 6 ∈ gTT := gWW_in _ (List.mem_of_getElem? (i := 25) rfl)
theorem tn_Throwable : Cond.instantiable "java/lang/Throwable" 6 ∈ gTT := gWW_in _ (List.mem_of_getElem? (i := 26) rfl)
theorem ta_byte : Cond.arrayClass .byte ∈ gTT := gWW_in _ (List.mem_of_getElem? (i := 27) rfl)
theorem tkL_19 : Cond.classLink RL 19 "java/lang/IllegalArgumentException" ∈ gTT := gWW_in _ (List.mem_of_getElem? (i := 28) rfl)
theorem tkX0_53 : Cond.classLink RX0 53 "java/lang/IllegalArgumentException" ∈ gTT := gWW_in _ (List.mem_of_getElem? (i := 29) rfl)
theorem tn_IllegalArgumentException : Cond.instantiable "java/lang/IllegalArgumentException" 6 ∈ gTT := gWW_in _ (List.mem_of_getElem? (i := 30) rfl)
theorem tkL_25 : Cond.classLink RL 25 "java/lang/IndexOutOfBoundsException" ∈ gTT := gWW_in _ (List.mem_of_getElem? (i := 31) rfl)
theorem tkX0_73 : Cond.classLink RX0 73 "java/lang/IndexOutOfBoundsException" ∈ gTT := gWW_in _ (List.mem_of_getElem? (i := 32) rfl)
theorem tn_IndexOutOfBoundsException : Cond.instantiable "java/lang/IndexOutOfBoundsException" 6 ∈ gTT := gWW_in _ (List.mem_of_getElem? (i := 33) rfl)
theorem tkL_30 : Cond.classLink RL 30 "java/lang/UnsupportedOperationException" ∈ gTT := gWW_in _ (List.mem_of_getElem? (i := 34) rfl)
theorem tkX0_94 : Cond.classLink RX0 94 "java/lang/UnsupportedOperationException" ∈ gTT := gWW_in _ (List.mem_of_getElem? (i := 35) rfl)
theorem tn_UnsupportedOperationException : Cond.instantiable "java/lang/UnsupportedOperationException" 6 ∈ gTT := gWW_in _ (List.mem_of_getElem? (i := 36) rfl)
theorem tkL_44 : Cond.classLink RL 44 "GrowFormsModel" ∈ gTT := gWW_in _ (List.mem_of_getElem? (i := 37) rfl)
theorem tn_GrowFormsModel : Cond.instantiable "GrowFormsModel" 11 ∈ gTT := gWW_in _ (List.mem_of_getElem? (i := 38) rfl)
theorem tfX1_9 : Cond.fieldLink RX1 9 "GrowFormsModel" "many" "[I" ∈ gTT := gWW_in _ (List.mem_of_getElem? (i := 39) rfl)
theorem tfX1_13 : Cond.fieldLink RX1 13 "GrowFormsModel" "size" "[I" ∈ gTT := gWW_in _ (List.mem_of_getElem? (i := 40) rfl)
theorem tfX1_16 : Cond.fieldLink RX1 16 "GrowFormsModel" "bits" "[I" ∈ gTT := gWW_in _ (List.mem_of_getElem? (i := 41) rfl)
theorem tfX1_19 : Cond.fieldLink RX1 19 "GrowFormsModel" "sort" "[I" ∈ gTT := gWW_in _ (List.mem_of_getElem? (i := 42) rfl)
theorem tfX1_22 : Cond.fieldLink RX1 22 "GrowFormsModel" "target" "[I" ∈ gTT := gWW_in _ (List.mem_of_getElem? (i := 43) rfl)
theorem tfX1_25 : Cond.fieldLink RX1 25 "GrowFormsModel" "offset" "[I" ∈ gTT := gWW_in _ (List.mem_of_getElem? (i := 44) rfl)
theorem tfX1_28 : Cond.fieldLink RX1 28 "GrowFormsModel" "now" "[I" ∈ gTT := gWW_in _ (List.mem_of_getElem? (i := 45) rfl)
theorem tfX1_39 : Cond.fieldLink RX1 39 "GrowFormsModel" "lines" "I" ∈ gTT := gWW_in _ (List.mem_of_getElem? (i := 46) rfl)
theorem tfX1_35 : Cond.fieldLink RX1 35 "GrowFormsModel" "thrown" "I" ∈ gTT := gWW_in _ (List.mem_of_getElem? (i := 47) rfl)
theorem tfX1_42 : Cond.fieldLink RX1 42 "GrowFormsModel" "isSettled" "Z" ∈ gTT := gWW_in _ (List.mem_of_getElem? (i := 48) rfl)
theorem tfX1_31 : Cond.fieldLink RX1 31 "GrowFormsModel" "grows" "[Z" ∈ gTT := gWW_in _ (List.mem_of_getElem? (i := 49) rfl)
theorem ta_boolean : Cond.arrayClass .boolean ∈ gTT := gWW_in _ (List.mem_of_getElem? (i := 50) rfl)
theorem tlX1_54 : Cond.constantLong RX1 54 2 ∈ gTT := gWW_in _ (List.mem_of_getElem? (i := 51) rfl)
theorem ta_long : Cond.arrayClass .long ∈ gTT := gWW_in _ (List.mem_of_getElem? (i := 52) rfl)
theorem to_X0 : Cond.methodLink RX0 3 objectInit ∈ gTT := gWW_in _ (List.mem_of_getElem? (i := 213) rfl)
theorem to_X1 : Cond.methodLink RX1 1 objectInit ∈ gTT := gWW_in _ (List.mem_of_getElem? (i := 214) rfl)
theorem to_i : Cond.instanceMethod objectInit ∈ gTT := gWW_in _ (List.mem_of_getElem? (i := 215) rfl)
theorem to_c : Cond.code objectInit ⟨#[0xb1]⟩ 1 none ∈ gTT := gWW_in _ (List.mem_of_getElem? (i := 216) rfl)
theorem gV_ok {hd : Cond} {big : List Cond} (hbig : ∀ w ∈ gTT, w ∈ big) {own C : String} {index : Nat} {y : MethodName} (h1 : Cond.methodLink own index y ∈ gTT) (h2 : Cond.instanceMethod y ∈ gTT) (h3 : Cond.selects C y y ∈ gTT) (h4 : Cond.initialized C ∈ gTT) (h5 : hd ∈ gTT) : GoodIn big (wsV own index C y (hd :: gTT)) := by
  intro w hw
  have hm : w ∈ gTT := by
    rcases List.mem_append.mp hw with h | h
    · rcases List.mem_cons.mp h with rfl | h
      · exact h1
      · rcases List.mem_cons.mp h with rfl | h
        · exact h2
        · rcases List.mem_cons.mp h with rfl | h
          · exact h3
          · rcases List.mem_cons.mp h with rfl | h
            · exact h4
            · cases h
    · rcases List.mem_cons.mp h with rfl | h
      · exact h5
      · exact h
  exact ⟨hbig w hm, gTT_good w hm⟩
theorem gS_ok {hd : Cond} {big : List Cond} (hbig : ∀ w ∈ gTT, w ∈ big) {own : String} {index : Nat} {y : MethodName} (h1 : Cond.methodLink own index y ∈ gTT) (h2 : Cond.static y ∈ gTT) (h4 : Cond.initialized y.cls ∈ gTT) (h5 : hd ∈ gTT) : GoodIn big (va_wsS own index y (hd :: gTT)) := by
  intro w hw
  have hm : w ∈ gTT := by
    rcases List.mem_append.mp hw with h | h
    · rcases List.mem_cons.mp h with rfl | h
      · exact h1
      · rcases List.mem_cons.mp h with rfl | h
        · exact h2
        · rcases List.mem_cons.mp h with rfl | h
          · exact h4
          · cases h
    · rcases List.mem_cons.mp h with rfl | h
      · exact h5
      · exact h
  exact ⟨hbig w hm, gTT_good w hm⟩
theorem gI_ok {hd : Cond} {big : List Cond} (hbig : ∀ w ∈ gTT, w ∈ big) (h5 : hd ∈ gTT) : GoodIn big (hd :: gTT) := by
  intro w hw
  have hm : w ∈ gTT := by
    rcases List.mem_cons.mp hw with rfl | h
    · exact h5
    · exact h
  exact ⟨hbig w hm, gTT_good w hm⟩
theorem gX0_form_X0_isForm : GoodIn wsX0_form (va_wsS RX0 49 yX0_isForm wsX0_isForm) := gS_ok (fun w h => List.mem_cons_of_mem _ h) (gWW_in _ (List.mem_of_getElem? (i := 53) rfl)) (gWW_in _ (List.mem_of_getElem? (i := 55) rfl)) (gWW_in _ (List.mem_of_getElem? (i := 56) rfl)) (gWW_in _ (List.mem_of_getElem? (i := 54) rfl))
theorem gX0_form_X0_placeOf : GoodIn wsX0_form (va_wsS RX0 62 yX0_placeOf wsX0_placeOf) := gS_ok (fun w h => List.mem_cons_of_mem _ h) (gWW_in _ (List.mem_of_getElem? (i := 57) rfl)) (gWW_in _ (List.mem_of_getElem? (i := 59) rfl)) (gWW_in _ (List.mem_of_getElem? (i := 56) rfl)) (gWW_in _ (List.mem_of_getElem? (i := 58) rfl))
theorem gX0_aim_X0_isLine : GoodIn wsX0_aim (wsV RX0 66 RX0 yX0_isLine wsX0_isLine) := gV_ok (fun w h => List.mem_cons_of_mem _ h) (gWW_in _ (List.mem_of_getElem? (i := 60) rfl)) (gWW_in _ (List.mem_of_getElem? (i := 62) rfl)) (gWW_in _ (List.mem_of_getElem? (i := 63) rfl)) (gWW_in _ (List.mem_of_getElem? (i := 56) rfl)) (gWW_in _ (List.mem_of_getElem? (i := 61) rfl))
theorem gX0_aim_X0_isLineOrEnd : GoodIn wsX0_aim (wsV RX0 70 RX0 yX0_isLineOrEnd wsX0_isLineOrEnd) := gV_ok (fun w h => List.mem_cons_of_mem _ h) (gWW_in _ (List.mem_of_getElem? (i := 64) rfl)) (gWW_in _ (List.mem_of_getElem? (i := 66) rfl)) (gWW_in _ (List.mem_of_getElem? (i := 67) rfl)) (gWW_in _ (List.mem_of_getElem? (i := 56) rfl)) (gWW_in _ (List.mem_of_getElem? (i := 65) rfl))
theorem gX0_settle_X0_takeFirstForms : GoodIn wsX0_settle (wsV RX0 78 RX0 yX0_takeFirstForms wsX0_takeFirstForms) := gV_ok (fun w h => List.mem_cons_of_mem _ h) (gWW_in _ (List.mem_of_getElem? (i := 68) rfl)) (gWW_in _ (List.mem_of_getElem? (i := 70) rfl)) (gWW_in _ (List.mem_of_getElem? (i := 71) rfl)) (gWW_in _ (List.mem_of_getElem? (i := 56) rfl)) (gWW_in _ (List.mem_of_getElem? (i := 69) rfl))
theorem gX0_settle_X0_giveAddresses : GoodIn wsX0_settle (wsV RX0 81 RX0 yX0_giveAddresses wsX0_giveAddresses) := gV_ok (fun w h => List.mem_cons_of_mem _ h) (gWW_in _ (List.mem_of_getElem? (i := 72) rfl)) (gWW_in _ (List.mem_of_getElem? (i := 74) rfl)) (gWW_in _ (List.mem_of_getElem? (i := 75) rfl)) (gWW_in _ (List.mem_of_getElem? (i := 56) rfl)) (gWW_in _ (List.mem_of_getElem? (i := 73) rfl))
theorem gX0_settle_X0_leastUnfit : GoodIn wsX0_settle (wsV RX0 86 RX0 yX0_leastUnfit wsX0_leastUnfit) := gV_ok (fun w h => List.mem_cons_of_mem _ h) (gWW_in _ (List.mem_of_getElem? (i := 76) rfl)) (gWW_in _ (List.mem_of_getElem? (i := 78) rfl)) (gWW_in _ (List.mem_of_getElem? (i := 79) rfl)) (gWW_in _ (List.mem_of_getElem? (i := 56) rfl)) (gWW_in _ (List.mem_of_getElem? (i := 77) rfl))
theorem gX0_settle_X0_someUnfitHasNoNext : GoodIn wsX0_settle (wsV RX0 90 RX0 yX0_someUnfitHasNoNext wsX0_someUnfitHasNoNext) := gV_ok (fun w h => List.mem_cons_of_mem _ h) (gWW_in _ (List.mem_of_getElem? (i := 80) rfl)) (gWW_in _ (List.mem_of_getElem? (i := 82) rfl)) (gWW_in _ (List.mem_of_getElem? (i := 83) rfl)) (gWW_in _ (List.mem_of_getElem? (i := 56) rfl)) (gWW_in _ (List.mem_of_getElem? (i := 81) rfl))
theorem gX0_settle_X0_moveUnfitOn : GoodIn wsX0_settle (wsV RX0 99 RX0 yX0_moveUnfitOn wsX0_moveUnfitOn) := gV_ok (fun w h => List.mem_cons_of_mem _ h) (gWW_in _ (List.mem_of_getElem? (i := 84) rfl)) (gWW_in _ (List.mem_of_getElem? (i := 86) rfl)) (gWW_in _ (List.mem_of_getElem? (i := 87) rfl)) (gWW_in _ (List.mem_of_getElem? (i := 56) rfl)) (gWW_in _ (List.mem_of_getElem? (i := 85) rfl))
theorem gX0_told_X0_isLine : GoodIn wsX0_told (wsV RX0 66 RX0 yX0_isLine wsX0_isLine) := gV_ok (fun w h => List.mem_cons_of_mem _ h) (gWW_in _ (List.mem_of_getElem? (i := 60) rfl)) (gWW_in _ (List.mem_of_getElem? (i := 62) rfl)) (gWW_in _ (List.mem_of_getElem? (i := 63) rfl)) (gWW_in _ (List.mem_of_getElem? (i := 56) rfl)) (gWW_in _ (List.mem_of_getElem? (i := 61) rfl))
theorem gX0_told_X0_isLineOrEnd : GoodIn wsX0_told (wsV RX0 70 RX0 yX0_isLineOrEnd wsX0_isLineOrEnd) := gV_ok (fun w h => List.mem_cons_of_mem _ h) (gWW_in _ (List.mem_of_getElem? (i := 64) rfl)) (gWW_in _ (List.mem_of_getElem? (i := 66) rfl)) (gWW_in _ (List.mem_of_getElem? (i := 67) rfl)) (gWW_in _ (List.mem_of_getElem? (i := 56) rfl)) (gWW_in _ (List.mem_of_getElem? (i := 65) rfl))
theorem gX0_told_X0_isFitting : GoodIn wsX0_told (wsV RX0 108 RX0 yX0_isFitting wsX0_isFitting) := gV_ok (fun w h => List.mem_cons_of_mem _ h) (gWW_in _ (List.mem_of_getElem? (i := 88) rfl)) (gWW_in _ (List.mem_of_getElem? (i := 90) rfl)) (gWW_in _ (List.mem_of_getElem? (i := 91) rfl)) (gWW_in _ (List.mem_of_getElem? (i := 56) rfl)) (gWW_in _ (List.mem_of_getElem? (i := 89) rfl))
theorem gX0_value_X0_isLine : GoodIn wsX0_value (wsV RX0 66 RX0 yX0_isLine wsX0_isLine) := gV_ok (fun w h => List.mem_cons_of_mem _ h) (gWW_in _ (List.mem_of_getElem? (i := 60) rfl)) (gWW_in _ (List.mem_of_getElem? (i := 62) rfl)) (gWW_in _ (List.mem_of_getElem? (i := 63) rfl)) (gWW_in _ (List.mem_of_getElem? (i := 56) rfl)) (gWW_in _ (List.mem_of_getElem? (i := 61) rfl))
theorem gX0_value_X0_valueOf : GoodIn wsX0_value (wsV RX0 111 RX0 yX0_valueOf wsX0_valueOf) := gV_ok (fun w h => List.mem_cons_of_mem _ h) (gWW_in _ (List.mem_of_getElem? (i := 92) rfl)) (gWW_in _ (List.mem_of_getElem? (i := 94) rfl)) (gWW_in _ (List.mem_of_getElem? (i := 95) rfl)) (gWW_in _ (List.mem_of_getElem? (i := 56) rfl)) (gWW_in _ (List.mem_of_getElem? (i := 93) rfl))
theorem gX0_wrong_X0_leastUnfit : GoodIn wsX0_wrong (wsV RX0 86 RX0 yX0_leastUnfit wsX0_leastUnfit) := gV_ok (fun w h => List.mem_cons_of_mem _ h) (gWW_in _ (List.mem_of_getElem? (i := 76) rfl)) (gWW_in _ (List.mem_of_getElem? (i := 78) rfl)) (gWW_in _ (List.mem_of_getElem? (i := 79) rfl)) (gWW_in _ (List.mem_of_getElem? (i := 56) rfl)) (gWW_in _ (List.mem_of_getElem? (i := 77) rfl))
theorem gX0_giveAddresses_X0_sizeOf : GoodIn wsX0_giveAddresses (wsV RX0 115 RX0 yX0_sizeOf wsX0_sizeOf) := gV_ok (fun w h => List.mem_cons_of_mem _ h) (gWW_in _ (List.mem_of_getElem? (i := 96) rfl)) (gWW_in _ (List.mem_of_getElem? (i := 98) rfl)) (gWW_in _ (List.mem_of_getElem? (i := 99) rfl)) (gWW_in _ (List.mem_of_getElem? (i := 56) rfl)) (gWW_in _ (List.mem_of_getElem? (i := 97) rfl))
theorem gX0_sizeOf_X0_placeOf : GoodIn wsX0_sizeOf (va_wsS RX0 62 yX0_placeOf wsX0_placeOf) := gS_ok (fun w h => List.mem_cons_of_mem _ h) (gWW_in _ (List.mem_of_getElem? (i := 57) rfl)) (gWW_in _ (List.mem_of_getElem? (i := 59) rfl)) (gWW_in _ (List.mem_of_getElem? (i := 56) rfl)) (gWW_in _ (List.mem_of_getElem? (i := 58) rfl))
theorem gX0_leastUnfit_X0_isFitting : GoodIn wsX0_leastUnfit (wsV RX0 108 RX0 yX0_isFitting wsX0_isFitting) := gV_ok (fun w h => List.mem_cons_of_mem _ h) (gWW_in _ (List.mem_of_getElem? (i := 88) rfl)) (gWW_in _ (List.mem_of_getElem? (i := 90) rfl)) (gWW_in _ (List.mem_of_getElem? (i := 91) rfl)) (gWW_in _ (List.mem_of_getElem? (i := 56) rfl)) (gWW_in _ (List.mem_of_getElem? (i := 89) rfl))
theorem gX0_someUnfitHasNoNext_X0_isFitting : GoodIn wsX0_someUnfitHasNoNext (wsV RX0 108 RX0 yX0_isFitting wsX0_isFitting) := gV_ok (fun w h => List.mem_cons_of_mem _ h) (gWW_in _ (List.mem_of_getElem? (i := 88) rfl)) (gWW_in _ (List.mem_of_getElem? (i := 90) rfl)) (gWW_in _ (List.mem_of_getElem? (i := 91) rfl)) (gWW_in _ (List.mem_of_getElem? (i := 56) rfl)) (gWW_in _ (List.mem_of_getElem? (i := 89) rfl))
theorem gX0_moveUnfitOn_X0_isFitting : GoodIn wsX0_moveUnfitOn (wsV RX0 108 RX0 yX0_isFitting wsX0_isFitting) := gV_ok (fun w h => List.mem_cons_of_mem _ h) (gWW_in _ (List.mem_of_getElem? (i := 88) rfl)) (gWW_in _ (List.mem_of_getElem? (i := 90) rfl)) (gWW_in _ (List.mem_of_getElem? (i := 91) rfl)) (gWW_in _ (List.mem_of_getElem? (i := 56) rfl)) (gWW_in _ (List.mem_of_getElem? (i := 89) rfl))
theorem gX0_valueOf_X0_isFromItsLine : GoodIn wsX0_valueOf (wsV RX0 119 RX0 yX0_isFromItsLine wsX0_isFromItsLine) := gV_ok (fun w h => List.mem_cons_of_mem _ h) (gWW_in _ (List.mem_of_getElem? (i := 100) rfl)) (gWW_in _ (List.mem_of_getElem? (i := 102) rfl)) (gWW_in _ (List.mem_of_getElem? (i := 103) rfl)) (gWW_in _ (List.mem_of_getElem? (i := 56) rfl)) (gWW_in _ (List.mem_of_getElem? (i := 101) rfl))
theorem gX0_isFromItsLine_X0_placeOf : GoodIn wsX0_isFromItsLine (va_wsS RX0 62 yX0_placeOf wsX0_placeOf) := gS_ok (fun w h => List.mem_cons_of_mem _ h) (gWW_in _ (List.mem_of_getElem? (i := 57) rfl)) (gWW_in _ (List.mem_of_getElem? (i := 59) rfl)) (gWW_in _ (List.mem_of_getElem? (i := 56) rfl)) (gWW_in _ (List.mem_of_getElem? (i := 58) rfl))
theorem gX0_isFitting_X0_placeOf : GoodIn wsX0_isFitting (va_wsS RX0 62 yX0_placeOf wsX0_placeOf) := gS_ok (fun w h => List.mem_cons_of_mem _ h) (gWW_in _ (List.mem_of_getElem? (i := 57) rfl)) (gWW_in _ (List.mem_of_getElem? (i := 59) rfl)) (gWW_in _ (List.mem_of_getElem? (i := 56) rfl)) (gWW_in _ (List.mem_of_getElem? (i := 58) rfl))
theorem gX0_isFitting_X0_valueOf : GoodIn wsX0_isFitting (wsV RX0 111 RX0 yX0_valueOf wsX0_valueOf) := gV_ok (fun w h => List.mem_cons_of_mem _ h) (gWW_in _ (List.mem_of_getElem? (i := 92) rfl)) (gWW_in _ (List.mem_of_getElem? (i := 94) rfl)) (gWW_in _ (List.mem_of_getElem? (i := 95) rfl)) (gWW_in _ (List.mem_of_getElem? (i := 56) rfl)) (gWW_in _ (List.mem_of_getElem? (i := 93) rfl))
theorem gX1_worth_X1_address : GoodIn wsX1_worth (wsV RX1 46 RX1 yX1_address wsX1_address) := gV_ok (fun w h => List.mem_cons_of_mem _ h) (gWW_in _ (List.mem_of_getElem? (i := 104) rfl)) (gWW_in _ (List.mem_of_getElem? (i := 106) rfl)) (gWW_in _ (List.mem_of_getElem? (i := 107) rfl)) (gWW_in _ (List.mem_of_getElem? (i := 108) rfl)) (gWW_in _ (List.mem_of_getElem? (i := 105) rfl))
theorem gX1_isFitting_X1_worth : GoodIn wsX1_isFitting (wsV RX1 50 RX1 yX1_worth wsX1_worth) := gV_ok (fun w h => List.mem_cons_of_mem _ h) (gWW_in _ (List.mem_of_getElem? (i := 109) rfl)) (gWW_in _ (List.mem_of_getElem? (i := 111) rfl)) (gWW_in _ (List.mem_of_getElem? (i := 112) rfl)) (gWW_in _ (List.mem_of_getElem? (i := 108) rfl)) (gWW_in _ (List.mem_of_getElem? (i := 110) rfl))
theorem gX1_settle_X1_address : GoodIn wsX1_settle (wsV RX1 46 RX1 yX1_address wsX1_address) := gV_ok (fun w h => List.mem_cons_of_mem _ h) (gWW_in _ (List.mem_of_getElem? (i := 104) rfl)) (gWW_in _ (List.mem_of_getElem? (i := 106) rfl)) (gWW_in _ (List.mem_of_getElem? (i := 107) rfl)) (gWW_in _ (List.mem_of_getElem? (i := 108) rfl)) (gWW_in _ (List.mem_of_getElem? (i := 105) rfl))
theorem gX1_settle_X1_isFitting : GoodIn wsX1_settle (wsV RX1 56 RX1 yX1_isFitting wsX1_isFitting) := gV_ok (fun w h => List.mem_cons_of_mem _ h) (gWW_in _ (List.mem_of_getElem? (i := 113) rfl)) (gWW_in _ (List.mem_of_getElem? (i := 115) rfl)) (gWW_in _ (List.mem_of_getElem? (i := 116) rfl)) (gWW_in _ (List.mem_of_getElem? (i := 108) rfl)) (gWW_in _ (List.mem_of_getElem? (i := 114) rfl))
theorem gX1_told_X1_address : GoodIn wsX1_told (wsV RX1 46 RX1 yX1_address wsX1_address) := gV_ok (fun w h => List.mem_cons_of_mem _ h) (gWW_in _ (List.mem_of_getElem? (i := 104) rfl)) (gWW_in _ (List.mem_of_getElem? (i := 106) rfl)) (gWW_in _ (List.mem_of_getElem? (i := 107) rfl)) (gWW_in _ (List.mem_of_getElem? (i := 108) rfl)) (gWW_in _ (List.mem_of_getElem? (i := 105) rfl))
theorem gX1_told_X1_isFitting : GoodIn wsX1_told (wsV RX1 56 RX1 yX1_isFitting wsX1_isFitting) := gV_ok (fun w h => List.mem_cons_of_mem _ h) (gWW_in _ (List.mem_of_getElem? (i := 113) rfl)) (gWW_in _ (List.mem_of_getElem? (i := 115) rfl)) (gWW_in _ (List.mem_of_getElem? (i := 116) rfl)) (gWW_in _ (List.mem_of_getElem? (i := 108) rfl)) (gWW_in _ (List.mem_of_getElem? (i := 114) rfl))
theorem gX1_value_X1_worth : GoodIn wsX1_value (wsV RX1 50 RX1 yX1_worth wsX1_worth) := gV_ok (fun w h => List.mem_cons_of_mem _ h) (gWW_in _ (List.mem_of_getElem? (i := 109) rfl)) (gWW_in _ (List.mem_of_getElem? (i := 111) rfl)) (gWW_in _ (List.mem_of_getElem? (i := 112) rfl)) (gWW_in _ (List.mem_of_getElem? (i := 108) rfl)) (gWW_in _ (List.mem_of_getElem? (i := 110) rfl))
theorem gX1_wrong_X1_isFitting : GoodIn wsX1_wrong (wsV RX1 56 RX1 yX1_isFitting wsX1_isFitting) := gV_ok (fun w h => List.mem_cons_of_mem _ h) (gWW_in _ (List.mem_of_getElem? (i := 113) rfl)) (gWW_in _ (List.mem_of_getElem? (i := 115) rfl)) (gWW_in _ (List.mem_of_getElem? (i := 116) rfl)) (gWW_in _ (List.mem_of_getElem? (i := 108) rfl)) (gWW_in _ (List.mem_of_getElem? (i := 114) rfl))
theorem gL_line_X0_line : GoodIn wsL_line (wsV RL 7 RX0 yX0_line wsX0_line) := gV_ok (fun w h => List.mem_cons_of_mem _ h) (gWW_in _ (List.mem_of_getElem? (i := 117) rfl)) (gWW_in _ (List.mem_of_getElem? (i := 119) rfl)) (gWW_in _ (List.mem_of_getElem? (i := 120) rfl)) (gWW_in _ (List.mem_of_getElem? (i := 56) rfl)) (gWW_in _ (List.mem_of_getElem? (i := 118) rfl))
theorem gL_form_X0_form : GoodIn wsL_form (wsV RL 15 RX0 yX0_form wsX0_form) := gV_ok (fun w h => List.mem_cons_of_mem _ h) (gWW_in _ (List.mem_of_getElem? (i := 121) rfl)) (gWW_in _ (List.mem_of_getElem? (i := 123) rfl)) (gWW_in _ (List.mem_of_getElem? (i := 124) rfl)) (gWW_in _ (List.mem_of_getElem? (i := 56) rfl)) (gWW_in _ (List.mem_of_getElem? (i := 122) rfl))
theorem gL_aim_X0_aim : GoodIn wsL_aim (wsV RL 21 RX0 yX0_aim wsX0_aim) := gV_ok (fun w h => List.mem_cons_of_mem _ h) (gWW_in _ (List.mem_of_getElem? (i := 125) rfl)) (gWW_in _ (List.mem_of_getElem? (i := 127) rfl)) (gWW_in _ (List.mem_of_getElem? (i := 128) rfl)) (gWW_in _ (List.mem_of_getElem? (i := 56) rfl)) (gWW_in _ (List.mem_of_getElem? (i := 126) rfl))
theorem gL_settle_X0_settle : GoodIn wsL_settle (wsV RL 27 RX0 yX0_settle wsX0_settle) := gV_ok (fun w h => List.mem_cons_of_mem _ h) (gWW_in _ (List.mem_of_getElem? (i := 129) rfl)) (gWW_in _ (List.mem_of_getElem? (i := 131) rfl)) (gWW_in _ (List.mem_of_getElem? (i := 132) rfl)) (gWW_in _ (List.mem_of_getElem? (i := 56) rfl)) (gWW_in _ (List.mem_of_getElem? (i := 130) rfl))
theorem gL_told_X0_told : GoodIn wsL_told (wsV RL 32 RX0 yX0_told wsX0_told) := gV_ok (fun w h => List.mem_cons_of_mem _ h) (gWW_in _ (List.mem_of_getElem? (i := 133) rfl)) (gWW_in _ (List.mem_of_getElem? (i := 135) rfl)) (gWW_in _ (List.mem_of_getElem? (i := 136) rfl)) (gWW_in _ (List.mem_of_getElem? (i := 56) rfl)) (gWW_in _ (List.mem_of_getElem? (i := 134) rfl))
theorem gL_value_X0_value : GoodIn wsL_value (wsV RL 36 RX0 yX0_value wsX0_value) := gV_ok (fun w h => List.mem_cons_of_mem _ h) (gWW_in _ (List.mem_of_getElem? (i := 137) rfl)) (gWW_in _ (List.mem_of_getElem? (i := 139) rfl)) (gWW_in _ (List.mem_of_getElem? (i := 140) rfl)) (gWW_in _ (List.mem_of_getElem? (i := 56) rfl)) (gWW_in _ (List.mem_of_getElem? (i := 138) rfl))
theorem gL_wrong_X0_wrong : GoodIn wsL_wrong (wsV RL 40 RX0 yX0_wrong wsX0_wrong) := gV_ok (fun w h => List.mem_cons_of_mem _ h) (gWW_in _ (List.mem_of_getElem? (i := 141) rfl)) (gWW_in _ (List.mem_of_getElem? (i := 143) rfl)) (gWW_in _ (List.mem_of_getElem? (i := 144) rfl)) (gWW_in _ (List.mem_of_getElem? (i := 56) rfl)) (gWW_in _ (List.mem_of_getElem? (i := 142) rfl))
theorem gL_law_X0_init : GoodIn lw_tbl wsX0_init := gI_ok gTT_tbl (gWW_in _ (List.mem_of_getElem? (i := 146) rfl))
theorem glL_law_X0_init : Cond.methodLink RL 43 yX0_init ∈ gTT := (gWW_in _ (List.mem_of_getElem? (i := 145) rfl))
theorem gm_X0_init : Cond.instanceMethod yX0_init ∈ gTT := (gWW_in _ (List.mem_of_getElem? (i := 147) rfl))
theorem gL_law_X1_init : GoodIn lw_tbl wsX1_init := gI_ok gTT_tbl (gWW_in _ (List.mem_of_getElem? (i := 149) rfl))
theorem glL_law_X1_init : Cond.methodLink RL 46 yX1_init ∈ gTT := (gWW_in _ (List.mem_of_getElem? (i := 148) rfl))
theorem gm_X1_init : Cond.instanceMethod yX1_init ∈ gTT := (gWW_in _ (List.mem_of_getElem? (i := 150) rfl))
theorem gL_law_L_line : GoodIn lw_tbl (va_wsS RL 47 yL_line wsL_line) := gS_ok gTT_tbl (gWW_in _ (List.mem_of_getElem? (i := 151) rfl)) (gWW_in _ (List.mem_of_getElem? (i := 153) rfl)) (gWW_in _ (List.mem_of_getElem? (i := 154) rfl)) (gWW_in _ (List.mem_of_getElem? (i := 152) rfl))
theorem gL_law_X1_line : GoodIn lw_tbl (wsV RL 52 RX1 yX1_line wsX1_line) := gV_ok gTT_tbl (gWW_in _ (List.mem_of_getElem? (i := 155) rfl)) (gWW_in _ (List.mem_of_getElem? (i := 157) rfl)) (gWW_in _ (List.mem_of_getElem? (i := 158) rfl)) (gWW_in _ (List.mem_of_getElem? (i := 108) rfl)) (gWW_in _ (List.mem_of_getElem? (i := 156) rfl))
theorem gL_law_X1_thrown : GoodIn lw_tbl (wsV RL 53 RX1 yX1_thrown wsX1_thrown) := gV_ok gTT_tbl (gWW_in _ (List.mem_of_getElem? (i := 159) rfl)) (gWW_in _ (List.mem_of_getElem? (i := 161) rfl)) (gWW_in _ (List.mem_of_getElem? (i := 162) rfl)) (gWW_in _ (List.mem_of_getElem? (i := 108) rfl)) (gWW_in _ (List.mem_of_getElem? (i := 160) rfl))
theorem gL_law_L_form : GoodIn lw_tbl (va_wsS RL 56 yL_form wsL_form) := gS_ok gTT_tbl (gWW_in _ (List.mem_of_getElem? (i := 163) rfl)) (gWW_in _ (List.mem_of_getElem? (i := 165) rfl)) (gWW_in _ (List.mem_of_getElem? (i := 154) rfl)) (gWW_in _ (List.mem_of_getElem? (i := 164) rfl))
theorem gL_law_X1_form : GoodIn lw_tbl (wsV RL 59 RX1 yX1_form wsX1_form) := gV_ok gTT_tbl (gWW_in _ (List.mem_of_getElem? (i := 166) rfl)) (gWW_in _ (List.mem_of_getElem? (i := 168) rfl)) (gWW_in _ (List.mem_of_getElem? (i := 169) rfl)) (gWW_in _ (List.mem_of_getElem? (i := 108) rfl)) (gWW_in _ (List.mem_of_getElem? (i := 167) rfl))
theorem gL_law_L_aim : GoodIn lw_tbl (va_wsS RL 60 yL_aim wsL_aim) := gS_ok gTT_tbl (gWW_in _ (List.mem_of_getElem? (i := 170) rfl)) (gWW_in _ (List.mem_of_getElem? (i := 172) rfl)) (gWW_in _ (List.mem_of_getElem? (i := 154) rfl)) (gWW_in _ (List.mem_of_getElem? (i := 171) rfl))
theorem gL_law_X1_aim : GoodIn lw_tbl (wsV RL 63 RX1 yX1_aim wsX1_aim) := gV_ok gTT_tbl (gWW_in _ (List.mem_of_getElem? (i := 173) rfl)) (gWW_in _ (List.mem_of_getElem? (i := 175) rfl)) (gWW_in _ (List.mem_of_getElem? (i := 176) rfl)) (gWW_in _ (List.mem_of_getElem? (i := 108) rfl)) (gWW_in _ (List.mem_of_getElem? (i := 174) rfl))
theorem gL_law_X0_clear : GoodIn lw_tbl (wsV RL 64 RX0 yX0_clear wsX0_clear) := gV_ok gTT_tbl (gWW_in _ (List.mem_of_getElem? (i := 177) rfl)) (gWW_in _ (List.mem_of_getElem? (i := 179) rfl)) (gWW_in _ (List.mem_of_getElem? (i := 180) rfl)) (gWW_in _ (List.mem_of_getElem? (i := 56) rfl)) (gWW_in _ (List.mem_of_getElem? (i := 178) rfl))
theorem gL_law_X1_clear : GoodIn lw_tbl (wsV RL 67 RX1 yX1_clear wsX1_clear) := gV_ok gTT_tbl (gWW_in _ (List.mem_of_getElem? (i := 181) rfl)) (gWW_in _ (List.mem_of_getElem? (i := 183) rfl)) (gWW_in _ (List.mem_of_getElem? (i := 184) rfl)) (gWW_in _ (List.mem_of_getElem? (i := 108) rfl)) (gWW_in _ (List.mem_of_getElem? (i := 182) rfl))
theorem gL_law_L_settle : GoodIn lw_tbl (va_wsS RL 68 yL_settle wsL_settle) := gS_ok gTT_tbl (gWW_in _ (List.mem_of_getElem? (i := 185) rfl)) (gWW_in _ (List.mem_of_getElem? (i := 187) rfl)) (gWW_in _ (List.mem_of_getElem? (i := 154) rfl)) (gWW_in _ (List.mem_of_getElem? (i := 186) rfl))
theorem gL_law_X1_settle : GoodIn lw_tbl (wsV RL 70 RX1 yX1_settle wsX1_settle) := gV_ok gTT_tbl (gWW_in _ (List.mem_of_getElem? (i := 188) rfl)) (gWW_in _ (List.mem_of_getElem? (i := 190) rfl)) (gWW_in _ (List.mem_of_getElem? (i := 191) rfl)) (gWW_in _ (List.mem_of_getElem? (i := 108) rfl)) (gWW_in _ (List.mem_of_getElem? (i := 189) rfl))
theorem gL_law_L_told : GoodIn lw_tbl (va_wsS RL 71 yL_told wsL_told) := gS_ok gTT_tbl (gWW_in _ (List.mem_of_getElem? (i := 192) rfl)) (gWW_in _ (List.mem_of_getElem? (i := 194) rfl)) (gWW_in _ (List.mem_of_getElem? (i := 154) rfl)) (gWW_in _ (List.mem_of_getElem? (i := 193) rfl))
theorem gL_law_X1_told : GoodIn lw_tbl (wsV RL 74 RX1 yX1_told wsX1_told) := gV_ok gTT_tbl (gWW_in _ (List.mem_of_getElem? (i := 195) rfl)) (gWW_in _ (List.mem_of_getElem? (i := 197) rfl)) (gWW_in _ (List.mem_of_getElem? (i := 198) rfl)) (gWW_in _ (List.mem_of_getElem? (i := 108) rfl)) (gWW_in _ (List.mem_of_getElem? (i := 196) rfl))
theorem gL_law_L_value : GoodIn lw_tbl (va_wsS RL 75 yL_value wsL_value) := gS_ok gTT_tbl (gWW_in _ (List.mem_of_getElem? (i := 199) rfl)) (gWW_in _ (List.mem_of_getElem? (i := 201) rfl)) (gWW_in _ (List.mem_of_getElem? (i := 154) rfl)) (gWW_in _ (List.mem_of_getElem? (i := 200) rfl))
theorem gL_law_X1_value : GoodIn lw_tbl (wsV RL 78 RX1 yX1_value wsX1_value) := gV_ok gTT_tbl (gWW_in _ (List.mem_of_getElem? (i := 202) rfl)) (gWW_in _ (List.mem_of_getElem? (i := 204) rfl)) (gWW_in _ (List.mem_of_getElem? (i := 205) rfl)) (gWW_in _ (List.mem_of_getElem? (i := 108) rfl)) (gWW_in _ (List.mem_of_getElem? (i := 203) rfl))
theorem gL_law_L_wrong : GoodIn lw_tbl (va_wsS RL 79 yL_wrong wsL_wrong) := gS_ok gTT_tbl (gWW_in _ (List.mem_of_getElem? (i := 206) rfl)) (gWW_in _ (List.mem_of_getElem? (i := 208) rfl)) (gWW_in _ (List.mem_of_getElem? (i := 154) rfl)) (gWW_in _ (List.mem_of_getElem? (i := 207) rfl))
theorem gL_law_X1_wrong : GoodIn lw_tbl (wsV RL 81 RX1 yX1_wrong wsX1_wrong) := gV_ok gTT_tbl (gWW_in _ (List.mem_of_getElem? (i := 209) rfl)) (gWW_in _ (List.mem_of_getElem? (i := 211) rfl)) (gWW_in _ (List.mem_of_getElem? (i := 212) rfl)) (gWW_in _ (List.mem_of_getElem? (i := 108) rfl)) (gWW_in _ (List.mem_of_getElem? (i := 210) rfl))
