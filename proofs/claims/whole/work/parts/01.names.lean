/-! names: classes, fields, methods; words by their places in the tables (written by names.py) -/
def RX0 : String := "SmoothedGrams$Chance"
def RX1 : String := "SmoothedGrams$Counts"
def RX2 : String := "SmoothedGrams$Natural"
def RX3 : String := "SmoothedGrams$Score"
def RX4 : String := "SmoothedGrams$Sentences"
def RX5 : String := "SmoothedGrams"
def RX6 : String := "SmoothedGramsModel"
def RL : String := "SmoothedGramsLaw"
def RJ6 : String := "java/lang/Integer"
def RJ9 : String := "java/lang/Math"
def TX0 : u_T := fun k => match k with
  | 0 => ("SmoothedGrams$Chance", "over", "J", false)
  | _ => ("SmoothedGrams$Chance", "under", "J", false)
def tyX0 : Nat → FieldType := fun k => match k with
  | 0 => .long
  | _ => .long
theorem nmX0 : ∀ a, a < 2 → ∀ b, b < 2 → a ≠ b → (TX0 a).2.1 ≠ (TX0 b).2.1 := by decide +kernel
theorem tyX0_ok : ∀ k, k < 2 → parseFieldDescriptor (TX0 k).2.2.1 = some (tyX0 k) := by decide +kernel
def TX1 : u_T := fun k => match k with
  | 0 => ("SmoothedGrams$Counts", "ones", "[I", true)
  | 1 => ("SmoothedGrams$Counts", "twos", "[I", true)
  | 2 => ("SmoothedGrams$Counts", "threes", "[I", true)
  | _ => ("SmoothedGrams$Counts", "highest", "I", false)
def tyX1 : Nat → FieldType := fun k => match k with
  | 0 => .array .int
  | 1 => .array .int
  | 2 => .array .int
  | _ => .int
theorem nmX1 : ∀ a, a < 4 → ∀ b, b < 4 → a ≠ b → (TX1 a).2.1 ≠ (TX1 b).2.1 := by decide +kernel
theorem tyX1_ok : ∀ k, k < 4 → parseFieldDescriptor (TX1 k).2.2.1 = some (tyX1 k) := by decide +kernel
def TX2 : u_T := fun k => match k with
  | _ => ("SmoothedGrams$Natural", "parts", "[I", true)
def tyX2 : Nat → FieldType := fun k => match k with
  | _ => .array .int
theorem nmX2 : ∀ a, a < 1 → ∀ b, b < 1 → a ≠ b → (TX2 a).2.1 ≠ (TX2 b).2.1 := by decide +kernel
theorem tyX2_ok : ∀ k, k < 1 → parseFieldDescriptor (TX2 k).2.2.1 = some (tyX2 k) := by decide +kernel
def TX3 : u_T := fun k => match k with
  | 0 => ("SmoothedGrams$Score", "over", "LSmoothedGrams$Natural;", true)
  | _ => ("SmoothedGrams$Score", "under", "LSmoothedGrams$Natural;", true)
def tyX3 : Nat → FieldType := fun k => match k with
  | 0 => .object "SmoothedGrams$Natural"
  | _ => .object "SmoothedGrams$Natural"
theorem nmX3 : ∀ a, a < 2 → ∀ b, b < 2 → a ≠ b → (TX3 a).2.1 ≠ (TX3 b).2.1 := by decide +kernel
theorem tyX3_ok : ∀ k, k < 2 → parseFieldDescriptor (TX3 k).2.2.1 = some (tyX3 k) := by decide +kernel
def TX4 : u_T := fun k => match k with
  | 0 => ("SmoothedGrams$Sentences", "rows", "[[I", true)
  | 1 => ("SmoothedGrams$Sentences", "lengths", "[I", true)
  | _ => ("SmoothedGrams$Sentences", "learned", "I", false)
def tyX4 : Nat → FieldType := fun k => match k with
  | 0 => .array (.array .int)
  | 1 => .array .int
  | _ => .int
theorem nmX4 : ∀ a, a < 3 → ∀ b, b < 3 → a ≠ b → (TX4 a).2.1 ≠ (TX4 b).2.1 := by decide +kernel
theorem tyX4_ok : ∀ k, k < 3 → parseFieldDescriptor (TX4 k).2.2.1 = some (tyX4 k) := by decide +kernel
def TX5 : u_T := fun k => match k with
  | 0 => ("SmoothedGrams", "sentences", "LSmoothedGrams$Sentences;", true)
  | 1 => ("SmoothedGrams", "counts", "LSmoothedGrams$Counts;", true)
  | 2 => ("SmoothedGrams", "eighths", "[I", true)
  | 3 => ("SmoothedGrams", "chance", "LSmoothedGrams$Chance;", true)
  | 4 => ("SmoothedGrams", "current", "LSmoothedGrams$Score;", true)
  | 5 => ("SmoothedGrams", "kept", "LSmoothedGrams$Score;", true)
  | 6 => ("SmoothedGrams", "currentCrossed", "LSmoothedGrams$Natural;", true)
  | _ => ("SmoothedGrams", "keptCrossed", "LSmoothedGrams$Natural;", true)
def tyX5 : Nat → FieldType := fun k => match k with
  | 0 => .object "SmoothedGrams$Sentences"
  | 1 => .object "SmoothedGrams$Counts"
  | 2 => .array .int
  | 3 => .object "SmoothedGrams$Chance"
  | 4 => .object "SmoothedGrams$Score"
  | 5 => .object "SmoothedGrams$Score"
  | 6 => .object "SmoothedGrams$Natural"
  | _ => .object "SmoothedGrams$Natural"
theorem nmX5 : ∀ a, a < 8 → ∀ b, b < 8 → a ≠ b → (TX5 a).2.1 ≠ (TX5 b).2.1 := by decide +kernel
theorem tyX5_ok : ∀ k, k < 8 → parseFieldDescriptor (TX5 k).2.2.1 = some (tyX5 k) := by decide +kernel
def TX6 : u_T := fun k => match k with
  | 0 => ("SmoothedGramsModel", "order", "I", false)
  | 1 => ("SmoothedGramsModel", "eighths", "[I", true)
  | 2 => ("SmoothedGramsModel", "sentences", "I", false)
  | 3 => ("SmoothedGramsModel", "lengths", "[I", true)
  | 4 => ("SmoothedGramsModel", "words", "[I", true)
  | 5 => ("SmoothedGramsModel", "events", "I", false)
  | 6 => ("SmoothedGramsModel", "what", "[I", true)
  | 7 => ("SmoothedGramsModel", "before", "[I", true)
  | 8 => ("SmoothedGramsModel", "farther", "[I", true)
  | 9 => ("SmoothedGramsModel", "over", "J", false)
  | 10 => ("SmoothedGramsModel", "under", "J", false)
  | _ => ("SmoothedGramsModel", "limbs", "[I", true)
def tyX6 : Nat → FieldType := fun k => match k with
  | 0 => .int
  | 1 => .array .int
  | 2 => .int
  | 3 => .array .int
  | 4 => .array .int
  | 5 => .int
  | 6 => .array .int
  | 7 => .array .int
  | 8 => .array .int
  | 9 => .long
  | 10 => .long
  | _ => .array .int
theorem nmX6 : ∀ a, a < 12 → ∀ b, b < 12 → a ≠ b → (TX6 a).2.1 ≠ (TX6 b).2.1 := by decide +kernel
theorem tyX6_ok : ∀ k, k < 12 → parseFieldDescriptor (TX6 k).2.2.1 = some (tyX6 k) := by decide +kernel
abbrev vwCl : List vw_C := [(RX0, TX0, 2), (RX1, TX1, 4), (RX2, TX2, 1), (RX3, TX3, 2), (RX4, TX4, 3), (RX5, TX5, 8), (RX6, TX6, 12)]
abbrev cX5_init : ByteArray := prog_1_method_1_code
def yX5_init : MethodName := ⟨RX5, "<init>", "()V"⟩
abbrev cX4_init : ByteArray := prog_6_method_1_code
def yX4_init : MethodName := ⟨RX4, "<init>", "()V"⟩
abbrev cX1_init : ByteArray := prog_3_method_1_code
def yX1_init : MethodName := ⟨RX1, "<init>", "()V"⟩
abbrev cX0_init : ByteArray := prog_2_method_1_code
def yX0_init : MethodName := ⟨RX0, "<init>", "()V"⟩
abbrev cX3_init : ByteArray := prog_5_method_1_code
def yX3_init : MethodName := ⟨RX3, "<init>", "()V"⟩
abbrev cX2_init : ByteArray := prog_4_method_1_code
def yX2_init : MethodName := ⟨RX2, "<init>", "(I)V"⟩
abbrev cX3_setOne : ByteArray := prog_5_method_2_code
def yX3_setOne : MethodName := ⟨RX3, "setOne", "()V"⟩
abbrev cX2_setOne : ByteArray := prog_4_method_2_code
def yX2_setOne : MethodName := ⟨RX2, "setOne", "()V"⟩
abbrev cX5_order : ByteArray := prog_1_method_2_code
def yX5_order : MethodName := ⟨RX5, "order", "(I)Z"⟩
abbrev cX5_isLevel : ByteArray := prog_1_method_19_code
def yX5_isLevel : MethodName := ⟨RX5, "isLevel", "(I)Z"⟩
abbrev cX5_discount : ByteArray := prog_1_method_3_code
def yX5_discount : MethodName := ⟨RX5, "discount", "(II)Z"⟩
abbrev cX5_word : ByteArray := prog_1_method_4_code
def yX5_word : MethodName := ⟨RX5, "word", "(I)Z"⟩
abbrev cX4_append : ByteArray := prog_6_method_3_code
def yX4_append : MethodName := ⟨RX4, "append", "(I)Z"⟩
abbrev cX5_learn : ByteArray := prog_1_method_5_code
def yX5_learn : MethodName := ⟨RX5, "learn", "()I"⟩
abbrev cX5_countOpen : ByteArray := prog_1_method_25_code
def yX5_countOpen : MethodName := ⟨RX5, "countOpen", "(I)V"⟩
abbrev cX4_openLength : ByteArray := prog_6_method_2_code
def yX4_openLength : MethodName := ⟨RX4, "openLength", "()I"⟩
abbrev cX4_symbolAt : ByteArray := prog_6_method_7_code
def yX4_symbolAt : MethodName := ⟨RX4, "symbolAt", "(I)I"⟩
abbrev cX1_addEvent : ByteArray := prog_3_method_2_code
def yX1_addEvent : MethodName := ⟨RX1, "addEvent", "(IIII)V"⟩
abbrev cX5_contextOf : ByteArray := prog_1_method_23_code
def yX5_contextOf : MethodName := ⟨RX5, "contextOf", "(III)I"⟩
abbrev cX4_close : ByteArray := prog_6_method_5_code
def yX4_close : MethodName := ⟨RX4, "close", "()V"⟩
abbrev cX5_erase : ByteArray := prog_1_method_6_code
def yX5_erase : MethodName := ⟨RX5, "erase", "()I"⟩
abbrev cX4_clearOpen : ByteArray := prog_6_method_4_code
def yX4_clearOpen : MethodName := ⟨RX4, "clearOpen", "()V"⟩
abbrev cX5_forget : ByteArray := prog_1_method_7_code
def yX5_forget : MethodName := ⟨RX5, "forget", "()I"⟩
abbrev cX4_reopen : ByteArray := prog_6_method_6_code
def yX4_reopen : MethodName := ⟨RX4, "reopen", "()V"⟩
abbrev cX5_count : ByteArray := prog_1_method_8_code
def yX5_count : MethodName := ⟨RX5, "count", "(IIII)I"⟩
abbrev cX5_isContext : ByteArray := prog_1_method_21_code
def yX5_isContext : MethodName := ⟨RX5, "isContext", "(III)Z"⟩
abbrev cX5_isSymbol : ByteArray := prog_1_method_20_code
def yX5_isSymbol : MethodName := ⟨RX5, "isSymbol", "(I)Z"⟩
abbrev cX1_ofRow : ByteArray := prog_3_method_4_code
def yX1_ofRow : MethodName := ⟨RX1, "ofRow", "(II)I"⟩
abbrev cX1_rawOf : ByteArray := prog_3_method_3_code
def yX1_rawOf : MethodName := ⟨RX1, "rawOf", "(II)I"⟩
abbrev cX1_symbolsBefore : ByteArray := prog_3_method_5_code
def yX1_symbolsBefore : MethodName := ⟨RX1, "symbolsBefore", "(II)I"⟩
abbrev cX5_rowsOf : ByteArray := prog_1_method_24_code
def yX5_rowsOf : MethodName := ⟨RX5, "rowsOf", "(I)I"⟩
abbrev cX5_total : ByteArray := prog_1_method_9_code
def yX5_total : MethodName := ⟨RX5, "total", "(III)I"⟩
abbrev cX1_sumBehind : ByteArray := prog_3_method_6_code
def yX1_sumBehind : MethodName := ⟨RX1, "sumBehind", "(II)I"⟩
abbrev cX5_kinds : ByteArray := prog_1_method_10_code
def yX5_kinds : MethodName := ⟨RX5, "kinds", "(III)I"⟩
abbrev cX1_kindsBehind : ByteArray := prog_3_method_7_code
def yX1_kindsBehind : MethodName := ⟨RX1, "kindsBehind", "(II)I"⟩
abbrev cX5_grams : ByteArray := prog_1_method_11_code
def yX5_grams : MethodName := ⟨RX5, "grams", "(I)I"⟩
abbrev cX5_gram : ByteArray := prog_1_method_12_code
def yX5_gram : MethodName := ⟨RX5, "gram", "(II)I"⟩
abbrev cX5_top : ByteArray := prog_1_method_13_code
def yX5_top : MethodName := ⟨RX5, "top", "(III)J"⟩
abbrev cX5_isAsked : ByteArray := prog_1_method_22_code
def yX5_isAsked : MethodName := ⟨RX5, "isAsked", "(III)Z"⟩
abbrev cX0_find : ByteArray := prog_2_method_2_code
def yX0_find : MethodName := ⟨RX0, "find", "(LSmoothedGrams$Counts;[IIII)V"⟩
abbrev cX0_smooth : ByteArray := prog_2_method_3_code
def yX0_smooth : MethodName := ⟨RX0, "smooth", "(LSmoothedGrams$Counts;IIII)V"⟩
abbrev cJ9_max : ByteArray := prog_10_method_65_code
def yJ9_max : MethodName := ⟨RJ9, "max", "(II)I"⟩
abbrev cX0_reduce : ByteArray := prog_2_method_4_code
def yX0_reduce : MethodName := ⟨RX0, "reduce", "()V"⟩
abbrev cX5_bottom : ByteArray := prog_1_method_14_code
def yX5_bottom : MethodName := ⟨RX5, "bottom", "(III)J"⟩
abbrev cX5_likeliest : ByteArray := prog_1_method_15_code
def yX5_likeliest : MethodName := ⟨RX5, "likeliest", "(II)I"⟩
abbrev cX5_score : ByteArray := prog_1_method_16_code
def yX5_score : MethodName := ⟨RX5, "score", "(II)I"⟩
abbrev cX5_scoreOpen : ByteArray := prog_1_method_26_code
def yX5_scoreOpen : MethodName := ⟨RX5, "scoreOpen", "()V"⟩
abbrev cX3_multiply : ByteArray := prog_5_method_3_code
def yX3_multiply : MethodName := ⟨RX3, "multiply", "(LSmoothedGrams$Chance;)V"⟩
abbrev cX2_multiply : ByteArray := prog_4_method_5_code
def yX2_multiply : MethodName := ⟨RX2, "multiply", "(J)V"⟩
abbrev cX2_part : ByteArray := prog_4_method_4_code
def yX2_part : MethodName := ⟨RX2, "part", "(I)I"⟩
abbrev cX5_keep : ByteArray := prog_1_method_17_code
def yX5_keep : MethodName := ⟨RX5, "keep", "()V"⟩
abbrev cX3_copy : ByteArray := prog_5_method_4_code
def yX3_copy : MethodName := ⟨RX3, "copy", "(LSmoothedGrams$Score;)V"⟩
abbrev cX2_copy : ByteArray := prog_4_method_3_code
def yX2_copy : MethodName := ⟨RX2, "copy", "(LSmoothedGrams$Natural;)V"⟩
abbrev cX5_against : ByteArray := prog_1_method_18_code
def yX5_against : MethodName := ⟨RX5, "against", "()I"⟩
abbrev cX2_setProduct : ByteArray := prog_4_method_6_code
def yX2_setProduct : MethodName := ⟨RX2, "setProduct", "(LSmoothedGrams$Natural;LSmoothedGrams$Natural;)V"⟩
abbrev cX2_addShifted : ByteArray := prog_4_method_7_code
def yX2_addShifted : MethodName := ⟨RX2, "addShifted", "(LSmoothedGrams$Natural;JI)V"⟩
abbrev cX2_compare : ByteArray := prog_4_method_8_code
def yX2_compare : MethodName := ⟨RX2, "compare", "(LSmoothedGrams$Natural;)I"⟩
abbrev cJ6_compareUnsigned : ByteArray := prog_9_method_41_code
def yJ6_compareUnsigned : MethodName := ⟨RJ6, "compareUnsigned", "(II)I"⟩
abbrev cJ6_compare : ByteArray := prog_9_method_40_code
def yJ6_compare : MethodName := ⟨RJ6, "compare", "(II)I"⟩
abbrev cX6_init : ByteArray := prog_8_method_1_code
def yX6_init : MethodName := ⟨RX6, "<init>", "()V"⟩
abbrev cX6_order : ByteArray := prog_8_method_2_code
def yX6_order : MethodName := ⟨RX6, "order", "(I)Z"⟩
abbrev cX6_discount : ByteArray := prog_8_method_3_code
def yX6_discount : MethodName := ⟨RX6, "discount", "(II)Z"⟩
abbrev cX6_word : ByteArray := prog_8_method_4_code
def yX6_word : MethodName := ⟨RX6, "word", "(I)Z"⟩
abbrev cX6_learn : ByteArray := prog_8_method_5_code
def yX6_learn : MethodName := ⟨RX6, "learn", "()I"⟩
abbrev cX6_erase : ByteArray := prog_8_method_6_code
def yX6_erase : MethodName := ⟨RX6, "erase", "()I"⟩
abbrev cX6_forget : ByteArray := prog_8_method_7_code
def yX6_forget : MethodName := ⟨RX6, "forget", "()I"⟩
abbrev cX6_count : ByteArray := prog_8_method_15_code
def yX6_count : MethodName := ⟨RX6, "count", "(IIII)I"⟩
abbrev cX6_look : ByteArray := prog_8_method_9_code
def yX6_look : MethodName := ⟨RX6, "look", "()V"⟩
abbrev cX6_symbolAt : ByteArray := prog_8_method_8_code
def yX6_symbolAt : MethodName := ⟨RX6, "symbolAt", "(II)I"⟩
abbrev cX6_areSymbols : ByteArray := prog_8_method_14_code
def yX6_areSymbols : MethodName := ⟨RX6, "areSymbols", "(III)Z"⟩
abbrev cX6_isLevel : ByteArray := prog_8_method_11_code
def yX6_isLevel : MethodName := ⟨RX6, "isLevel", "(I)Z"⟩
abbrev cX6_isSymbol : ByteArray := prog_8_method_10_code
def yX6_isSymbol : MethodName := ⟨RX6, "isSymbol", "(I)Z"⟩
abbrev cX6_countOf : ByteArray := prog_8_method_13_code
def yX6_countOf : MethodName := ⟨RX6, "countOf", "(IIII)I"⟩
abbrev cX6_raw : ByteArray := prog_8_method_12_code
def yX6_raw : MethodName := ⟨RX6, "raw", "(IIII)I"⟩
abbrev cX6_total : ByteArray := prog_8_method_18_code
def yX6_total : MethodName := ⟨RX6, "total", "(III)I"⟩
abbrev cX6_totalOf : ByteArray := prog_8_method_16_code
def yX6_totalOf : MethodName := ⟨RX6, "totalOf", "(III)I"⟩
abbrev cX6_kinds : ByteArray := prog_8_method_19_code
def yX6_kinds : MethodName := ⟨RX6, "kinds", "(III)I"⟩
abbrev cX6_kindsOf : ByteArray := prog_8_method_17_code
def yX6_kindsOf : MethodName := ⟨RX6, "kindsOf", "(III)I"⟩
abbrev cX6_grams : ByteArray := prog_8_method_21_code
def yX6_grams : MethodName := ⟨RX6, "grams", "(I)I"⟩
abbrev cX6_gramOf : ByteArray := prog_8_method_20_code
def yX6_gramOf : MethodName := ⟨RX6, "gramOf", "(II)I"⟩
abbrev cX6_gram : ByteArray := prog_8_method_22_code
def yX6_gram : MethodName := ⟨RX6, "gram", "(II)I"⟩
abbrev cX6_top : ByteArray := prog_8_method_25_code
def yX6_top : MethodName := ⟨RX6, "top", "(III)J"⟩
abbrev cX6_isWord : ByteArray := prog_8_method_24_code
def yX6_isWord : MethodName := ⟨RX6, "isWord", "(I)Z"⟩
abbrev cX6_reckon : ByteArray := prog_8_method_23_code
def yX6_reckon : MethodName := ⟨RX6, "reckon", "(III)V"⟩
abbrev cX6_bottom : ByteArray := prog_8_method_26_code
def yX6_bottom : MethodName := ⟨RX6, "bottom", "(III)J"⟩
abbrev cX6_likeliest : ByteArray := prog_8_method_27_code
def yX6_likeliest : MethodName := ⟨RX6, "likeliest", "(II)I"⟩
abbrev cX6_score : ByteArray := prog_8_method_31_code
def yX6_score : MethodName := ⟨RX6, "score", "(II)I"⟩
abbrev cX6_findScore : ByteArray := prog_8_method_30_code
def yX6_findScore : MethodName := ⟨RX6, "findScore", "()V"⟩
abbrev cX6_setOne : ByteArray := prog_8_method_28_code
def yX6_setOne : MethodName := ⟨RX6, "setOne", "(I)V"⟩
abbrev cX6_times : ByteArray := prog_8_method_29_code
def yX6_times : MethodName := ⟨RX6, "times", "(IJ)V"⟩
abbrev cX6_keep : ByteArray := prog_8_method_32_code
def yX6_keep : MethodName := ⟨RX6, "keep", "()V"⟩
abbrev cX6_against : ByteArray := prog_8_method_34_code
def yX6_against : MethodName := ⟨RX6, "against", "()I"⟩
abbrev cX6_multiply : ByteArray := prog_8_method_33_code
def yX6_multiply : MethodName := ⟨RX6, "multiply", "(III)V"⟩
abbrev cL_law : ByteArray := code
/-- the words that every method takes: those of the tables that stay -/
def sgT : List Cond := lw_tbl.filter goodWord
theorem se_X5_countOpen : Cond.selects RX5 yX5_countOpen yX5_countOpen ∈ sgT := List.mem_filter.mpr ⟨List.mem_append_left _ (List.mem_of_getElem? (i := 0) (by decide +kernel)), by decide +kernel⟩
theorem se_X1_rawOf : Cond.selects RX1 yX1_rawOf yX1_rawOf ∈ sgT := List.mem_filter.mpr ⟨List.mem_append_left _ (List.mem_of_getElem? (i := 1) (by decide +kernel)), by decide +kernel⟩
theorem se_X1_symbolsBefore : Cond.selects RX1 yX1_symbolsBefore yX1_symbolsBefore ∈ sgT := List.mem_filter.mpr ⟨List.mem_append_left _ (List.mem_of_getElem? (i := 2) (by decide +kernel)), by decide +kernel⟩
theorem se_X0_smooth : Cond.selects RX0 yX0_smooth yX0_smooth ∈ sgT := List.mem_filter.mpr ⟨List.mem_append_left _ (List.mem_of_getElem? (i := 3) (by decide +kernel)), by decide +kernel⟩
theorem se_X0_reduce : Cond.selects RX0 yX0_reduce yX0_reduce ∈ sgT := List.mem_filter.mpr ⟨List.mem_append_left _ (List.mem_of_getElem? (i := 4) (by decide +kernel)), by decide +kernel⟩
theorem se_X5_scoreOpen : Cond.selects RX5 yX5_scoreOpen yX5_scoreOpen ∈ sgT := List.mem_filter.mpr ⟨List.mem_append_left _ (List.mem_of_getElem? (i := 5) (by decide +kernel)), by decide +kernel⟩
theorem se_X2_addShifted : Cond.selects RX2 yX2_addShifted yX2_addShifted ∈ sgT := List.mem_filter.mpr ⟨List.mem_append_left _ (List.mem_of_getElem? (i := 6) (by decide +kernel)), by decide +kernel⟩
theorem se_X6_look : Cond.selects RX6 yX6_look yX6_look ∈ sgT := List.mem_filter.mpr ⟨List.mem_append_left _ (List.mem_of_getElem? (i := 7) (by decide +kernel)), by decide +kernel⟩
theorem se_X6_symbolAt : Cond.selects RX6 yX6_symbolAt yX6_symbolAt ∈ sgT := List.mem_filter.mpr ⟨List.mem_append_left _ (List.mem_of_getElem? (i := 8) (by decide +kernel)), by decide +kernel⟩
theorem se_X6_areSymbols : Cond.selects RX6 yX6_areSymbols yX6_areSymbols ∈ sgT := List.mem_filter.mpr ⟨List.mem_append_left _ (List.mem_of_getElem? (i := 9) (by decide +kernel)), by decide +kernel⟩
theorem se_X6_countOf : Cond.selects RX6 yX6_countOf yX6_countOf ∈ sgT := List.mem_filter.mpr ⟨List.mem_append_left _ (List.mem_of_getElem? (i := 10) (by decide +kernel)), by decide +kernel⟩
theorem se_X6_raw : Cond.selects RX6 yX6_raw yX6_raw ∈ sgT := List.mem_filter.mpr ⟨List.mem_append_left _ (List.mem_of_getElem? (i := 11) (by decide +kernel)), by decide +kernel⟩
theorem se_X6_totalOf : Cond.selects RX6 yX6_totalOf yX6_totalOf ∈ sgT := List.mem_filter.mpr ⟨List.mem_append_left _ (List.mem_of_getElem? (i := 12) (by decide +kernel)), by decide +kernel⟩
theorem se_X6_kindsOf : Cond.selects RX6 yX6_kindsOf yX6_kindsOf ∈ sgT := List.mem_filter.mpr ⟨List.mem_append_left _ (List.mem_of_getElem? (i := 13) (by decide +kernel)), by decide +kernel⟩
theorem se_X6_gramOf : Cond.selects RX6 yX6_gramOf yX6_gramOf ∈ sgT := List.mem_filter.mpr ⟨List.mem_append_left _ (List.mem_of_getElem? (i := 14) (by decide +kernel)), by decide +kernel⟩
theorem se_X6_reckon : Cond.selects RX6 yX6_reckon yX6_reckon ∈ sgT := List.mem_filter.mpr ⟨List.mem_append_left _ (List.mem_of_getElem? (i := 15) (by decide +kernel)), by decide +kernel⟩
theorem se_X6_findScore : Cond.selects RX6 yX6_findScore yX6_findScore ∈ sgT := List.mem_filter.mpr ⟨List.mem_append_left _ (List.mem_of_getElem? (i := 16) (by decide +kernel)), by decide +kernel⟩
theorem se_X6_setOne : Cond.selects RX6 yX6_setOne yX6_setOne ∈ sgT := List.mem_filter.mpr ⟨List.mem_append_left _ (List.mem_of_getElem? (i := 17) (by decide +kernel)), by decide +kernel⟩
theorem se_X6_times : Cond.selects RX6 yX6_times yX6_times ∈ sgT := List.mem_filter.mpr ⟨List.mem_append_left _ (List.mem_of_getElem? (i := 18) (by decide +kernel)), by decide +kernel⟩
theorem se_X6_multiply : Cond.selects RX6 yX6_multiply yX6_multiply ∈ sgT := List.mem_filter.mpr ⟨List.mem_append_left _ (List.mem_of_getElem? (i := 19) (by decide +kernel)), by decide +kernel⟩
theorem in_L : Cond.initialized RL ∈ sgT := List.mem_filter.mpr ⟨List.mem_append_right _ (List.mem_of_getElem? (i := 0) (by decide +kernel)), by decide +kernel⟩
theorem in_X5 : Cond.initialized RX5 ∈ sgT := List.mem_filter.mpr ⟨List.mem_append_right _ (List.mem_of_getElem? (i := 1) (by decide +kernel)), by decide +kernel⟩
theorem in_X4 : Cond.initialized RX4 ∈ sgT := List.mem_filter.mpr ⟨List.mem_append_right _ (List.mem_of_getElem? (i := 2) (by decide +kernel)), by decide +kernel⟩
theorem in_X1 : Cond.initialized RX1 ∈ sgT := List.mem_filter.mpr ⟨List.mem_append_right _ (List.mem_of_getElem? (i := 3) (by decide +kernel)), by decide +kernel⟩
theorem in_X0 : Cond.initialized RX0 ∈ sgT := List.mem_filter.mpr ⟨List.mem_append_right _ (List.mem_of_getElem? (i := 4) (by decide +kernel)), by decide +kernel⟩
theorem in_X3 : Cond.initialized RX3 ∈ sgT := List.mem_filter.mpr ⟨List.mem_append_right _ (List.mem_of_getElem? (i := 5) (by decide +kernel)), by decide +kernel⟩
theorem in_X2 : Cond.initialized RX2 ∈ sgT := List.mem_filter.mpr ⟨List.mem_append_right _ (List.mem_of_getElem? (i := 6) (by decide +kernel)), by decide +kernel⟩
theorem in_X6 : Cond.initialized RX6 ∈ sgT := List.mem_filter.mpr ⟨List.mem_append_right _ (List.mem_of_getElem? (i := 7) (by decide +kernel)), by decide +kernel⟩
theorem in_J9 : Cond.initialized RJ9 ∈ sgT := List.mem_filter.mpr ⟨List.mem_append_right _ (List.mem_of_getElem? (i := 8) (by decide +kernel)), by decide +kernel⟩
theorem in_J6 : Cond.initialized RJ6 ∈ sgT := List.mem_filter.mpr ⟨List.mem_append_right _ (List.mem_of_getElem? (i := 9) (by decide +kernel)), by decide +kernel⟩
theorem cl_L_7 : Cond.classLink RL 7 RX5 ∈ sgT := List.mem_filter.mpr ⟨List.mem_append_right _ (List.mem_of_getElem? (i := 10) (by decide +kernel)), by decide +kernel⟩
theorem it_X5 : Cond.instantiable RX5 8 ∈ sgT := List.mem_filter.mpr ⟨List.mem_append_right _ (List.mem_of_getElem? (i := 11) (by decide +kernel)), by decide +kernel⟩
theorem ml_L_9 : Cond.methodLink RL 9 yX5_init ∈ sgT := List.mem_filter.mpr ⟨List.mem_append_right _ (List.mem_of_getElem? (i := 12) (by decide +kernel)), by decide +kernel⟩
theorem im_X5_init : Cond.instanceMethod yX5_init ∈ sgT := List.mem_filter.mpr ⟨List.mem_append_right _ (List.mem_of_getElem? (i := 13) (by decide +kernel)), by decide +kernel⟩
theorem mcX5_init : Cond.code yX5_init cX5_init 2 none ∈ sgT := List.mem_filter.mpr ⟨List.mem_append_right _ (List.mem_of_getElem? (i := 14) (by decide +kernel)), by decide +kernel⟩
theorem ml_X5_1 : Cond.methodLink RX5 1 objectInit ∈ sgT := List.mem_filter.mpr ⟨List.mem_append_right _ (List.mem_of_getElem? (i := 15) (by decide +kernel)), by decide +kernel⟩
theorem im_JO_init : Cond.instanceMethod objectInit ∈ sgT := List.mem_filter.mpr ⟨List.mem_append_right _ (List.mem_of_getElem? (i := 16) (by decide +kernel)), by decide +kernel⟩
theorem mcJO_init : Cond.code objectInit ⟨#[0xb1]⟩ 1 none ∈ sgT := List.mem_filter.mpr ⟨List.mem_append_right _ (List.mem_of_getElem? (i := 17) (by decide +kernel)), by decide +kernel⟩
theorem cl_X5_7 : Cond.classLink RX5 7 RX4 ∈ sgT := List.mem_filter.mpr ⟨List.mem_append_right _ (List.mem_of_getElem? (i := 18) (by decide +kernel)), by decide +kernel⟩
theorem it_X4 : Cond.instantiable RX4 3 ∈ sgT := List.mem_filter.mpr ⟨List.mem_append_right _ (List.mem_of_getElem? (i := 19) (by decide +kernel)), by decide +kernel⟩
theorem nl_X5_9 : Cond.methodLinkNest RX5 9 yX4_init RX5 ∈ lw_tbl := List.mem_append_right _ (List.mem_of_getElem? (i := 20) (by decide +kernel))
theorem im_X4_init : Cond.instanceMethod yX4_init ∈ sgT := List.mem_filter.mpr ⟨List.mem_append_right _ (List.mem_of_getElem? (i := 21) (by decide +kernel)), by decide +kernel⟩
theorem mcX4_init : Cond.code yX4_init cX4_init 1 none ∈ sgT := List.mem_filter.mpr ⟨List.mem_append_right _ (List.mem_of_getElem? (i := 22) (by decide +kernel)), by decide +kernel⟩
theorem ml_X4_3 : Cond.methodLink RX4 3 objectInit ∈ sgT := List.mem_filter.mpr ⟨List.mem_append_right _ (List.mem_of_getElem? (i := 23) (by decide +kernel)), by decide +kernel⟩
theorem cl_X4_9 : Cond.classLink RX4 9 "[[I" ∈ sgT := List.mem_filter.mpr ⟨List.mem_append_right _ (List.mem_of_getElem? (i := 24) (by decide +kernel)), by decide +kernel⟩
theorem ao_I : Cond.arrayOver (.array .int) ∈ lw_tbl := List.mem_append_right _ (List.mem_of_getElem? (i := 25) (by decide +kernel))
theorem fl_X4_11 : Cond.fieldLink RX4 11 "SmoothedGrams$Sentences" "rows" "[[I" ∈ sgT := List.mem_filter.mpr ⟨List.mem_append_right _ (List.mem_of_getElem? (i := 26) (by decide +kernel)), by decide +kernel⟩
theorem fl_X4_16 : Cond.fieldLink RX4 16 "SmoothedGrams$Sentences" "lengths" "[I" ∈ sgT := List.mem_filter.mpr ⟨List.mem_append_right _ (List.mem_of_getElem? (i := 27) (by decide +kernel)), by decide +kernel⟩
theorem fl_X4_20 : Cond.fieldLink RX4 20 "SmoothedGrams$Sentences" "learned" "I" ∈ sgT := List.mem_filter.mpr ⟨List.mem_append_right _ (List.mem_of_getElem? (i := 28) (by decide +kernel)), by decide +kernel⟩
theorem fl_X5_67 : Cond.fieldLink RX5 67 "SmoothedGrams$Sentences" "learned" "I" ∈ sgT := List.mem_filter.mpr ⟨List.mem_append_right _ (List.mem_of_getElem? (i := 29) (by decide +kernel)), by decide +kernel⟩
theorem ac_I : Cond.arrayClass .int ∈ sgT := List.mem_filter.mpr ⟨List.mem_append_right _ (List.mem_of_getElem? (i := 37) (by decide +kernel)), by decide +kernel⟩
theorem cl_X5_16 : Cond.classLink RX5 16 RX1 ∈ sgT := List.mem_filter.mpr ⟨List.mem_append_right _ (List.mem_of_getElem? (i := 38) (by decide +kernel)), by decide +kernel⟩
theorem it_X1 : Cond.instantiable RX1 4 ∈ sgT := List.mem_filter.mpr ⟨List.mem_append_right _ (List.mem_of_getElem? (i := 39) (by decide +kernel)), by decide +kernel⟩
theorem nl_X5_18 : Cond.methodLinkNest RX5 18 yX1_init RX5 ∈ lw_tbl := List.mem_append_right _ (List.mem_of_getElem? (i := 40) (by decide +kernel))
theorem im_X1_init : Cond.instanceMethod yX1_init ∈ sgT := List.mem_filter.mpr ⟨List.mem_append_right _ (List.mem_of_getElem? (i := 41) (by decide +kernel)), by decide +kernel⟩
theorem mcX1_init : Cond.code yX1_init cX1_init 1 none ∈ sgT := List.mem_filter.mpr ⟨List.mem_append_right _ (List.mem_of_getElem? (i := 42) (by decide +kernel)), by decide +kernel⟩
theorem ml_X1_3 : Cond.methodLink RX1 3 objectInit ∈ sgT := List.mem_filter.mpr ⟨List.mem_append_right _ (List.mem_of_getElem? (i := 43) (by decide +kernel)), by decide +kernel⟩
theorem fl_X1_9 : Cond.fieldLink RX1 9 "SmoothedGrams$Counts" "ones" "[I" ∈ sgT := List.mem_filter.mpr ⟨List.mem_append_right _ (List.mem_of_getElem? (i := 44) (by decide +kernel)), by decide +kernel⟩
theorem fl_X1_15 : Cond.fieldLink RX1 15 "SmoothedGrams$Counts" "twos" "[I" ∈ sgT := List.mem_filter.mpr ⟨List.mem_append_right _ (List.mem_of_getElem? (i := 45) (by decide +kernel)), by decide +kernel⟩
theorem fl_X1_18 : Cond.fieldLink RX1 18 "SmoothedGrams$Counts" "threes" "[I" ∈ sgT := List.mem_filter.mpr ⟨List.mem_append_right _ (List.mem_of_getElem? (i := 46) (by decide +kernel)), by decide +kernel⟩
theorem fl_X1_21 : Cond.fieldLink RX1 21 "SmoothedGrams$Counts" "highest" "I" ∈ sgT := List.mem_filter.mpr ⟨List.mem_append_right _ (List.mem_of_getElem? (i := 47) (by decide +kernel)), by decide +kernel⟩
theorem fl_X5_60 : Cond.fieldLink RX5 60 "SmoothedGrams$Counts" "highest" "I" ∈ sgT := List.mem_filter.mpr ⟨List.mem_append_right _ (List.mem_of_getElem? (i := 48) (by decide +kernel)), by decide +kernel⟩
theorem fl_X0_20 : Cond.fieldLink RX0 20 "SmoothedGrams$Counts" "highest" "I" ∈ sgT := List.mem_filter.mpr ⟨List.mem_append_right _ (List.mem_of_getElem? (i := 49) (by decide +kernel)), by decide +kernel⟩
theorem cl_X5_27 : Cond.classLink RX5 27 RX0 ∈ sgT := List.mem_filter.mpr ⟨List.mem_append_right _ (List.mem_of_getElem? (i := 59) (by decide +kernel)), by decide +kernel⟩
theorem it_X0 : Cond.instantiable RX0 2 ∈ sgT := List.mem_filter.mpr ⟨List.mem_append_right _ (List.mem_of_getElem? (i := 60) (by decide +kernel)), by decide +kernel⟩
theorem nl_X5_29 : Cond.methodLinkNest RX5 29 yX0_init RX5 ∈ lw_tbl := List.mem_append_right _ (List.mem_of_getElem? (i := 61) (by decide +kernel))
theorem im_X0_init : Cond.instanceMethod yX0_init ∈ sgT := List.mem_filter.mpr ⟨List.mem_append_right _ (List.mem_of_getElem? (i := 62) (by decide +kernel)), by decide +kernel⟩
theorem mcX0_init : Cond.code yX0_init cX0_init 1 none ∈ sgT := List.mem_filter.mpr ⟨List.mem_append_right _ (List.mem_of_getElem? (i := 63) (by decide +kernel)), by decide +kernel⟩
theorem ml_X0_3 : Cond.methodLink RX0 3 objectInit ∈ sgT := List.mem_filter.mpr ⟨List.mem_append_right _ (List.mem_of_getElem? (i := 64) (by decide +kernel)), by decide +kernel⟩
theorem kl_X0_15 : Cond.constantLong RX0 15 (lN 6) ∈ sgT := List.mem_filter.mpr ⟨List.mem_append_right _ (List.mem_of_getElem? (i := 65) (by decide +kernel)), by decide +kernel⟩
theorem fl_X0_9 : Cond.fieldLink RX0 9 "SmoothedGrams$Chance" "over" "J" ∈ sgT := List.mem_filter.mpr ⟨List.mem_append_right _ (List.mem_of_getElem? (i := 66) (by decide +kernel)), by decide +kernel⟩
theorem fl_X3_25 : Cond.fieldLink RX3 25 "SmoothedGrams$Chance" "over" "J" ∈ sgT := List.mem_filter.mpr ⟨List.mem_append_right _ (List.mem_of_getElem? (i := 67) (by decide +kernel)), by decide +kernel⟩
theorem fl_X5_120 : Cond.fieldLink RX5 120 "SmoothedGrams$Chance" "over" "J" ∈ sgT := List.mem_filter.mpr ⟨List.mem_append_right _ (List.mem_of_getElem? (i := 68) (by decide +kernel)), by decide +kernel⟩
theorem fl_X0_17 : Cond.fieldLink RX0 17 "SmoothedGrams$Chance" "under" "J" ∈ sgT := List.mem_filter.mpr ⟨List.mem_append_right _ (List.mem_of_getElem? (i := 69) (by decide +kernel)), by decide +kernel⟩
theorem fl_X3_34 : Cond.fieldLink RX3 34 "SmoothedGrams$Chance" "under" "J" ∈ sgT := List.mem_filter.mpr ⟨List.mem_append_right _ (List.mem_of_getElem? (i := 70) (by decide +kernel)), by decide +kernel⟩
theorem fl_X5_124 : Cond.fieldLink RX5 124 "SmoothedGrams$Chance" "under" "J" ∈ sgT := List.mem_filter.mpr ⟨List.mem_append_right _ (List.mem_of_getElem? (i := 71) (by decide +kernel)), by decide +kernel⟩
theorem cl_X5_34 : Cond.classLink RX5 34 RX3 ∈ sgT := List.mem_filter.mpr ⟨List.mem_append_right _ (List.mem_of_getElem? (i := 77) (by decide +kernel)), by decide +kernel⟩
theorem it_X3 : Cond.instantiable RX3 2 ∈ sgT := List.mem_filter.mpr ⟨List.mem_append_right _ (List.mem_of_getElem? (i := 78) (by decide +kernel)), by decide +kernel⟩
theorem ml_X5_36 : Cond.methodLink RX5 36 yX3_init ∈ sgT := List.mem_filter.mpr ⟨List.mem_append_right _ (List.mem_of_getElem? (i := 79) (by decide +kernel)), by decide +kernel⟩
theorem im_X3_init : Cond.instanceMethod yX3_init ∈ sgT := List.mem_filter.mpr ⟨List.mem_append_right _ (List.mem_of_getElem? (i := 80) (by decide +kernel)), by decide +kernel⟩
theorem mcX3_init : Cond.code yX3_init cX3_init 1 none ∈ sgT := List.mem_filter.mpr ⟨List.mem_append_right _ (List.mem_of_getElem? (i := 81) (by decide +kernel)), by decide +kernel⟩
theorem ml_X3_1 : Cond.methodLink RX3 1 objectInit ∈ sgT := List.mem_filter.mpr ⟨List.mem_append_right _ (List.mem_of_getElem? (i := 82) (by decide +kernel)), by decide +kernel⟩
theorem cl_X3_7 : Cond.classLink RX3 7 RX2 ∈ sgT := List.mem_filter.mpr ⟨List.mem_append_right _ (List.mem_of_getElem? (i := 83) (by decide +kernel)), by decide +kernel⟩
theorem it_X2 : Cond.instantiable RX2 1 ∈ sgT := List.mem_filter.mpr ⟨List.mem_append_right _ (List.mem_of_getElem? (i := 84) (by decide +kernel)), by decide +kernel⟩
theorem ml_X3_11 : Cond.methodLink RX3 11 yX2_init ∈ sgT := List.mem_filter.mpr ⟨List.mem_append_right _ (List.mem_of_getElem? (i := 85) (by decide +kernel)), by decide +kernel⟩
theorem im_X2_init : Cond.instanceMethod yX2_init ∈ sgT := List.mem_filter.mpr ⟨List.mem_append_right _ (List.mem_of_getElem? (i := 86) (by decide +kernel)), by decide +kernel⟩
theorem mcX2_init : Cond.code yX2_init cX2_init 2 none ∈ sgT := List.mem_filter.mpr ⟨List.mem_append_right _ (List.mem_of_getElem? (i := 87) (by decide +kernel)), by decide +kernel⟩
theorem ml_X2_1 : Cond.methodLink RX2 1 objectInit ∈ sgT := List.mem_filter.mpr ⟨List.mem_append_right _ (List.mem_of_getElem? (i := 88) (by decide +kernel)), by decide +kernel⟩
theorem fl_X2_7 : Cond.fieldLink RX2 7 "SmoothedGrams$Natural" "parts" "[I" ∈ sgT := List.mem_filter.mpr ⟨List.mem_append_right _ (List.mem_of_getElem? (i := 89) (by decide +kernel)), by decide +kernel⟩
theorem ml_X3_21 : Cond.methodLink RX3 21 yX3_setOne ∈ sgT := List.mem_filter.mpr ⟨List.mem_append_right _ (List.mem_of_getElem? (i := 93) (by decide +kernel)), by decide +kernel⟩
theorem im_X3_setOne : Cond.instanceMethod yX3_setOne ∈ sgT := List.mem_filter.mpr ⟨List.mem_append_right _ (List.mem_of_getElem? (i := 94) (by decide +kernel)), by decide +kernel⟩
theorem se_X3_setOne : Cond.selects RX3 yX3_setOne yX3_setOne ∈ sgT := List.mem_filter.mpr ⟨List.mem_append_right _ (List.mem_of_getElem? (i := 95) (by decide +kernel)), by decide +kernel⟩
theorem mcX3_setOne : Cond.code yX3_setOne cX3_setOne 1 none ∈ sgT := List.mem_filter.mpr ⟨List.mem_append_right _ (List.mem_of_getElem? (i := 96) (by decide +kernel)), by decide +kernel⟩
theorem ml_X3_24 : Cond.methodLink RX3 24 yX2_setOne ∈ sgT := List.mem_filter.mpr ⟨List.mem_append_right _ (List.mem_of_getElem? (i := 97) (by decide +kernel)), by decide +kernel⟩
theorem im_X2_setOne : Cond.instanceMethod yX2_setOne ∈ sgT := List.mem_filter.mpr ⟨List.mem_append_right _ (List.mem_of_getElem? (i := 98) (by decide +kernel)), by decide +kernel⟩
theorem se_X2_setOne : Cond.selects RX2 yX2_setOne yX2_setOne ∈ sgT := List.mem_filter.mpr ⟨List.mem_append_right _ (List.mem_of_getElem? (i := 99) (by decide +kernel)), by decide +kernel⟩
theorem mcX2_setOne : Cond.code yX2_setOne cX2_setOne 2 none ∈ sgT := List.mem_filter.mpr ⟨List.mem_append_right _ (List.mem_of_getElem? (i := 100) (by decide +kernel)), by decide +kernel⟩
theorem fl_X3_14 : Cond.fieldLink RX3 14 "SmoothedGrams$Score" "over" "LSmoothedGrams$Natural;" ∈ sgT := List.mem_filter.mpr ⟨List.mem_append_right _ (List.mem_of_getElem? (i := 101) (by decide +kernel)), by decide +kernel⟩
theorem fl_X5_130 : Cond.fieldLink RX5 130 "SmoothedGrams$Score" "over" "LSmoothedGrams$Natural;" ∈ sgT := List.mem_filter.mpr ⟨List.mem_append_right _ (List.mem_of_getElem? (i := 102) (by decide +kernel)), by decide +kernel⟩
theorem fl_X3_18 : Cond.fieldLink RX3 18 "SmoothedGrams$Score" "under" "LSmoothedGrams$Natural;" ∈ sgT := List.mem_filter.mpr ⟨List.mem_append_right _ (List.mem_of_getElem? (i := 103) (by decide +kernel)), by decide +kernel⟩
theorem fl_X5_135 : Cond.fieldLink RX5 135 "SmoothedGrams$Score" "under" "LSmoothedGrams$Natural;" ∈ sgT := List.mem_filter.mpr ⟨List.mem_append_right _ (List.mem_of_getElem? (i := 104) (by decide +kernel)), by decide +kernel⟩
theorem cl_X5_44 : Cond.classLink RX5 44 RX2 ∈ sgT := List.mem_filter.mpr ⟨List.mem_append_right _ (List.mem_of_getElem? (i := 110) (by decide +kernel)), by decide +kernel⟩
theorem ml_X5_46 : Cond.methodLink RX5 46 yX2_init ∈ sgT := List.mem_filter.mpr ⟨List.mem_append_right _ (List.mem_of_getElem? (i := 111) (by decide +kernel)), by decide +kernel⟩
theorem fl_X5_10 : Cond.fieldLink RX5 10 "SmoothedGrams" "sentences" "LSmoothedGrams$Sentences;" ∈ sgT := List.mem_filter.mpr ⟨List.mem_append_right _ (List.mem_of_getElem? (i := 112) (by decide +kernel)), by decide +kernel⟩
theorem fl_X5_19 : Cond.fieldLink RX5 19 "SmoothedGrams" "counts" "LSmoothedGrams$Counts;" ∈ sgT := List.mem_filter.mpr ⟨List.mem_append_right _ (List.mem_of_getElem? (i := 113) (by decide +kernel)), by decide +kernel⟩
theorem fl_X5_23 : Cond.fieldLink RX5 23 "SmoothedGrams" "eighths" "[I" ∈ sgT := List.mem_filter.mpr ⟨List.mem_append_right _ (List.mem_of_getElem? (i := 114) (by decide +kernel)), by decide +kernel⟩
theorem fl_X5_30 : Cond.fieldLink RX5 30 "SmoothedGrams" "chance" "LSmoothedGrams$Chance;" ∈ sgT := List.mem_filter.mpr ⟨List.mem_append_right _ (List.mem_of_getElem? (i := 115) (by decide +kernel)), by decide +kernel⟩
theorem fl_X5_37 : Cond.fieldLink RX5 37 "SmoothedGrams" "current" "LSmoothedGrams$Score;" ∈ sgT := List.mem_filter.mpr ⟨List.mem_append_right _ (List.mem_of_getElem? (i := 116) (by decide +kernel)), by decide +kernel⟩
theorem fl_X5_41 : Cond.fieldLink RX5 41 "SmoothedGrams" "kept" "LSmoothedGrams$Score;" ∈ sgT := List.mem_filter.mpr ⟨List.mem_append_right _ (List.mem_of_getElem? (i := 117) (by decide +kernel)), by decide +kernel⟩
theorem fl_X5_49 : Cond.fieldLink RX5 49 "SmoothedGrams" "currentCrossed" "LSmoothedGrams$Natural;" ∈ sgT := List.mem_filter.mpr ⟨List.mem_append_right _ (List.mem_of_getElem? (i := 118) (by decide +kernel)), by decide +kernel⟩
theorem fl_X5_53 : Cond.fieldLink RX5 53 "SmoothedGrams" "keptCrossed" "LSmoothedGrams$Natural;" ∈ sgT := List.mem_filter.mpr ⟨List.mem_append_right _ (List.mem_of_getElem? (i := 119) (by decide +kernel)), by decide +kernel⟩
theorem ml_L_13 : Cond.methodLink RL 13 yX5_order ∈ sgT := List.mem_filter.mpr ⟨List.mem_append_right _ (List.mem_of_getElem? (i := 137) (by decide +kernel)), by decide +kernel⟩
theorem im_X5_order : Cond.instanceMethod yX5_order ∈ sgT := List.mem_filter.mpr ⟨List.mem_append_right _ (List.mem_of_getElem? (i := 138) (by decide +kernel)), by decide +kernel⟩
theorem se_X5_order : Cond.selects RX5 yX5_order yX5_order ∈ sgT := List.mem_filter.mpr ⟨List.mem_append_right _ (List.mem_of_getElem? (i := 139) (by decide +kernel)), by decide +kernel⟩
theorem mcX5_order : Cond.code yX5_order cX5_order 2 (some .boolean) ∈ sgT := List.mem_filter.mpr ⟨List.mem_append_right _ (List.mem_of_getElem? (i := 140) (by decide +kernel)), by decide +kernel⟩
theorem ml_X5_56 : Cond.methodLink RX5 56 yX5_isLevel ∈ sgT := List.mem_filter.mpr ⟨List.mem_append_right _ (List.mem_of_getElem? (i := 141) (by decide +kernel)), by decide +kernel⟩
theorem st_X5_isLevel : Cond.static yX5_isLevel ∈ sgT := List.mem_filter.mpr ⟨List.mem_append_right _ (List.mem_of_getElem? (i := 142) (by decide +kernel)), by decide +kernel⟩
theorem mcX5_isLevel : Cond.code yX5_isLevel cX5_isLevel 1 (some .boolean) ∈ sgT := List.mem_filter.mpr ⟨List.mem_append_right _ (List.mem_of_getElem? (i := 143) (by decide +kernel)), by decide +kernel⟩
theorem ml_L_18 : Cond.methodLink RL 18 yX5_discount ∈ sgT := List.mem_filter.mpr ⟨List.mem_append_right _ (List.mem_of_getElem? (i := 144) (by decide +kernel)), by decide +kernel⟩
theorem im_X5_discount : Cond.instanceMethod yX5_discount ∈ sgT := List.mem_filter.mpr ⟨List.mem_append_right _ (List.mem_of_getElem? (i := 145) (by decide +kernel)), by decide +kernel⟩
theorem se_X5_discount : Cond.selects RX5 yX5_discount yX5_discount ∈ sgT := List.mem_filter.mpr ⟨List.mem_append_right _ (List.mem_of_getElem? (i := 146) (by decide +kernel)), by decide +kernel⟩
theorem mcX5_discount : Cond.code yX5_discount cX5_discount 3 (some .boolean) ∈ sgT := List.mem_filter.mpr ⟨List.mem_append_right _ (List.mem_of_getElem? (i := 147) (by decide +kernel)), by decide +kernel⟩
theorem ml_L_23 : Cond.methodLink RL 23 yX5_word ∈ sgT := List.mem_filter.mpr ⟨List.mem_append_right _ (List.mem_of_getElem? (i := 148) (by decide +kernel)), by decide +kernel⟩
theorem im_X5_word : Cond.instanceMethod yX5_word ∈ sgT := List.mem_filter.mpr ⟨List.mem_append_right _ (List.mem_of_getElem? (i := 149) (by decide +kernel)), by decide +kernel⟩
theorem se_X5_word : Cond.selects RX5 yX5_word yX5_word ∈ sgT := List.mem_filter.mpr ⟨List.mem_append_right _ (List.mem_of_getElem? (i := 150) (by decide +kernel)), by decide +kernel⟩
theorem mcX5_word : Cond.code yX5_word cX5_word 2 (some .boolean) ∈ sgT := List.mem_filter.mpr ⟨List.mem_append_right _ (List.mem_of_getElem? (i := 151) (by decide +kernel)), by decide +kernel⟩
theorem ml_X5_64 : Cond.methodLink RX5 64 yX4_append ∈ sgT := List.mem_filter.mpr ⟨List.mem_append_right _ (List.mem_of_getElem? (i := 152) (by decide +kernel)), by decide +kernel⟩
theorem im_X4_append : Cond.instanceMethod yX4_append ∈ sgT := List.mem_filter.mpr ⟨List.mem_append_right _ (List.mem_of_getElem? (i := 153) (by decide +kernel)), by decide +kernel⟩
theorem se_X4_append : Cond.selects RX4 yX4_append yX4_append ∈ sgT := List.mem_filter.mpr ⟨List.mem_append_right _ (List.mem_of_getElem? (i := 154) (by decide +kernel)), by decide +kernel⟩
theorem mcX4_append : Cond.code yX4_append cX4_append 3 (some .boolean) ∈ sgT := List.mem_filter.mpr ⟨List.mem_append_right _ (List.mem_of_getElem? (i := 155) (by decide +kernel)), by decide +kernel⟩
theorem ml_L_27 : Cond.methodLink RL 27 yX5_learn ∈ sgT := List.mem_filter.mpr ⟨List.mem_append_right _ (List.mem_of_getElem? (i := 156) (by decide +kernel)), by decide +kernel⟩
theorem im_X5_learn : Cond.instanceMethod yX5_learn ∈ sgT := List.mem_filter.mpr ⟨List.mem_append_right _ (List.mem_of_getElem? (i := 157) (by decide +kernel)), by decide +kernel⟩
theorem se_X5_learn : Cond.selects RX5 yX5_learn yX5_learn ∈ sgT := List.mem_filter.mpr ⟨List.mem_append_right _ (List.mem_of_getElem? (i := 158) (by decide +kernel)), by decide +kernel⟩
theorem mcX5_learn : Cond.code yX5_learn cX5_learn 1 (some .int) ∈ sgT := List.mem_filter.mpr ⟨List.mem_append_right _ (List.mem_of_getElem? (i := 159) (by decide +kernel)), by decide +kernel⟩
theorem ml_X5_70 : Cond.methodLink RX5 70 yX5_countOpen ∈ sgT := List.mem_filter.mpr ⟨List.mem_append_right _ (List.mem_of_getElem? (i := 160) (by decide +kernel)), by decide +kernel⟩
theorem im_X5_countOpen : Cond.instanceMethod yX5_countOpen ∈ sgT := List.mem_filter.mpr ⟨List.mem_append_right _ (List.mem_of_getElem? (i := 162) (by decide +kernel)), by decide +kernel⟩
theorem mcX5_countOpen : Cond.code yX5_countOpen cX5_countOpen 5 none ∈ sgT := List.mem_filter.mpr ⟨List.mem_append_right _ (List.mem_of_getElem? (i := 163) (by decide +kernel)), by decide +kernel⟩
theorem ml_X5_76 : Cond.methodLink RX5 76 yX4_openLength ∈ sgT := List.mem_filter.mpr ⟨List.mem_append_right _ (List.mem_of_getElem? (i := 164) (by decide +kernel)), by decide +kernel⟩
theorem im_X4_openLength : Cond.instanceMethod yX4_openLength ∈ sgT := List.mem_filter.mpr ⟨List.mem_append_right _ (List.mem_of_getElem? (i := 165) (by decide +kernel)), by decide +kernel⟩
theorem se_X4_openLength : Cond.selects RX4 yX4_openLength yX4_openLength ∈ sgT := List.mem_filter.mpr ⟨List.mem_append_right _ (List.mem_of_getElem? (i := 166) (by decide +kernel)), by decide +kernel⟩
theorem mcX4_openLength : Cond.code yX4_openLength cX4_openLength 1 (some .int) ∈ sgT := List.mem_filter.mpr ⟨List.mem_append_right _ (List.mem_of_getElem? (i := 167) (by decide +kernel)), by decide +kernel⟩
theorem ml_X5_149 : Cond.methodLink RX5 149 yX4_symbolAt ∈ sgT := List.mem_filter.mpr ⟨List.mem_append_right _ (List.mem_of_getElem? (i := 168) (by decide +kernel)), by decide +kernel⟩
theorem im_X4_symbolAt : Cond.instanceMethod yX4_symbolAt ∈ sgT := List.mem_filter.mpr ⟨List.mem_append_right _ (List.mem_of_getElem? (i := 169) (by decide +kernel)), by decide +kernel⟩
theorem se_X4_symbolAt : Cond.selects RX4 yX4_symbolAt yX4_symbolAt ∈ sgT := List.mem_filter.mpr ⟨List.mem_append_right _ (List.mem_of_getElem? (i := 170) (by decide +kernel)), by decide +kernel⟩
theorem mcX4_symbolAt : Cond.code yX4_symbolAt cX4_symbolAt 2 (some .int) ∈ sgT := List.mem_filter.mpr ⟨List.mem_append_right _ (List.mem_of_getElem? (i := 171) (by decide +kernel)), by decide +kernel⟩
theorem ml_X5_152 : Cond.methodLink RX5 152 yX1_addEvent ∈ sgT := List.mem_filter.mpr ⟨List.mem_append_right _ (List.mem_of_getElem? (i := 172) (by decide +kernel)), by decide +kernel⟩
theorem im_X1_addEvent : Cond.instanceMethod yX1_addEvent ∈ sgT := List.mem_filter.mpr ⟨List.mem_append_right _ (List.mem_of_getElem? (i := 173) (by decide +kernel)), by decide +kernel⟩
theorem se_X1_addEvent : Cond.selects RX1 yX1_addEvent yX1_addEvent ∈ sgT := List.mem_filter.mpr ⟨List.mem_append_right _ (List.mem_of_getElem? (i := 174) (by decide +kernel)), by decide +kernel⟩
theorem mcX1_addEvent : Cond.code yX1_addEvent cX1_addEvent 5 none ∈ sgT := List.mem_filter.mpr ⟨List.mem_append_right _ (List.mem_of_getElem? (i := 175) (by decide +kernel)), by decide +kernel⟩
theorem nl_X1_25 : Cond.methodLinkNest RX1 25 yX5_contextOf RX5 ∈ lw_tbl := List.mem_append_right _ (List.mem_of_getElem? (i := 176) (by decide +kernel))
theorem st_X5_contextOf : Cond.static yX5_contextOf ∈ sgT := List.mem_filter.mpr ⟨List.mem_append_right _ (List.mem_of_getElem? (i := 177) (by decide +kernel)), by decide +kernel⟩
theorem mcX5_contextOf : Cond.code yX5_contextOf cX5_contextOf 3 (some .int) ∈ sgT := List.mem_filter.mpr ⟨List.mem_append_right _ (List.mem_of_getElem? (i := 178) (by decide +kernel)), by decide +kernel⟩
theorem ml_X5_73 : Cond.methodLink RX5 73 yX4_close ∈ sgT := List.mem_filter.mpr ⟨List.mem_append_right _ (List.mem_of_getElem? (i := 179) (by decide +kernel)), by decide +kernel⟩
theorem im_X4_close : Cond.instanceMethod yX4_close ∈ sgT := List.mem_filter.mpr ⟨List.mem_append_right _ (List.mem_of_getElem? (i := 180) (by decide +kernel)), by decide +kernel⟩
theorem se_X4_close : Cond.selects RX4 yX4_close yX4_close ∈ sgT := List.mem_filter.mpr ⟨List.mem_append_right _ (List.mem_of_getElem? (i := 181) (by decide +kernel)), by decide +kernel⟩
theorem mcX4_close : Cond.code yX4_close cX4_close 1 none ∈ sgT := List.mem_filter.mpr ⟨List.mem_append_right _ (List.mem_of_getElem? (i := 182) (by decide +kernel)), by decide +kernel⟩
theorem ml_L_32 : Cond.methodLink RL 32 yX5_erase ∈ sgT := List.mem_filter.mpr ⟨List.mem_append_right _ (List.mem_of_getElem? (i := 183) (by decide +kernel)), by decide +kernel⟩
theorem im_X5_erase : Cond.instanceMethod yX5_erase ∈ sgT := List.mem_filter.mpr ⟨List.mem_append_right _ (List.mem_of_getElem? (i := 184) (by decide +kernel)), by decide +kernel⟩
theorem se_X5_erase : Cond.selects RX5 yX5_erase yX5_erase ∈ sgT := List.mem_filter.mpr ⟨List.mem_append_right _ (List.mem_of_getElem? (i := 185) (by decide +kernel)), by decide +kernel⟩
theorem mcX5_erase : Cond.code yX5_erase cX5_erase 2 (some .int) ∈ sgT := List.mem_filter.mpr ⟨List.mem_append_right _ (List.mem_of_getElem? (i := 186) (by decide +kernel)), by decide +kernel⟩
theorem ml_X5_80 : Cond.methodLink RX5 80 yX4_clearOpen ∈ sgT := List.mem_filter.mpr ⟨List.mem_append_right _ (List.mem_of_getElem? (i := 187) (by decide +kernel)), by decide +kernel⟩
theorem im_X4_clearOpen : Cond.instanceMethod yX4_clearOpen ∈ sgT := List.mem_filter.mpr ⟨List.mem_append_right _ (List.mem_of_getElem? (i := 188) (by decide +kernel)), by decide +kernel⟩
theorem se_X4_clearOpen : Cond.selects RX4 yX4_clearOpen yX4_clearOpen ∈ sgT := List.mem_filter.mpr ⟨List.mem_append_right _ (List.mem_of_getElem? (i := 189) (by decide +kernel)), by decide +kernel⟩
theorem mcX4_clearOpen : Cond.code yX4_clearOpen cX4_clearOpen 1 none ∈ sgT := List.mem_filter.mpr ⟨List.mem_append_right _ (List.mem_of_getElem? (i := 190) (by decide +kernel)), by decide +kernel⟩
theorem ml_L_36 : Cond.methodLink RL 36 yX5_forget ∈ sgT := List.mem_filter.mpr ⟨List.mem_append_right _ (List.mem_of_getElem? (i := 191) (by decide +kernel)), by decide +kernel⟩
theorem im_X5_forget : Cond.instanceMethod yX5_forget ∈ sgT := List.mem_filter.mpr ⟨List.mem_append_right _ (List.mem_of_getElem? (i := 192) (by decide +kernel)), by decide +kernel⟩
theorem se_X5_forget : Cond.selects RX5 yX5_forget yX5_forget ∈ sgT := List.mem_filter.mpr ⟨List.mem_append_right _ (List.mem_of_getElem? (i := 193) (by decide +kernel)), by decide +kernel⟩
theorem mcX5_forget : Cond.code yX5_forget cX5_forget 1 (some .int) ∈ sgT := List.mem_filter.mpr ⟨List.mem_append_right _ (List.mem_of_getElem? (i := 194) (by decide +kernel)), by decide +kernel⟩
theorem ml_X5_83 : Cond.methodLink RX5 83 yX4_reopen ∈ sgT := List.mem_filter.mpr ⟨List.mem_append_right _ (List.mem_of_getElem? (i := 195) (by decide +kernel)), by decide +kernel⟩
theorem im_X4_reopen : Cond.instanceMethod yX4_reopen ∈ sgT := List.mem_filter.mpr ⟨List.mem_append_right _ (List.mem_of_getElem? (i := 196) (by decide +kernel)), by decide +kernel⟩
theorem se_X4_reopen : Cond.selects RX4 yX4_reopen yX4_reopen ∈ sgT := List.mem_filter.mpr ⟨List.mem_append_right _ (List.mem_of_getElem? (i := 197) (by decide +kernel)), by decide +kernel⟩
theorem mcX4_reopen : Cond.code yX4_reopen cX4_reopen 1 none ∈ sgT := List.mem_filter.mpr ⟨List.mem_append_right _ (List.mem_of_getElem? (i := 198) (by decide +kernel)), by decide +kernel⟩
theorem ml_L_40 : Cond.methodLink RL 40 yX5_count ∈ sgT := List.mem_filter.mpr ⟨List.mem_append_right _ (List.mem_of_getElem? (i := 199) (by decide +kernel)), by decide +kernel⟩
theorem im_X5_count : Cond.instanceMethod yX5_count ∈ sgT := List.mem_filter.mpr ⟨List.mem_append_right _ (List.mem_of_getElem? (i := 200) (by decide +kernel)), by decide +kernel⟩
theorem se_X5_count : Cond.selects RX5 yX5_count yX5_count ∈ sgT := List.mem_filter.mpr ⟨List.mem_append_right _ (List.mem_of_getElem? (i := 201) (by decide +kernel)), by decide +kernel⟩
theorem mcX5_count : Cond.code yX5_count cX5_count 5 (some .int) ∈ sgT := List.mem_filter.mpr ⟨List.mem_append_right _ (List.mem_of_getElem? (i := 202) (by decide +kernel)), by decide +kernel⟩
theorem ml_X5_86 : Cond.methodLink RX5 86 yX5_isContext ∈ sgT := List.mem_filter.mpr ⟨List.mem_append_right _ (List.mem_of_getElem? (i := 203) (by decide +kernel)), by decide +kernel⟩
theorem st_X5_isContext : Cond.static yX5_isContext ∈ sgT := List.mem_filter.mpr ⟨List.mem_append_right _ (List.mem_of_getElem? (i := 204) (by decide +kernel)), by decide +kernel⟩
theorem mcX5_isContext : Cond.code yX5_isContext cX5_isContext 3 (some .boolean) ∈ sgT := List.mem_filter.mpr ⟨List.mem_append_right _ (List.mem_of_getElem? (i := 205) (by decide +kernel)), by decide +kernel⟩
theorem ml_X5_90 : Cond.methodLink RX5 90 yX5_isSymbol ∈ sgT := List.mem_filter.mpr ⟨List.mem_append_right _ (List.mem_of_getElem? (i := 206) (by decide +kernel)), by decide +kernel⟩
theorem st_X5_isSymbol : Cond.static yX5_isSymbol ∈ sgT := List.mem_filter.mpr ⟨List.mem_append_right _ (List.mem_of_getElem? (i := 207) (by decide +kernel)), by decide +kernel⟩
theorem mcX5_isSymbol : Cond.code yX5_isSymbol cX5_isSymbol 1 (some .boolean) ∈ sgT := List.mem_filter.mpr ⟨List.mem_append_right _ (List.mem_of_getElem? (i := 208) (by decide +kernel)), by decide +kernel⟩
theorem ml_X5_93 : Cond.methodLink RX5 93 yX5_contextOf ∈ sgT := List.mem_filter.mpr ⟨List.mem_append_right _ (List.mem_of_getElem? (i := 209) (by decide +kernel)), by decide +kernel⟩
theorem ml_X5_97 : Cond.methodLink RX5 97 yX1_ofRow ∈ sgT := List.mem_filter.mpr ⟨List.mem_append_right _ (List.mem_of_getElem? (i := 210) (by decide +kernel)), by decide +kernel⟩
theorem im_X1_ofRow : Cond.instanceMethod yX1_ofRow ∈ sgT := List.mem_filter.mpr ⟨List.mem_append_right _ (List.mem_of_getElem? (i := 211) (by decide +kernel)), by decide +kernel⟩
theorem se_X1_ofRow : Cond.selects RX1 yX1_ofRow yX1_ofRow ∈ sgT := List.mem_filter.mpr ⟨List.mem_append_right _ (List.mem_of_getElem? (i := 212) (by decide +kernel)), by decide +kernel⟩
theorem mcX1_ofRow : Cond.code yX1_ofRow cX1_ofRow 3 (some .int) ∈ sgT := List.mem_filter.mpr ⟨List.mem_append_right _ (List.mem_of_getElem? (i := 213) (by decide +kernel)), by decide +kernel⟩
theorem ml_X1_29 : Cond.methodLink RX1 29 yX1_rawOf ∈ sgT := List.mem_filter.mpr ⟨List.mem_append_right _ (List.mem_of_getElem? (i := 214) (by decide +kernel)), by decide +kernel⟩
theorem im_X1_rawOf : Cond.instanceMethod yX1_rawOf ∈ sgT := List.mem_filter.mpr ⟨List.mem_append_right _ (List.mem_of_getElem? (i := 216) (by decide +kernel)), by decide +kernel⟩
theorem mcX1_rawOf : Cond.code yX1_rawOf cX1_rawOf 3 (some .int) ∈ sgT := List.mem_filter.mpr ⟨List.mem_append_right _ (List.mem_of_getElem? (i := 217) (by decide +kernel)), by decide +kernel⟩
theorem ml_X1_33 : Cond.methodLink RX1 33 yX1_symbolsBefore ∈ sgT := List.mem_filter.mpr ⟨List.mem_append_right _ (List.mem_of_getElem? (i := 218) (by decide +kernel)), by decide +kernel⟩
theorem im_X1_symbolsBefore : Cond.instanceMethod yX1_symbolsBefore ∈ sgT := List.mem_filter.mpr ⟨List.mem_append_right _ (List.mem_of_getElem? (i := 220) (by decide +kernel)), by decide +kernel⟩
theorem mcX1_symbolsBefore : Cond.code yX1_symbolsBefore cX1_symbolsBefore 5 (some .int) ∈ sgT := List.mem_filter.mpr ⟨List.mem_append_right _ (List.mem_of_getElem? (i := 221) (by decide +kernel)), by decide +kernel⟩
theorem nl_X1_36 : Cond.methodLinkNest RX1 36 yX5_rowsOf RX5 ∈ lw_tbl := List.mem_append_right _ (List.mem_of_getElem? (i := 222) (by decide +kernel))
theorem st_X5_rowsOf : Cond.static yX5_rowsOf ∈ sgT := List.mem_filter.mpr ⟨List.mem_append_right _ (List.mem_of_getElem? (i := 223) (by decide +kernel)), by decide +kernel⟩
theorem mcX5_rowsOf : Cond.code yX5_rowsOf cX5_rowsOf 1 (some .int) ∈ sgT := List.mem_filter.mpr ⟨List.mem_append_right _ (List.mem_of_getElem? (i := 224) (by decide +kernel)), by decide +kernel⟩
theorem ml_L_45 : Cond.methodLink RL 45 yX5_total ∈ sgT := List.mem_filter.mpr ⟨List.mem_append_right _ (List.mem_of_getElem? (i := 225) (by decide +kernel)), by decide +kernel⟩
theorem im_X5_total : Cond.instanceMethod yX5_total ∈ sgT := List.mem_filter.mpr ⟨List.mem_append_right _ (List.mem_of_getElem? (i := 226) (by decide +kernel)), by decide +kernel⟩
theorem se_X5_total : Cond.selects RX5 yX5_total yX5_total ∈ sgT := List.mem_filter.mpr ⟨List.mem_append_right _ (List.mem_of_getElem? (i := 227) (by decide +kernel)), by decide +kernel⟩
theorem mcX5_total : Cond.code yX5_total cX5_total 4 (some .int) ∈ sgT := List.mem_filter.mpr ⟨List.mem_append_right _ (List.mem_of_getElem? (i := 228) (by decide +kernel)), by decide +kernel⟩
theorem ml_X5_101 : Cond.methodLink RX5 101 yX1_sumBehind ∈ sgT := List.mem_filter.mpr ⟨List.mem_append_right _ (List.mem_of_getElem? (i := 229) (by decide +kernel)), by decide +kernel⟩
theorem im_X1_sumBehind : Cond.instanceMethod yX1_sumBehind ∈ sgT := List.mem_filter.mpr ⟨List.mem_append_right _ (List.mem_of_getElem? (i := 230) (by decide +kernel)), by decide +kernel⟩
theorem se_X1_sumBehind : Cond.selects RX1 yX1_sumBehind yX1_sumBehind ∈ sgT := List.mem_filter.mpr ⟨List.mem_append_right _ (List.mem_of_getElem? (i := 231) (by decide +kernel)), by decide +kernel⟩
theorem mcX1_sumBehind : Cond.code yX1_sumBehind cX1_sumBehind 5 (some .int) ∈ sgT := List.mem_filter.mpr ⟨List.mem_append_right _ (List.mem_of_getElem? (i := 232) (by decide +kernel)), by decide +kernel⟩
theorem ml_X1_40 : Cond.methodLink RX1 40 yX1_ofRow ∈ sgT := List.mem_filter.mpr ⟨List.mem_append_right _ (List.mem_of_getElem? (i := 233) (by decide +kernel)), by decide +kernel⟩
theorem ml_L_50 : Cond.methodLink RL 50 yX5_kinds ∈ sgT := List.mem_filter.mpr ⟨List.mem_append_right _ (List.mem_of_getElem? (i := 234) (by decide +kernel)), by decide +kernel⟩
theorem im_X5_kinds : Cond.instanceMethod yX5_kinds ∈ sgT := List.mem_filter.mpr ⟨List.mem_append_right _ (List.mem_of_getElem? (i := 235) (by decide +kernel)), by decide +kernel⟩
theorem se_X5_kinds : Cond.selects RX5 yX5_kinds yX5_kinds ∈ sgT := List.mem_filter.mpr ⟨List.mem_append_right _ (List.mem_of_getElem? (i := 236) (by decide +kernel)), by decide +kernel⟩
theorem mcX5_kinds : Cond.code yX5_kinds cX5_kinds 4 (some .int) ∈ sgT := List.mem_filter.mpr ⟨List.mem_append_right _ (List.mem_of_getElem? (i := 237) (by decide +kernel)), by decide +kernel⟩
theorem ml_X5_104 : Cond.methodLink RX5 104 yX1_kindsBehind ∈ sgT := List.mem_filter.mpr ⟨List.mem_append_right _ (List.mem_of_getElem? (i := 238) (by decide +kernel)), by decide +kernel⟩
theorem im_X1_kindsBehind : Cond.instanceMethod yX1_kindsBehind ∈ sgT := List.mem_filter.mpr ⟨List.mem_append_right _ (List.mem_of_getElem? (i := 239) (by decide +kernel)), by decide +kernel⟩
theorem se_X1_kindsBehind : Cond.selects RX1 yX1_kindsBehind yX1_kindsBehind ∈ sgT := List.mem_filter.mpr ⟨List.mem_append_right _ (List.mem_of_getElem? (i := 240) (by decide +kernel)), by decide +kernel⟩
theorem mcX1_kindsBehind : Cond.code yX1_kindsBehind cX1_kindsBehind 5 (some .int) ∈ sgT := List.mem_filter.mpr ⟨List.mem_append_right _ (List.mem_of_getElem? (i := 241) (by decide +kernel)), by decide +kernel⟩
theorem ml_L_54 : Cond.methodLink RL 54 yX5_grams ∈ sgT := List.mem_filter.mpr ⟨List.mem_append_right _ (List.mem_of_getElem? (i := 242) (by decide +kernel)), by decide +kernel⟩
theorem im_X5_grams : Cond.instanceMethod yX5_grams ∈ sgT := List.mem_filter.mpr ⟨List.mem_append_right _ (List.mem_of_getElem? (i := 243) (by decide +kernel)), by decide +kernel⟩
theorem se_X5_grams : Cond.selects RX5 yX5_grams yX5_grams ∈ sgT := List.mem_filter.mpr ⟨List.mem_append_right _ (List.mem_of_getElem? (i := 244) (by decide +kernel)), by decide +kernel⟩
theorem mcX5_grams : Cond.code yX5_grams cX5_grams 4 (some .int) ∈ sgT := List.mem_filter.mpr ⟨List.mem_append_right _ (List.mem_of_getElem? (i := 245) (by decide +kernel)), by decide +kernel⟩
theorem ml_X5_107 : Cond.methodLink RX5 107 yX5_rowsOf ∈ sgT := List.mem_filter.mpr ⟨List.mem_append_right _ (List.mem_of_getElem? (i := 246) (by decide +kernel)), by decide +kernel⟩
theorem ml_L_59 : Cond.methodLink RL 59 yX5_gram ∈ sgT := List.mem_filter.mpr ⟨List.mem_append_right _ (List.mem_of_getElem? (i := 247) (by decide +kernel)), by decide +kernel⟩
theorem im_X5_gram : Cond.instanceMethod yX5_gram ∈ sgT := List.mem_filter.mpr ⟨List.mem_append_right _ (List.mem_of_getElem? (i := 248) (by decide +kernel)), by decide +kernel⟩
theorem se_X5_gram : Cond.selects RX5 yX5_gram yX5_gram ∈ sgT := List.mem_filter.mpr ⟨List.mem_append_right _ (List.mem_of_getElem? (i := 249) (by decide +kernel)), by decide +kernel⟩
theorem mcX5_gram : Cond.code yX5_gram cX5_gram 5 (some .int) ∈ sgT := List.mem_filter.mpr ⟨List.mem_append_right _ (List.mem_of_getElem? (i := 250) (by decide +kernel)), by decide +kernel⟩
theorem ml_L_64 : Cond.methodLink RL 64 yX5_top ∈ sgT := List.mem_filter.mpr ⟨List.mem_append_right _ (List.mem_of_getElem? (i := 251) (by decide +kernel)), by decide +kernel⟩
theorem im_X5_top : Cond.instanceMethod yX5_top ∈ sgT := List.mem_filter.mpr ⟨List.mem_append_right _ (List.mem_of_getElem? (i := 252) (by decide +kernel)), by decide +kernel⟩
theorem se_X5_top : Cond.selects RX5 yX5_top yX5_top ∈ sgT := List.mem_filter.mpr ⟨List.mem_append_right _ (List.mem_of_getElem? (i := 253) (by decide +kernel)), by decide +kernel⟩
theorem mcX5_top : Cond.code yX5_top cX5_top 4 (some .long) ∈ sgT := List.mem_filter.mpr ⟨List.mem_append_right _ (List.mem_of_getElem? (i := 254) (by decide +kernel)), by decide +kernel⟩
theorem ml_X5_111 : Cond.methodLink RX5 111 yX5_isAsked ∈ sgT := List.mem_filter.mpr ⟨List.mem_append_right _ (List.mem_of_getElem? (i := 255) (by decide +kernel)), by decide +kernel⟩
theorem st_X5_isAsked : Cond.static yX5_isAsked ∈ sgT := List.mem_filter.mpr ⟨List.mem_append_right _ (List.mem_of_getElem? (i := 256) (by decide +kernel)), by decide +kernel⟩
theorem mcX5_isAsked : Cond.code yX5_isAsked cX5_isAsked 3 (some .boolean) ∈ sgT := List.mem_filter.mpr ⟨List.mem_append_right _ (List.mem_of_getElem? (i := 257) (by decide +kernel)), by decide +kernel⟩
theorem kl_X5_114 : Cond.constantLong RX5 114 (-1) ∈ sgT := List.mem_filter.mpr ⟨List.mem_append_right _ (List.mem_of_getElem? (i := 258) (by decide +kernel)), by decide +kernel⟩
theorem ml_X5_116 : Cond.methodLink RX5 116 yX0_find ∈ sgT := List.mem_filter.mpr ⟨List.mem_append_right _ (List.mem_of_getElem? (i := 259) (by decide +kernel)), by decide +kernel⟩
theorem im_X0_find : Cond.instanceMethod yX0_find ∈ sgT := List.mem_filter.mpr ⟨List.mem_append_right _ (List.mem_of_getElem? (i := 260) (by decide +kernel)), by decide +kernel⟩
theorem se_X0_find : Cond.selects RX0 yX0_find yX0_find ∈ sgT := List.mem_filter.mpr ⟨List.mem_append_right _ (List.mem_of_getElem? (i := 261) (by decide +kernel)), by decide +kernel⟩
theorem mcX0_find : Cond.code yX0_find cX0_find 7 none ∈ sgT := List.mem_filter.mpr ⟨List.mem_append_right _ (List.mem_of_getElem? (i := 262) (by decide +kernel)), by decide +kernel⟩
theorem nl_X0_26 : Cond.methodLinkNest RX0 26 yX5_contextOf RX5 ∈ lw_tbl := List.mem_append_right _ (List.mem_of_getElem? (i := 263) (by decide +kernel))
theorem ml_X0_30 : Cond.methodLink RX0 30 yX0_smooth ∈ sgT := List.mem_filter.mpr ⟨List.mem_append_right _ (List.mem_of_getElem? (i := 264) (by decide +kernel)), by decide +kernel⟩
theorem im_X0_smooth : Cond.instanceMethod yX0_smooth ∈ sgT := List.mem_filter.mpr ⟨List.mem_append_right _ (List.mem_of_getElem? (i := 266) (by decide +kernel)), by decide +kernel⟩
theorem mcX0_smooth : Cond.code yX0_smooth cX0_smooth 9 none ∈ sgT := List.mem_filter.mpr ⟨List.mem_append_right _ (List.mem_of_getElem? (i := 267) (by decide +kernel)), by decide +kernel⟩
theorem ml_X0_37 : Cond.methodLink RX0 37 yX1_sumBehind ∈ sgT := List.mem_filter.mpr ⟨List.mem_append_right _ (List.mem_of_getElem? (i := 268) (by decide +kernel)), by decide +kernel⟩
theorem ml_X0_41 : Cond.methodLink RX0 41 yX1_ofRow ∈ sgT := List.mem_filter.mpr ⟨List.mem_append_right _ (List.mem_of_getElem? (i := 269) (by decide +kernel)), by decide +kernel⟩
theorem ml_X0_44 : Cond.methodLink RX0 44 yJ9_max ∈ sgT := List.mem_filter.mpr ⟨List.mem_append_right _ (List.mem_of_getElem? (i := 270) (by decide +kernel)), by decide +kernel⟩
theorem st_J9_max : Cond.static yJ9_max ∈ sgT := List.mem_filter.mpr ⟨List.mem_append_right _ (List.mem_of_getElem? (i := 271) (by decide +kernel)), by decide +kernel⟩
theorem mcJ9_max : Cond.code yJ9_max cJ9_max 2 (some .int) ∈ sgT := List.mem_filter.mpr ⟨List.mem_append_right _ (List.mem_of_getElem? (i := 272) (by decide +kernel)), by decide +kernel⟩
theorem ml_X0_49 : Cond.methodLink RX0 49 yX1_kindsBehind ∈ sgT := List.mem_filter.mpr ⟨List.mem_append_right _ (List.mem_of_getElem? (i := 273) (by decide +kernel)), by decide +kernel⟩
theorem ml_X0_34 : Cond.methodLink RX0 34 yX0_reduce ∈ sgT := List.mem_filter.mpr ⟨List.mem_append_right _ (List.mem_of_getElem? (i := 274) (by decide +kernel)), by decide +kernel⟩
theorem im_X0_reduce : Cond.instanceMethod yX0_reduce ∈ sgT := List.mem_filter.mpr ⟨List.mem_append_right _ (List.mem_of_getElem? (i := 276) (by decide +kernel)), by decide +kernel⟩
theorem mcX0_reduce : Cond.code yX0_reduce cX0_reduce 8 none ∈ sgT := List.mem_filter.mpr ⟨List.mem_append_right _ (List.mem_of_getElem? (i := 277) (by decide +kernel)), by decide +kernel⟩
theorem ml_L_69 : Cond.methodLink RL 69 yX5_bottom ∈ sgT := List.mem_filter.mpr ⟨List.mem_append_right _ (List.mem_of_getElem? (i := 278) (by decide +kernel)), by decide +kernel⟩
theorem im_X5_bottom : Cond.instanceMethod yX5_bottom ∈ sgT := List.mem_filter.mpr ⟨List.mem_append_right _ (List.mem_of_getElem? (i := 279) (by decide +kernel)), by decide +kernel⟩
theorem se_X5_bottom : Cond.selects RX5 yX5_bottom yX5_bottom ∈ sgT := List.mem_filter.mpr ⟨List.mem_append_right _ (List.mem_of_getElem? (i := 280) (by decide +kernel)), by decide +kernel⟩
theorem mcX5_bottom : Cond.code yX5_bottom cX5_bottom 4 (some .long) ∈ sgT := List.mem_filter.mpr ⟨List.mem_append_right _ (List.mem_of_getElem? (i := 281) (by decide +kernel)), by decide +kernel⟩
theorem ml_L_73 : Cond.methodLink RL 73 yX5_likeliest ∈ sgT := List.mem_filter.mpr ⟨List.mem_append_right _ (List.mem_of_getElem? (i := 282) (by decide +kernel)), by decide +kernel⟩
theorem im_X5_likeliest : Cond.instanceMethod yX5_likeliest ∈ sgT := List.mem_filter.mpr ⟨List.mem_append_right _ (List.mem_of_getElem? (i := 283) (by decide +kernel)), by decide +kernel⟩
theorem se_X5_likeliest : Cond.selects RX5 yX5_likeliest yX5_likeliest ∈ sgT := List.mem_filter.mpr ⟨List.mem_append_right _ (List.mem_of_getElem? (i := 284) (by decide +kernel)), by decide +kernel⟩
theorem mcX5_likeliest : Cond.code yX5_likeliest cX5_likeliest 9 (some .int) ∈ sgT := List.mem_filter.mpr ⟨List.mem_append_right _ (List.mem_of_getElem? (i := 285) (by decide +kernel)), by decide +kernel⟩
theorem ml_L_77 : Cond.methodLink RL 77 yX5_score ∈ sgT := List.mem_filter.mpr ⟨List.mem_append_right _ (List.mem_of_getElem? (i := 286) (by decide +kernel)), by decide +kernel⟩
theorem im_X5_score : Cond.instanceMethod yX5_score ∈ sgT := List.mem_filter.mpr ⟨List.mem_append_right _ (List.mem_of_getElem? (i := 287) (by decide +kernel)), by decide +kernel⟩
theorem se_X5_score : Cond.selects RX5 yX5_score yX5_score ∈ sgT := List.mem_filter.mpr ⟨List.mem_append_right _ (List.mem_of_getElem? (i := 288) (by decide +kernel)), by decide +kernel⟩
theorem mcX5_score : Cond.code yX5_score cX5_score 3 (some .int) ∈ sgT := List.mem_filter.mpr ⟨List.mem_append_right _ (List.mem_of_getElem? (i := 289) (by decide +kernel)), by decide +kernel⟩
theorem ml_X5_127 : Cond.methodLink RX5 127 yX5_scoreOpen ∈ sgT := List.mem_filter.mpr ⟨List.mem_append_right _ (List.mem_of_getElem? (i := 290) (by decide +kernel)), by decide +kernel⟩
theorem im_X5_scoreOpen : Cond.instanceMethod yX5_scoreOpen ∈ sgT := List.mem_filter.mpr ⟨List.mem_append_right _ (List.mem_of_getElem? (i := 292) (by decide +kernel)), by decide +kernel⟩
theorem mcX5_scoreOpen : Cond.code yX5_scoreOpen cX5_scoreOpen 4 none ∈ sgT := List.mem_filter.mpr ⟨List.mem_append_right _ (List.mem_of_getElem? (i := 293) (by decide +kernel)), by decide +kernel⟩
theorem ml_X5_156 : Cond.methodLink RX5 156 yX3_setOne ∈ sgT := List.mem_filter.mpr ⟨List.mem_append_right _ (List.mem_of_getElem? (i := 294) (by decide +kernel)), by decide +kernel⟩
theorem ml_X5_159 : Cond.methodLink RX5 159 yX3_multiply ∈ sgT := List.mem_filter.mpr ⟨List.mem_append_right _ (List.mem_of_getElem? (i := 295) (by decide +kernel)), by decide +kernel⟩
theorem im_X3_multiply : Cond.instanceMethod yX3_multiply ∈ sgT := List.mem_filter.mpr ⟨List.mem_append_right _ (List.mem_of_getElem? (i := 296) (by decide +kernel)), by decide +kernel⟩
theorem se_X3_multiply : Cond.selects RX3 yX3_multiply yX3_multiply ∈ sgT := List.mem_filter.mpr ⟨List.mem_append_right _ (List.mem_of_getElem? (i := 297) (by decide +kernel)), by decide +kernel⟩
theorem mcX3_multiply : Cond.code yX3_multiply cX3_multiply 2 none ∈ sgT := List.mem_filter.mpr ⟨List.mem_append_right _ (List.mem_of_getElem? (i := 298) (by decide +kernel)), by decide +kernel⟩
theorem ml_X3_30 : Cond.methodLink RX3 30 yX2_multiply ∈ sgT := List.mem_filter.mpr ⟨List.mem_append_right _ (List.mem_of_getElem? (i := 299) (by decide +kernel)), by decide +kernel⟩
theorem im_X2_multiply : Cond.instanceMethod yX2_multiply ∈ sgT := List.mem_filter.mpr ⟨List.mem_append_right _ (List.mem_of_getElem? (i := 300) (by decide +kernel)), by decide +kernel⟩
theorem se_X2_multiply : Cond.selects RX2 yX2_multiply yX2_multiply ∈ sgT := List.mem_filter.mpr ⟨List.mem_append_right _ (List.mem_of_getElem? (i := 301) (by decide +kernel)), by decide +kernel⟩
theorem mcX2_multiply : Cond.code yX2_multiply cX2_multiply 8 none ∈ sgT := List.mem_filter.mpr ⟨List.mem_append_right _ (List.mem_of_getElem? (i := 302) (by decide +kernel)), by decide +kernel⟩
theorem kl_X2_17 : Cond.constantLong RX2 17 (lN 4294967295) ∈ sgT := List.mem_filter.mpr ⟨List.mem_append_right _ (List.mem_of_getElem? (i := 303) (by decide +kernel)), by decide +kernel⟩
theorem ml_X5_132 : Cond.methodLink RX5 132 yX2_part ∈ sgT := List.mem_filter.mpr ⟨List.mem_append_right _ (List.mem_of_getElem? (i := 304) (by decide +kernel)), by decide +kernel⟩
theorem im_X2_part : Cond.instanceMethod yX2_part ∈ sgT := List.mem_filter.mpr ⟨List.mem_append_right _ (List.mem_of_getElem? (i := 305) (by decide +kernel)), by decide +kernel⟩
theorem se_X2_part : Cond.selects RX2 yX2_part yX2_part ∈ sgT := List.mem_filter.mpr ⟨List.mem_append_right _ (List.mem_of_getElem? (i := 306) (by decide +kernel)), by decide +kernel⟩
theorem mcX2_part : Cond.code yX2_part cX2_part 2 (some .int) ∈ sgT := List.mem_filter.mpr ⟨List.mem_append_right _ (List.mem_of_getElem? (i := 307) (by decide +kernel)), by decide +kernel⟩
theorem ml_L_81 : Cond.methodLink RL 81 yX5_keep ∈ sgT := List.mem_filter.mpr ⟨List.mem_append_right _ (List.mem_of_getElem? (i := 308) (by decide +kernel)), by decide +kernel⟩
theorem im_X5_keep : Cond.instanceMethod yX5_keep ∈ sgT := List.mem_filter.mpr ⟨List.mem_append_right _ (List.mem_of_getElem? (i := 309) (by decide +kernel)), by decide +kernel⟩
theorem se_X5_keep : Cond.selects RX5 yX5_keep yX5_keep ∈ sgT := List.mem_filter.mpr ⟨List.mem_append_right _ (List.mem_of_getElem? (i := 310) (by decide +kernel)), by decide +kernel⟩
theorem mcX5_keep : Cond.code yX5_keep cX5_keep 1 none ∈ sgT := List.mem_filter.mpr ⟨List.mem_append_right _ (List.mem_of_getElem? (i := 311) (by decide +kernel)), by decide +kernel⟩
theorem ml_X5_137 : Cond.methodLink RX5 137 yX3_copy ∈ sgT := List.mem_filter.mpr ⟨List.mem_append_right _ (List.mem_of_getElem? (i := 312) (by decide +kernel)), by decide +kernel⟩
theorem im_X3_copy : Cond.instanceMethod yX3_copy ∈ sgT := List.mem_filter.mpr ⟨List.mem_append_right _ (List.mem_of_getElem? (i := 313) (by decide +kernel)), by decide +kernel⟩
theorem se_X3_copy : Cond.selects RX3 yX3_copy yX3_copy ∈ sgT := List.mem_filter.mpr ⟨List.mem_append_right _ (List.mem_of_getElem? (i := 314) (by decide +kernel)), by decide +kernel⟩
theorem mcX3_copy : Cond.code yX3_copy cX3_copy 2 none ∈ sgT := List.mem_filter.mpr ⟨List.mem_append_right _ (List.mem_of_getElem? (i := 315) (by decide +kernel)), by decide +kernel⟩
theorem ml_X3_36 : Cond.methodLink RX3 36 yX2_copy ∈ sgT := List.mem_filter.mpr ⟨List.mem_append_right _ (List.mem_of_getElem? (i := 316) (by decide +kernel)), by decide +kernel⟩
theorem im_X2_copy : Cond.instanceMethod yX2_copy ∈ sgT := List.mem_filter.mpr ⟨List.mem_append_right _ (List.mem_of_getElem? (i := 317) (by decide +kernel)), by decide +kernel⟩
theorem se_X2_copy : Cond.selects RX2 yX2_copy yX2_copy ∈ sgT := List.mem_filter.mpr ⟨List.mem_append_right _ (List.mem_of_getElem? (i := 318) (by decide +kernel)), by decide +kernel⟩
theorem mcX2_copy : Cond.code yX2_copy cX2_copy 3 none ∈ sgT := List.mem_filter.mpr ⟨List.mem_append_right _ (List.mem_of_getElem? (i := 319) (by decide +kernel)), by decide +kernel⟩
theorem ml_X2_13 : Cond.methodLink RX2 13 yX2_part ∈ sgT := List.mem_filter.mpr ⟨List.mem_append_right _ (List.mem_of_getElem? (i := 320) (by decide +kernel)), by decide +kernel⟩
theorem ml_L_85 : Cond.methodLink RL 85 yX5_against ∈ sgT := List.mem_filter.mpr ⟨List.mem_append_right _ (List.mem_of_getElem? (i := 321) (by decide +kernel)), by decide +kernel⟩
theorem im_X5_against : Cond.instanceMethod yX5_against ∈ sgT := List.mem_filter.mpr ⟨List.mem_append_right _ (List.mem_of_getElem? (i := 322) (by decide +kernel)), by decide +kernel⟩
theorem se_X5_against : Cond.selects RX5 yX5_against yX5_against ∈ sgT := List.mem_filter.mpr ⟨List.mem_append_right _ (List.mem_of_getElem? (i := 323) (by decide +kernel)), by decide +kernel⟩
theorem mcX5_against : Cond.code yX5_against cX5_against 1 (some .int) ∈ sgT := List.mem_filter.mpr ⟨List.mem_append_right _ (List.mem_of_getElem? (i := 324) (by decide +kernel)), by decide +kernel⟩
theorem ml_X5_141 : Cond.methodLink RX5 141 yX2_setProduct ∈ sgT := List.mem_filter.mpr ⟨List.mem_append_right _ (List.mem_of_getElem? (i := 325) (by decide +kernel)), by decide +kernel⟩
theorem im_X2_setProduct : Cond.instanceMethod yX2_setProduct ∈ sgT := List.mem_filter.mpr ⟨List.mem_append_right _ (List.mem_of_getElem? (i := 326) (by decide +kernel)), by decide +kernel⟩
theorem se_X2_setProduct : Cond.selects RX2 yX2_setProduct yX2_setProduct ∈ sgT := List.mem_filter.mpr ⟨List.mem_append_right _ (List.mem_of_getElem? (i := 327) (by decide +kernel)), by decide +kernel⟩
theorem mcX2_setProduct : Cond.code yX2_setProduct cX2_setProduct 4 none ∈ sgT := List.mem_filter.mpr ⟨List.mem_append_right _ (List.mem_of_getElem? (i := 328) (by decide +kernel)), by decide +kernel⟩
theorem ml_X2_19 : Cond.methodLink RX2 19 yX2_addShifted ∈ sgT := List.mem_filter.mpr ⟨List.mem_append_right _ (List.mem_of_getElem? (i := 329) (by decide +kernel)), by decide +kernel⟩
theorem im_X2_addShifted : Cond.instanceMethod yX2_addShifted ∈ sgT := List.mem_filter.mpr ⟨List.mem_append_right _ (List.mem_of_getElem? (i := 331) (by decide +kernel)), by decide +kernel⟩
theorem mcX2_addShifted : Cond.code yX2_addShifted cX2_addShifted 10 none ∈ sgT := List.mem_filter.mpr ⟨List.mem_append_right _ (List.mem_of_getElem? (i := 332) (by decide +kernel)), by decide +kernel⟩
theorem ml_X5_145 : Cond.methodLink RX5 145 yX2_compare ∈ sgT := List.mem_filter.mpr ⟨List.mem_append_right _ (List.mem_of_getElem? (i := 333) (by decide +kernel)), by decide +kernel⟩
theorem im_X2_compare : Cond.instanceMethod yX2_compare ∈ sgT := List.mem_filter.mpr ⟨List.mem_append_right _ (List.mem_of_getElem? (i := 334) (by decide +kernel)), by decide +kernel⟩
theorem se_X2_compare : Cond.selects RX2 yX2_compare yX2_compare ∈ sgT := List.mem_filter.mpr ⟨List.mem_append_right _ (List.mem_of_getElem? (i := 335) (by decide +kernel)), by decide +kernel⟩
theorem mcX2_compare : Cond.code yX2_compare cX2_compare 4 (some .int) ∈ sgT := List.mem_filter.mpr ⟨List.mem_append_right _ (List.mem_of_getElem? (i := 336) (by decide +kernel)), by decide +kernel⟩
theorem ml_X2_23 : Cond.methodLink RX2 23 yJ6_compareUnsigned ∈ sgT := List.mem_filter.mpr ⟨List.mem_append_right _ (List.mem_of_getElem? (i := 337) (by decide +kernel)), by decide +kernel⟩
theorem st_J6_compareUnsigned : Cond.static yJ6_compareUnsigned ∈ sgT := List.mem_filter.mpr ⟨List.mem_append_right _ (List.mem_of_getElem? (i := 338) (by decide +kernel)), by decide +kernel⟩
theorem mcJ6_compareUnsigned : Cond.code yJ6_compareUnsigned cJ6_compareUnsigned 2 (some .int) ∈ sgT := List.mem_filter.mpr ⟨List.mem_append_right _ (List.mem_of_getElem? (i := 339) (by decide +kernel)), by decide +kernel⟩
theorem ki_J6_127 : Cond.constant RJ6 127 (-2147483648) ∈ sgT := List.mem_filter.mpr ⟨List.mem_append_right _ (List.mem_of_getElem? (i := 340) (by decide +kernel)), by decide +kernel⟩
theorem ml_J6_259 : Cond.methodLink RJ6 259 yJ6_compare ∈ sgT := List.mem_filter.mpr ⟨List.mem_append_right _ (List.mem_of_getElem? (i := 341) (by decide +kernel)), by decide +kernel⟩
theorem st_J6_compare : Cond.static yJ6_compare ∈ sgT := List.mem_filter.mpr ⟨List.mem_append_right _ (List.mem_of_getElem? (i := 342) (by decide +kernel)), by decide +kernel⟩
theorem mcJ6_compare : Cond.code yJ6_compare cJ6_compare 2 (some .int) ∈ sgT := List.mem_filter.mpr ⟨List.mem_append_right _ (List.mem_of_getElem? (i := 343) (by decide +kernel)), by decide +kernel⟩
theorem cl_L_10 : Cond.classLink RL 10 RX6 ∈ sgT := List.mem_filter.mpr ⟨List.mem_append_right _ (List.mem_of_getElem? (i := 344) (by decide +kernel)), by decide +kernel⟩
theorem it_X6 : Cond.instantiable RX6 12 ∈ sgT := List.mem_filter.mpr ⟨List.mem_append_right _ (List.mem_of_getElem? (i := 345) (by decide +kernel)), by decide +kernel⟩
theorem ml_L_12 : Cond.methodLink RL 12 yX6_init ∈ sgT := List.mem_filter.mpr ⟨List.mem_append_right _ (List.mem_of_getElem? (i := 346) (by decide +kernel)), by decide +kernel⟩
theorem im_X6_init : Cond.instanceMethod yX6_init ∈ sgT := List.mem_filter.mpr ⟨List.mem_append_right _ (List.mem_of_getElem? (i := 347) (by decide +kernel)), by decide +kernel⟩
theorem mcX6_init : Cond.code yX6_init cX6_init 1 none ∈ sgT := List.mem_filter.mpr ⟨List.mem_append_right _ (List.mem_of_getElem? (i := 348) (by decide +kernel)), by decide +kernel⟩
theorem ml_X6_1 : Cond.methodLink RX6 1 objectInit ∈ sgT := List.mem_filter.mpr ⟨List.mem_append_right _ (List.mem_of_getElem? (i := 349) (by decide +kernel)), by decide +kernel⟩
theorem fl_X6_7 : Cond.fieldLink RX6 7 "SmoothedGramsModel" "order" "I" ∈ sgT := List.mem_filter.mpr ⟨List.mem_append_right _ (List.mem_of_getElem? (i := 350) (by decide +kernel)), by decide +kernel⟩
theorem fl_X6_13 : Cond.fieldLink RX6 13 "SmoothedGramsModel" "eighths" "[I" ∈ sgT := List.mem_filter.mpr ⟨List.mem_append_right _ (List.mem_of_getElem? (i := 351) (by decide +kernel)), by decide +kernel⟩
theorem fl_X6_35 : Cond.fieldLink RX6 35 "SmoothedGramsModel" "sentences" "I" ∈ sgT := List.mem_filter.mpr ⟨List.mem_append_right _ (List.mem_of_getElem? (i := 352) (by decide +kernel)), by decide +kernel⟩
theorem fl_X6_17 : Cond.fieldLink RX6 17 "SmoothedGramsModel" "lengths" "[I" ∈ sgT := List.mem_filter.mpr ⟨List.mem_append_right _ (List.mem_of_getElem? (i := 353) (by decide +kernel)), by decide +kernel⟩
theorem fl_X6_20 : Cond.fieldLink RX6 20 "SmoothedGramsModel" "words" "[I" ∈ sgT := List.mem_filter.mpr ⟨List.mem_append_right _ (List.mem_of_getElem? (i := 354) (by decide +kernel)), by decide +kernel⟩
theorem fl_X6_38 : Cond.fieldLink RX6 38 "SmoothedGramsModel" "events" "I" ∈ sgT := List.mem_filter.mpr ⟨List.mem_append_right _ (List.mem_of_getElem? (i := 355) (by decide +kernel)), by decide +kernel⟩
theorem fl_X6_23 : Cond.fieldLink RX6 23 "SmoothedGramsModel" "what" "[I" ∈ sgT := List.mem_filter.mpr ⟨List.mem_append_right _ (List.mem_of_getElem? (i := 356) (by decide +kernel)), by decide +kernel⟩
theorem fl_X6_26 : Cond.fieldLink RX6 26 "SmoothedGramsModel" "before" "[I" ∈ sgT := List.mem_filter.mpr ⟨List.mem_append_right _ (List.mem_of_getElem? (i := 357) (by decide +kernel)), by decide +kernel⟩
theorem fl_X6_29 : Cond.fieldLink RX6 29 "SmoothedGramsModel" "farther" "[I" ∈ sgT := List.mem_filter.mpr ⟨List.mem_append_right _ (List.mem_of_getElem? (i := 358) (by decide +kernel)), by decide +kernel⟩
theorem fl_X6_76 : Cond.fieldLink RX6 76 "SmoothedGramsModel" "over" "J" ∈ sgT := List.mem_filter.mpr ⟨List.mem_append_right _ (List.mem_of_getElem? (i := 359) (by decide +kernel)), by decide +kernel⟩
theorem fl_X6_82 : Cond.fieldLink RX6 82 "SmoothedGramsModel" "under" "J" ∈ sgT := List.mem_filter.mpr ⟨List.mem_append_right _ (List.mem_of_getElem? (i := 360) (by decide +kernel)), by decide +kernel⟩
theorem fl_X6_32 : Cond.fieldLink RX6 32 "SmoothedGramsModel" "limbs" "[I" ∈ sgT := List.mem_filter.mpr ⟨List.mem_append_right _ (List.mem_of_getElem? (i := 361) (by decide +kernel)), by decide +kernel⟩
theorem ml_L_17 : Cond.methodLink RL 17 yX6_order ∈ sgT := List.mem_filter.mpr ⟨List.mem_append_right _ (List.mem_of_getElem? (i := 387) (by decide +kernel)), by decide +kernel⟩
theorem im_X6_order : Cond.instanceMethod yX6_order ∈ sgT := List.mem_filter.mpr ⟨List.mem_append_right _ (List.mem_of_getElem? (i := 388) (by decide +kernel)), by decide +kernel⟩
theorem se_X6_order : Cond.selects RX6 yX6_order yX6_order ∈ sgT := List.mem_filter.mpr ⟨List.mem_append_right _ (List.mem_of_getElem? (i := 389) (by decide +kernel)), by decide +kernel⟩
theorem mcX6_order : Cond.code yX6_order cX6_order 2 (some .boolean) ∈ sgT := List.mem_filter.mpr ⟨List.mem_append_right _ (List.mem_of_getElem? (i := 390) (by decide +kernel)), by decide +kernel⟩
theorem ml_L_22 : Cond.methodLink RL 22 yX6_discount ∈ sgT := List.mem_filter.mpr ⟨List.mem_append_right _ (List.mem_of_getElem? (i := 391) (by decide +kernel)), by decide +kernel⟩
theorem im_X6_discount : Cond.instanceMethod yX6_discount ∈ sgT := List.mem_filter.mpr ⟨List.mem_append_right _ (List.mem_of_getElem? (i := 392) (by decide +kernel)), by decide +kernel⟩
theorem se_X6_discount : Cond.selects RX6 yX6_discount yX6_discount ∈ sgT := List.mem_filter.mpr ⟨List.mem_append_right _ (List.mem_of_getElem? (i := 393) (by decide +kernel)), by decide +kernel⟩
theorem mcX6_discount : Cond.code yX6_discount cX6_discount 3 (some .boolean) ∈ sgT := List.mem_filter.mpr ⟨List.mem_append_right _ (List.mem_of_getElem? (i := 394) (by decide +kernel)), by decide +kernel⟩
theorem ml_L_26 : Cond.methodLink RL 26 yX6_word ∈ sgT := List.mem_filter.mpr ⟨List.mem_append_right _ (List.mem_of_getElem? (i := 395) (by decide +kernel)), by decide +kernel⟩
theorem im_X6_word : Cond.instanceMethod yX6_word ∈ sgT := List.mem_filter.mpr ⟨List.mem_append_right _ (List.mem_of_getElem? (i := 396) (by decide +kernel)), by decide +kernel⟩
theorem se_X6_word : Cond.selects RX6 yX6_word yX6_word ∈ sgT := List.mem_filter.mpr ⟨List.mem_append_right _ (List.mem_of_getElem? (i := 397) (by decide +kernel)), by decide +kernel⟩
theorem mcX6_word : Cond.code yX6_word cX6_word 3 (some .boolean) ∈ sgT := List.mem_filter.mpr ⟨List.mem_append_right _ (List.mem_of_getElem? (i := 398) (by decide +kernel)), by decide +kernel⟩
theorem ml_L_31 : Cond.methodLink RL 31 yX6_learn ∈ sgT := List.mem_filter.mpr ⟨List.mem_append_right _ (List.mem_of_getElem? (i := 399) (by decide +kernel)), by decide +kernel⟩
theorem im_X6_learn : Cond.instanceMethod yX6_learn ∈ sgT := List.mem_filter.mpr ⟨List.mem_append_right _ (List.mem_of_getElem? (i := 400) (by decide +kernel)), by decide +kernel⟩
theorem se_X6_learn : Cond.selects RX6 yX6_learn yX6_learn ∈ sgT := List.mem_filter.mpr ⟨List.mem_append_right _ (List.mem_of_getElem? (i := 401) (by decide +kernel)), by decide +kernel⟩
theorem mcX6_learn : Cond.code yX6_learn cX6_learn 1 (some .int) ∈ sgT := List.mem_filter.mpr ⟨List.mem_append_right _ (List.mem_of_getElem? (i := 402) (by decide +kernel)), by decide +kernel⟩
theorem ml_L_35 : Cond.methodLink RL 35 yX6_erase ∈ sgT := List.mem_filter.mpr ⟨List.mem_append_right _ (List.mem_of_getElem? (i := 403) (by decide +kernel)), by decide +kernel⟩
theorem im_X6_erase : Cond.instanceMethod yX6_erase ∈ sgT := List.mem_filter.mpr ⟨List.mem_append_right _ (List.mem_of_getElem? (i := 404) (by decide +kernel)), by decide +kernel⟩
theorem se_X6_erase : Cond.selects RX6 yX6_erase yX6_erase ∈ sgT := List.mem_filter.mpr ⟨List.mem_append_right _ (List.mem_of_getElem? (i := 405) (by decide +kernel)), by decide +kernel⟩
theorem mcX6_erase : Cond.code yX6_erase cX6_erase 2 (some .int) ∈ sgT := List.mem_filter.mpr ⟨List.mem_append_right _ (List.mem_of_getElem? (i := 406) (by decide +kernel)), by decide +kernel⟩
theorem ml_L_39 : Cond.methodLink RL 39 yX6_forget ∈ sgT := List.mem_filter.mpr ⟨List.mem_append_right _ (List.mem_of_getElem? (i := 407) (by decide +kernel)), by decide +kernel⟩
theorem im_X6_forget : Cond.instanceMethod yX6_forget ∈ sgT := List.mem_filter.mpr ⟨List.mem_append_right _ (List.mem_of_getElem? (i := 408) (by decide +kernel)), by decide +kernel⟩
theorem se_X6_forget : Cond.selects RX6 yX6_forget yX6_forget ∈ sgT := List.mem_filter.mpr ⟨List.mem_append_right _ (List.mem_of_getElem? (i := 409) (by decide +kernel)), by decide +kernel⟩
theorem mcX6_forget : Cond.code yX6_forget cX6_forget 1 (some .int) ∈ sgT := List.mem_filter.mpr ⟨List.mem_append_right _ (List.mem_of_getElem? (i := 410) (by decide +kernel)), by decide +kernel⟩
theorem ml_L_44 : Cond.methodLink RL 44 yX6_count ∈ sgT := List.mem_filter.mpr ⟨List.mem_append_right _ (List.mem_of_getElem? (i := 411) (by decide +kernel)), by decide +kernel⟩
theorem im_X6_count : Cond.instanceMethod yX6_count ∈ sgT := List.mem_filter.mpr ⟨List.mem_append_right _ (List.mem_of_getElem? (i := 412) (by decide +kernel)), by decide +kernel⟩
theorem se_X6_count : Cond.selects RX6 yX6_count yX6_count ∈ sgT := List.mem_filter.mpr ⟨List.mem_append_right _ (List.mem_of_getElem? (i := 413) (by decide +kernel)), by decide +kernel⟩
theorem mcX6_count : Cond.code yX6_count cX6_count 5 (some .int) ∈ sgT := List.mem_filter.mpr ⟨List.mem_append_right _ (List.mem_of_getElem? (i := 414) (by decide +kernel)), by decide +kernel⟩
theorem ml_X6_56 : Cond.methodLink RX6 56 yX6_look ∈ sgT := List.mem_filter.mpr ⟨List.mem_append_right _ (List.mem_of_getElem? (i := 415) (by decide +kernel)), by decide +kernel⟩
theorem im_X6_look : Cond.instanceMethod yX6_look ∈ sgT := List.mem_filter.mpr ⟨List.mem_append_right _ (List.mem_of_getElem? (i := 417) (by decide +kernel)), by decide +kernel⟩
theorem mcX6_look : Cond.code yX6_look cX6_look 3 none ∈ sgT := List.mem_filter.mpr ⟨List.mem_append_right _ (List.mem_of_getElem? (i := 418) (by decide +kernel)), by decide +kernel⟩
theorem ml_X6_41 : Cond.methodLink RX6 41 yX6_symbolAt ∈ sgT := List.mem_filter.mpr ⟨List.mem_append_right _ (List.mem_of_getElem? (i := 419) (by decide +kernel)), by decide +kernel⟩
theorem im_X6_symbolAt : Cond.instanceMethod yX6_symbolAt ∈ sgT := List.mem_filter.mpr ⟨List.mem_append_right _ (List.mem_of_getElem? (i := 421) (by decide +kernel)), by decide +kernel⟩
theorem mcX6_symbolAt : Cond.code yX6_symbolAt cX6_symbolAt 3 (some .int) ∈ sgT := List.mem_filter.mpr ⟨List.mem_append_right _ (List.mem_of_getElem? (i := 422) (by decide +kernel)), by decide +kernel⟩
theorem ml_X6_59 : Cond.methodLink RX6 59 yX6_areSymbols ∈ sgT := List.mem_filter.mpr ⟨List.mem_append_right _ (List.mem_of_getElem? (i := 423) (by decide +kernel)), by decide +kernel⟩
theorem im_X6_areSymbols : Cond.instanceMethod yX6_areSymbols ∈ sgT := List.mem_filter.mpr ⟨List.mem_append_right _ (List.mem_of_getElem? (i := 425) (by decide +kernel)), by decide +kernel⟩
theorem mcX6_areSymbols : Cond.code yX6_areSymbols cX6_areSymbols 4 (some .boolean) ∈ sgT := List.mem_filter.mpr ⟨List.mem_append_right _ (List.mem_of_getElem? (i := 426) (by decide +kernel)), by decide +kernel⟩
theorem ml_X6_49 : Cond.methodLink RX6 49 yX6_isLevel ∈ sgT := List.mem_filter.mpr ⟨List.mem_append_right _ (List.mem_of_getElem? (i := 427) (by decide +kernel)), by decide +kernel⟩
theorem st_X6_isLevel : Cond.static yX6_isLevel ∈ sgT := List.mem_filter.mpr ⟨List.mem_append_right _ (List.mem_of_getElem? (i := 428) (by decide +kernel)), by decide +kernel⟩
theorem mcX6_isLevel : Cond.code yX6_isLevel cX6_isLevel 1 (some .boolean) ∈ sgT := List.mem_filter.mpr ⟨List.mem_append_right _ (List.mem_of_getElem? (i := 429) (by decide +kernel)), by decide +kernel⟩
theorem ml_X6_53 : Cond.methodLink RX6 53 yX6_isSymbol ∈ sgT := List.mem_filter.mpr ⟨List.mem_append_right _ (List.mem_of_getElem? (i := 430) (by decide +kernel)), by decide +kernel⟩
theorem st_X6_isSymbol : Cond.static yX6_isSymbol ∈ sgT := List.mem_filter.mpr ⟨List.mem_append_right _ (List.mem_of_getElem? (i := 431) (by decide +kernel)), by decide +kernel⟩
theorem mcX6_isSymbol : Cond.code yX6_isSymbol cX6_isSymbol 1 (some .boolean) ∈ sgT := List.mem_filter.mpr ⟨List.mem_append_right _ (List.mem_of_getElem? (i := 432) (by decide +kernel)), by decide +kernel⟩
theorem ml_X6_63 : Cond.methodLink RX6 63 yX6_countOf ∈ sgT := List.mem_filter.mpr ⟨List.mem_append_right _ (List.mem_of_getElem? (i := 433) (by decide +kernel)), by decide +kernel⟩
theorem im_X6_countOf : Cond.instanceMethod yX6_countOf ∈ sgT := List.mem_filter.mpr ⟨List.mem_append_right _ (List.mem_of_getElem? (i := 435) (by decide +kernel)), by decide +kernel⟩
theorem mcX6_countOf : Cond.code yX6_countOf cX6_countOf 8 (some .int) ∈ sgT := List.mem_filter.mpr ⟨List.mem_append_right _ (List.mem_of_getElem? (i := 436) (by decide +kernel)), by decide +kernel⟩
theorem ml_X6_45 : Cond.methodLink RX6 45 yX6_raw ∈ sgT := List.mem_filter.mpr ⟨List.mem_append_right _ (List.mem_of_getElem? (i := 437) (by decide +kernel)), by decide +kernel⟩
theorem im_X6_raw : Cond.instanceMethod yX6_raw ∈ sgT := List.mem_filter.mpr ⟨List.mem_append_right _ (List.mem_of_getElem? (i := 439) (by decide +kernel)), by decide +kernel⟩
theorem mcX6_raw : Cond.code yX6_raw cX6_raw 8 (some .int) ∈ sgT := List.mem_filter.mpr ⟨List.mem_append_right _ (List.mem_of_getElem? (i := 440) (by decide +kernel)), by decide +kernel⟩
theorem ml_L_49 : Cond.methodLink RL 49 yX6_total ∈ sgT := List.mem_filter.mpr ⟨List.mem_append_right _ (List.mem_of_getElem? (i := 441) (by decide +kernel)), by decide +kernel⟩
theorem im_X6_total : Cond.instanceMethod yX6_total ∈ sgT := List.mem_filter.mpr ⟨List.mem_append_right _ (List.mem_of_getElem? (i := 442) (by decide +kernel)), by decide +kernel⟩
theorem se_X6_total : Cond.selects RX6 yX6_total yX6_total ∈ sgT := List.mem_filter.mpr ⟨List.mem_append_right _ (List.mem_of_getElem? (i := 443) (by decide +kernel)), by decide +kernel⟩
theorem mcX6_total : Cond.code yX6_total cX6_total 4 (some .int) ∈ sgT := List.mem_filter.mpr ⟨List.mem_append_right _ (List.mem_of_getElem? (i := 444) (by decide +kernel)), by decide +kernel⟩
theorem ml_X6_66 : Cond.methodLink RX6 66 yX6_totalOf ∈ sgT := List.mem_filter.mpr ⟨List.mem_append_right _ (List.mem_of_getElem? (i := 445) (by decide +kernel)), by decide +kernel⟩
theorem im_X6_totalOf : Cond.instanceMethod yX6_totalOf ∈ sgT := List.mem_filter.mpr ⟨List.mem_append_right _ (List.mem_of_getElem? (i := 447) (by decide +kernel)), by decide +kernel⟩
theorem mcX6_totalOf : Cond.code yX6_totalOf cX6_totalOf 6 (some .int) ∈ sgT := List.mem_filter.mpr ⟨List.mem_append_right _ (List.mem_of_getElem? (i := 448) (by decide +kernel)), by decide +kernel⟩
theorem ml_L_53 : Cond.methodLink RL 53 yX6_kinds ∈ sgT := List.mem_filter.mpr ⟨List.mem_append_right _ (List.mem_of_getElem? (i := 449) (by decide +kernel)), by decide +kernel⟩
theorem im_X6_kinds : Cond.instanceMethod yX6_kinds ∈ sgT := List.mem_filter.mpr ⟨List.mem_append_right _ (List.mem_of_getElem? (i := 450) (by decide +kernel)), by decide +kernel⟩
theorem se_X6_kinds : Cond.selects RX6 yX6_kinds yX6_kinds ∈ sgT := List.mem_filter.mpr ⟨List.mem_append_right _ (List.mem_of_getElem? (i := 451) (by decide +kernel)), by decide +kernel⟩
theorem mcX6_kinds : Cond.code yX6_kinds cX6_kinds 4 (some .int) ∈ sgT := List.mem_filter.mpr ⟨List.mem_append_right _ (List.mem_of_getElem? (i := 452) (by decide +kernel)), by decide +kernel⟩
theorem ml_X6_70 : Cond.methodLink RX6 70 yX6_kindsOf ∈ sgT := List.mem_filter.mpr ⟨List.mem_append_right _ (List.mem_of_getElem? (i := 453) (by decide +kernel)), by decide +kernel⟩
theorem im_X6_kindsOf : Cond.instanceMethod yX6_kindsOf ∈ sgT := List.mem_filter.mpr ⟨List.mem_append_right _ (List.mem_of_getElem? (i := 455) (by decide +kernel)), by decide +kernel⟩
theorem mcX6_kindsOf : Cond.code yX6_kindsOf cX6_kindsOf 6 (some .int) ∈ sgT := List.mem_filter.mpr ⟨List.mem_append_right _ (List.mem_of_getElem? (i := 456) (by decide +kernel)), by decide +kernel⟩
theorem ml_L_58 : Cond.methodLink RL 58 yX6_grams ∈ sgT := List.mem_filter.mpr ⟨List.mem_append_right _ (List.mem_of_getElem? (i := 457) (by decide +kernel)), by decide +kernel⟩
theorem im_X6_grams : Cond.instanceMethod yX6_grams ∈ sgT := List.mem_filter.mpr ⟨List.mem_append_right _ (List.mem_of_getElem? (i := 458) (by decide +kernel)), by decide +kernel⟩
theorem se_X6_grams : Cond.selects RX6 yX6_grams yX6_grams ∈ sgT := List.mem_filter.mpr ⟨List.mem_append_right _ (List.mem_of_getElem? (i := 459) (by decide +kernel)), by decide +kernel⟩
theorem mcX6_grams : Cond.code yX6_grams cX6_grams 2 (some .int) ∈ sgT := List.mem_filter.mpr ⟨List.mem_append_right _ (List.mem_of_getElem? (i := 460) (by decide +kernel)), by decide +kernel⟩
theorem ml_X6_73 : Cond.methodLink RX6 73 yX6_gramOf ∈ sgT := List.mem_filter.mpr ⟨List.mem_append_right _ (List.mem_of_getElem? (i := 461) (by decide +kernel)), by decide +kernel⟩
theorem im_X6_gramOf : Cond.instanceMethod yX6_gramOf ∈ sgT := List.mem_filter.mpr ⟨List.mem_append_right _ (List.mem_of_getElem? (i := 463) (by decide +kernel)), by decide +kernel⟩
theorem mcX6_gramOf : Cond.code yX6_gramOf cX6_gramOf 6 (some .int) ∈ sgT := List.mem_filter.mpr ⟨List.mem_append_right _ (List.mem_of_getElem? (i := 464) (by decide +kernel)), by decide +kernel⟩
theorem ml_L_63 : Cond.methodLink RL 63 yX6_gram ∈ sgT := List.mem_filter.mpr ⟨List.mem_append_right _ (List.mem_of_getElem? (i := 465) (by decide +kernel)), by decide +kernel⟩
theorem im_X6_gram : Cond.instanceMethod yX6_gram ∈ sgT := List.mem_filter.mpr ⟨List.mem_append_right _ (List.mem_of_getElem? (i := 466) (by decide +kernel)), by decide +kernel⟩
theorem se_X6_gram : Cond.selects RX6 yX6_gram yX6_gram ∈ sgT := List.mem_filter.mpr ⟨List.mem_append_right _ (List.mem_of_getElem? (i := 467) (by decide +kernel)), by decide +kernel⟩
theorem mcX6_gram : Cond.code yX6_gram cX6_gram 3 (some .int) ∈ sgT := List.mem_filter.mpr ⟨List.mem_append_right _ (List.mem_of_getElem? (i := 468) (by decide +kernel)), by decide +kernel⟩
theorem ml_L_68 : Cond.methodLink RL 68 yX6_top ∈ sgT := List.mem_filter.mpr ⟨List.mem_append_right _ (List.mem_of_getElem? (i := 469) (by decide +kernel)), by decide +kernel⟩
theorem im_X6_top : Cond.instanceMethod yX6_top ∈ sgT := List.mem_filter.mpr ⟨List.mem_append_right _ (List.mem_of_getElem? (i := 470) (by decide +kernel)), by decide +kernel⟩
theorem se_X6_top : Cond.selects RX6 yX6_top yX6_top ∈ sgT := List.mem_filter.mpr ⟨List.mem_append_right _ (List.mem_of_getElem? (i := 471) (by decide +kernel)), by decide +kernel⟩
theorem mcX6_top : Cond.code yX6_top cX6_top 4 (some .long) ∈ sgT := List.mem_filter.mpr ⟨List.mem_append_right _ (List.mem_of_getElem? (i := 472) (by decide +kernel)), by decide +kernel⟩
theorem ml_X6_87 : Cond.methodLink RX6 87 yX6_isWord ∈ sgT := List.mem_filter.mpr ⟨List.mem_append_right _ (List.mem_of_getElem? (i := 473) (by decide +kernel)), by decide +kernel⟩
theorem st_X6_isWord : Cond.static yX6_isWord ∈ sgT := List.mem_filter.mpr ⟨List.mem_append_right _ (List.mem_of_getElem? (i := 474) (by decide +kernel)), by decide +kernel⟩
theorem mcX6_isWord : Cond.code yX6_isWord cX6_isWord 1 (some .boolean) ∈ sgT := List.mem_filter.mpr ⟨List.mem_append_right _ (List.mem_of_getElem? (i := 475) (by decide +kernel)), by decide +kernel⟩
theorem kl_X6_90 : Cond.constantLong RX6 90 (-1) ∈ sgT := List.mem_filter.mpr ⟨List.mem_append_right _ (List.mem_of_getElem? (i := 476) (by decide +kernel)), by decide +kernel⟩
theorem ml_X6_92 : Cond.methodLink RX6 92 yX6_reckon ∈ sgT := List.mem_filter.mpr ⟨List.mem_append_right _ (List.mem_of_getElem? (i := 477) (by decide +kernel)), by decide +kernel⟩
theorem im_X6_reckon : Cond.instanceMethod yX6_reckon ∈ sgT := List.mem_filter.mpr ⟨List.mem_append_right _ (List.mem_of_getElem? (i := 479) (by decide +kernel)), by decide +kernel⟩
theorem mcX6_reckon : Cond.code yX6_reckon cX6_reckon 10 none ∈ sgT := List.mem_filter.mpr ⟨List.mem_append_right _ (List.mem_of_getElem? (i := 480) (by decide +kernel)), by decide +kernel⟩
theorem kl_X6_80 : Cond.constantLong RX6 80 (lN 6) ∈ sgT := List.mem_filter.mpr ⟨List.mem_append_right _ (List.mem_of_getElem? (i := 481) (by decide +kernel)), by decide +kernel⟩
theorem kl_X6_85 : Cond.constantLong RX6 85 (lN 8) ∈ sgT := List.mem_filter.mpr ⟨List.mem_append_right _ (List.mem_of_getElem? (i := 482) (by decide +kernel)), by decide +kernel⟩
theorem ml_L_72 : Cond.methodLink RL 72 yX6_bottom ∈ sgT := List.mem_filter.mpr ⟨List.mem_append_right _ (List.mem_of_getElem? (i := 483) (by decide +kernel)), by decide +kernel⟩
theorem im_X6_bottom : Cond.instanceMethod yX6_bottom ∈ sgT := List.mem_filter.mpr ⟨List.mem_append_right _ (List.mem_of_getElem? (i := 484) (by decide +kernel)), by decide +kernel⟩
theorem se_X6_bottom : Cond.selects RX6 yX6_bottom yX6_bottom ∈ sgT := List.mem_filter.mpr ⟨List.mem_append_right _ (List.mem_of_getElem? (i := 485) (by decide +kernel)), by decide +kernel⟩
theorem mcX6_bottom : Cond.code yX6_bottom cX6_bottom 4 (some .long) ∈ sgT := List.mem_filter.mpr ⟨List.mem_append_right _ (List.mem_of_getElem? (i := 486) (by decide +kernel)), by decide +kernel⟩
theorem ml_L_76 : Cond.methodLink RL 76 yX6_likeliest ∈ sgT := List.mem_filter.mpr ⟨List.mem_append_right _ (List.mem_of_getElem? (i := 487) (by decide +kernel)), by decide +kernel⟩
theorem im_X6_likeliest : Cond.instanceMethod yX6_likeliest ∈ sgT := List.mem_filter.mpr ⟨List.mem_append_right _ (List.mem_of_getElem? (i := 488) (by decide +kernel)), by decide +kernel⟩
theorem se_X6_likeliest : Cond.selects RX6 yX6_likeliest yX6_likeliest ∈ sgT := List.mem_filter.mpr ⟨List.mem_append_right _ (List.mem_of_getElem? (i := 489) (by decide +kernel)), by decide +kernel⟩
theorem mcX6_likeliest : Cond.code yX6_likeliest cX6_likeliest 9 (some .int) ∈ sgT := List.mem_filter.mpr ⟨List.mem_append_right _ (List.mem_of_getElem? (i := 490) (by decide +kernel)), by decide +kernel⟩
theorem ml_L_80 : Cond.methodLink RL 80 yX6_score ∈ sgT := List.mem_filter.mpr ⟨List.mem_append_right _ (List.mem_of_getElem? (i := 491) (by decide +kernel)), by decide +kernel⟩
theorem im_X6_score : Cond.instanceMethod yX6_score ∈ sgT := List.mem_filter.mpr ⟨List.mem_append_right _ (List.mem_of_getElem? (i := 492) (by decide +kernel)), by decide +kernel⟩
theorem se_X6_score : Cond.selects RX6 yX6_score yX6_score ∈ sgT := List.mem_filter.mpr ⟨List.mem_append_right _ (List.mem_of_getElem? (i := 493) (by decide +kernel)), by decide +kernel⟩
theorem mcX6_score : Cond.code yX6_score cX6_score 4 (some .int) ∈ sgT := List.mem_filter.mpr ⟨List.mem_append_right _ (List.mem_of_getElem? (i := 494) (by decide +kernel)), by decide +kernel⟩
theorem ml_X6_106 : Cond.methodLink RX6 106 yX6_findScore ∈ sgT := List.mem_filter.mpr ⟨List.mem_append_right _ (List.mem_of_getElem? (i := 495) (by decide +kernel)), by decide +kernel⟩
theorem im_X6_findScore : Cond.instanceMethod yX6_findScore ∈ sgT := List.mem_filter.mpr ⟨List.mem_append_right _ (List.mem_of_getElem? (i := 497) (by decide +kernel)), by decide +kernel⟩
theorem mcX6_findScore : Cond.code yX6_findScore cX6_findScore 2 none ∈ sgT := List.mem_filter.mpr ⟨List.mem_append_right _ (List.mem_of_getElem? (i := 498) (by decide +kernel)), by decide +kernel⟩
theorem ml_X6_98 : Cond.methodLink RX6 98 yX6_setOne ∈ sgT := List.mem_filter.mpr ⟨List.mem_append_right _ (List.mem_of_getElem? (i := 499) (by decide +kernel)), by decide +kernel⟩
theorem im_X6_setOne : Cond.instanceMethod yX6_setOne ∈ sgT := List.mem_filter.mpr ⟨List.mem_append_right _ (List.mem_of_getElem? (i := 501) (by decide +kernel)), by decide +kernel⟩
theorem mcX6_setOne : Cond.code yX6_setOne cX6_setOne 3 none ∈ sgT := List.mem_filter.mpr ⟨List.mem_append_right _ (List.mem_of_getElem? (i := 502) (by decide +kernel)), by decide +kernel⟩
theorem ml_X6_102 : Cond.methodLink RX6 102 yX6_times ∈ sgT := List.mem_filter.mpr ⟨List.mem_append_right _ (List.mem_of_getElem? (i := 503) (by decide +kernel)), by decide +kernel⟩
theorem im_X6_times : Cond.instanceMethod yX6_times ∈ sgT := List.mem_filter.mpr ⟨List.mem_append_right _ (List.mem_of_getElem? (i := 505) (by decide +kernel)), by decide +kernel⟩
theorem mcX6_times : Cond.code yX6_times cX6_times 9 none ∈ sgT := List.mem_filter.mpr ⟨List.mem_append_right _ (List.mem_of_getElem? (i := 506) (by decide +kernel)), by decide +kernel⟩
theorem kl_X6_96 : Cond.constantLong RX6 96 (lN 65535) ∈ sgT := List.mem_filter.mpr ⟨List.mem_append_right _ (List.mem_of_getElem? (i := 507) (by decide +kernel)), by decide +kernel⟩
theorem ml_L_84 : Cond.methodLink RL 84 yX6_keep ∈ sgT := List.mem_filter.mpr ⟨List.mem_append_right _ (List.mem_of_getElem? (i := 508) (by decide +kernel)), by decide +kernel⟩
theorem im_X6_keep : Cond.instanceMethod yX6_keep ∈ sgT := List.mem_filter.mpr ⟨List.mem_append_right _ (List.mem_of_getElem? (i := 509) (by decide +kernel)), by decide +kernel⟩
theorem se_X6_keep : Cond.selects RX6 yX6_keep yX6_keep ∈ sgT := List.mem_filter.mpr ⟨List.mem_append_right _ (List.mem_of_getElem? (i := 510) (by decide +kernel)), by decide +kernel⟩
theorem mcX6_keep : Cond.code yX6_keep cX6_keep 2 none ∈ sgT := List.mem_filter.mpr ⟨List.mem_append_right _ (List.mem_of_getElem? (i := 511) (by decide +kernel)), by decide +kernel⟩
theorem ml_L_88 : Cond.methodLink RL 88 yX6_against ∈ sgT := List.mem_filter.mpr ⟨List.mem_append_right _ (List.mem_of_getElem? (i := 512) (by decide +kernel)), by decide +kernel⟩
theorem im_X6_against : Cond.instanceMethod yX6_against ∈ sgT := List.mem_filter.mpr ⟨List.mem_append_right _ (List.mem_of_getElem? (i := 513) (by decide +kernel)), by decide +kernel⟩
theorem se_X6_against : Cond.selects RX6 yX6_against yX6_against ∈ sgT := List.mem_filter.mpr ⟨List.mem_append_right _ (List.mem_of_getElem? (i := 514) (by decide +kernel)), by decide +kernel⟩
theorem mcX6_against : Cond.code yX6_against cX6_against 2 (some .int) ∈ sgT := List.mem_filter.mpr ⟨List.mem_append_right _ (List.mem_of_getElem? (i := 515) (by decide +kernel)), by decide +kernel⟩
theorem ml_X6_109 : Cond.methodLink RX6 109 yX6_multiply ∈ sgT := List.mem_filter.mpr ⟨List.mem_append_right _ (List.mem_of_getElem? (i := 516) (by decide +kernel)), by decide +kernel⟩
theorem im_X6_multiply : Cond.instanceMethod yX6_multiply ∈ sgT := List.mem_filter.mpr ⟨List.mem_append_right _ (List.mem_of_getElem? (i := 518) (by decide +kernel)), by decide +kernel⟩
theorem mcX6_multiply : Cond.code yX6_multiply cX6_multiply 10 none ∈ sgT := List.mem_filter.mpr ⟨List.mem_append_right _ (List.mem_of_getElem? (i := 519) (by decide +kernel)), by decide +kernel⟩
theorem hinX0 : ∀ w ∈ u_ws RX0 TX0 2, w ∈ sgT := by decide +kernel
theorem hinX1 : ∀ w ∈ u_ws RX1 TX1 4, w ∈ sgT := by decide +kernel
theorem hinX2 : ∀ w ∈ u_ws RX2 TX2 1, w ∈ sgT := by decide +kernel
theorem hinX3 : ∀ w ∈ u_ws RX3 TX3 2, w ∈ sgT := by decide +kernel
theorem hinX4 : ∀ w ∈ u_ws RX4 TX4 3, w ∈ sgT := by decide +kernel
theorem hinX5 : ∀ w ∈ u_ws RX5 TX5 8, w ∈ sgT := by decide +kernel
theorem hinX6 : ∀ w ∈ u_ws RX6 TX6 12, w ∈ sgT := by decide +kernel
