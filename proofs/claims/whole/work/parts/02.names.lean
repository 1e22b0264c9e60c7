/-! ===== BEGIN printed: names, fields, word lists, decode rows ===== -/
def RX0 : String := "SweepEqual$Design"
def TX0 : u_T := fun k => match k with
  | 0 => ("SweepEqual$Design", "outputs", "[I", true)
  | 1 => ("SweepEqual$Design", "nexts", "[I", true)
  | 2 => ("SweepEqual$Design", "shown", "[I", true)
  | 3 => ("SweepEqual$Design", "outputCount", "I", false)
  | 4 => ("SweepEqual$Design", "shownCount", "I", false)
  | 5 => ("SweepEqual$Design", "starts", "I", false)
  | _ => ("SweepEqual$Design", "states", "I", false)
def tyX0 : Nat → FieldType := fun k => match k with
  | 0 => .array .int
  | 1 => .array .int
  | 2 => .array .int
  | 3 => .int
  | 4 => .int
  | 5 => .int
  | _ => .int
abbrev wsX00 : List Cond := u_ws RX0 TX0 7
theorem nmX0 : ∀ a, a < 7 → ∀ b, b < 7 → a ≠ b → (TX0 a).2.1 ≠ (TX0 b).2.1 := by decide +kernel
theorem tyX0_ok : ∀ k, k < 7 → parseFieldDescriptor (TX0 k).2.2.1 = some (tyX0 k) := by decide +kernel
abbrev cX0_init : ByteArray := prog_2_method_1_code
def yX0_init : MethodName := ⟨RX0, "<init>", "()V"⟩
abbrev cX0_forget : ByteArray := prog_2_method_2_code
def yX0_forget : MethodName := ⟨RX0, "forget", "()V"⟩
abbrev cX0_addLatch : ByteArray := prog_2_method_3_code
def yX0_addLatch : MethodName := ⟨RX0, "addLatch", "(III)V"⟩
abbrev cX0_addOutput : ByteArray := prog_2_method_4_code
def yX0_addOutput : MethodName := ⟨RX0, "addOutput", "(I)I"⟩
abbrev cX0_backToStarts : ByteArray := prog_2_method_5_code
def yX0_backToStarts : MethodName := ⟨RX0, "backToStarts", "()V"⟩
abbrev cX0_runStep : ByteArray := prog_2_method_6_code
def yX0_runStep : MethodName := ⟨RX0, "runStep", "(LSweepEqual$Nodes;II)V"⟩
def RX1 : String := "SweepEqual$Nodes"
def TX1 : u_T := fun k => match k with
  | 0 => ("SweepEqual$Nodes", "count", "I", false)
  | 1 => ("SweepEqual$Nodes", "owners", "[I", true)
  | 2 => ("SweepEqual$Nodes", "firsts", "[I", true)
  | _ => ("SweepEqual$Nodes", "rows", "[J", false)
def tyX1 : Nat → FieldType := fun k => match k with
  | 0 => .int
  | 1 => .array .int
  | 2 => .array .int
  | _ => .array .long
abbrev wsX10 : List Cond := u_ws RX1 TX1 4
theorem nmX1 : ∀ a, a < 4 → ∀ b, b < 4 → a ≠ b → (TX1 a).2.1 ≠ (TX1 b).2.1 := by decide +kernel
theorem tyX1_ok : ∀ k, k < 4 → parseFieldDescriptor (TX1 k).2.2.1 = some (tyX1 k) := by decide +kernel
abbrev cX1_init : ByteArray := prog_3_method_1_code
def yX1_init : MethodName := ⟨RX1, "<init>", "()V"⟩
abbrev cX1_forget : ByteArray := prog_3_method_2_code
def yX1_forget : MethodName := ⟨RX1, "forget", "()V"⟩
abbrev cX1_addVariable : ByteArray := prog_3_method_3_code
def yX1_addVariable : MethodName := ⟨RX1, "addVariable", "(I)I"⟩
abbrev cX1_addAnd : ByteArray := prog_3_method_4_code
def yX1_addAnd : MethodName := ⟨RX1, "addAnd", "(III)I"⟩
abbrev cX1_isOfOtherSide : ByteArray := prog_3_method_5_code
def yX1_isOfOtherSide : MethodName := ⟨RX1, "isOfOtherSide", "(II)Z"⟩
abbrev cX1_firstOf : ByteArray := prog_3_method_6_code
def yX1_firstOf : MethodName := ⟨RX1, "firstOf", "(I)I"⟩
abbrev cX1_areSame : ByteArray := prog_3_method_7_code
def yX1_areSame : MethodName := ⟨RX1, "areSame", "(II)Z"⟩
abbrev cX1_countClasses : ByteArray := prog_3_method_8_code
def yX1_countClasses : MethodName := ⟨RX1, "countClasses", "()I"⟩
abbrev cX1_countMerged : ByteArray := prog_3_method_9_code
def yX1_countMerged : MethodName := ⟨RX1, "countMerged", "(I)I"⟩
abbrev cX1_countAnds : ByteArray := prog_3_method_10_code
def yX1_countAnds : MethodName := ⟨RX1, "countAnds", "(I)I"⟩
abbrev cX1_countOnes : ByteArray := prog_3_method_11_code
def yX1_countOnes : MethodName := ⟨RX1, "countOnes", "(I)I"⟩
abbrev cX1_valueIn : ByteArray := prog_3_method_12_code
def yX1_valueIn : MethodName := ⟨RX1, "valueIn", "(II)I"⟩
abbrev cX1_supportOf : ByteArray := prog_3_method_13_code
def yX1_supportOf : MethodName := ⟨RX1, "supportOf", "(I)I"⟩
abbrev cX1_leastDifference : ByteArray := prog_3_method_14_code
def yX1_leastDifference : MethodName := ⟨RX1, "leastDifference", "(II)I"⟩
abbrev cX1_growRows : ByteArray := prog_3_method_15_code
def yX1_growRows : MethodName := ⟨RX1, "growRows", "()V"⟩
abbrev cX1_settle : ByteArray := prog_3_method_16_code
def yX1_settle : MethodName := ⟨RX1, "settle", "(I)I"⟩
abbrev cX1_findFirst : ByteArray := prog_3_method_17_code
def yX1_findFirst : MethodName := ⟨RX1, "findFirst", "(I)I"⟩
abbrev cX1_isLeast : ByteArray := prog_3_method_18_code
def yX1_isLeast : MethodName := ⟨RX1, "isLeast", "(I)Z"⟩
abbrev cX1_hangsOn : ByteArray := prog_3_method_19_code
def yX1_hangsOn : MethodName := ⟨RX1, "hangsOn", "(II)Z"⟩
abbrev cX1_wordHangsOn : ByteArray := prog_3_method_20_code
def yX1_wordHangsOn : MethodName := ⟨RX1, "wordHangsOn", "(III)Z"⟩
abbrev cX1_wordOf : ByteArray := prog_3_method_21_code
def yX1_wordOf : MethodName := ⟨RX1, "wordOf", "(II)J"⟩
abbrev cX1_variableWord : ByteArray := prog_3_method_22_code
def yX1_variableWord : MethodName := ⟨RX1, "variableWord", "(II)J"⟩
def RX2 : String := "SweepEqual"
def TX2 : u_T := fun k => match k with
  | 0 => ("SweepEqual", "nodes", "LSweepEqual$Nodes;", true)
  | 1 => ("SweepEqual", "designA", "LSweepEqual$Design;", true)
  | 2 => ("SweepEqual", "designB", "LSweepEqual$Design;", true)
  | 3 => ("SweepEqual", "inputCount", "I", false)
  | 4 => ("SweepEqual", "latchCount", "I", false)
  | 5 => ("SweepEqual", "steps", "I", false)
  | _ => ("SweepEqual", "apartStep", "I", false)
def tyX2 : Nat → FieldType := fun k => match k with
  | 0 => .object "SweepEqual$Nodes"
  | 1 => .object "SweepEqual$Design"
  | 2 => .object "SweepEqual$Design"
  | 3 => .int
  | 4 => .int
  | 5 => .int
  | _ => .int
abbrev wsX20 : List Cond := u_ws RX2 TX2 7
theorem nmX2 : ∀ a, a < 7 → ∀ b, b < 7 → a ≠ b → (TX2 a).2.1 ≠ (TX2 b).2.1 := by decide +kernel
theorem tyX2_ok : ∀ k, k < 7 → parseFieldDescriptor (TX2 k).2.2.1 = some (tyX2 k) := by decide +kernel
abbrev cX2_init : ByteArray := prog_1_method_1_code
def yX2_init : MethodName := ⟨RX2, "<init>", "()V"⟩
abbrev cX2_input : ByteArray := prog_1_method_2_code
def yX2_input : MethodName := ⟨RX2, "input", "()I"⟩
abbrev cX2_latch : ByteArray := prog_1_method_3_code
def yX2_latch : MethodName := ⟨RX2, "latch", "(II)I"⟩
abbrev cX2_and : ByteArray := prog_1_method_4_code
def yX2_and : MethodName := ⟨RX2, "and", "(III)I"⟩
abbrev cX2_output : ByteArray := prog_1_method_5_code
def yX2_output : MethodName := ⟨RX2, "output", "(II)I"⟩
abbrev cX2_next : ByteArray := prog_1_method_6_code
def yX2_next : MethodName := ⟨RX2, "next", "(III)I"⟩
abbrev cX2_same : ByteArray := prog_1_method_7_code
def yX2_same : MethodName := ⟨RX2, "same", "(II)Z"⟩
abbrev cX2_first : ByteArray := prog_1_method_8_code
def yX2_first : MethodName := ⟨RX2, "first", "(I)I"⟩
abbrev cX2_classes : ByteArray := prog_1_method_9_code
def yX2_classes : MethodName := ⟨RX2, "classes", "()I"⟩
abbrev cX2_merged : ByteArray := prog_1_method_10_code
def yX2_merged : MethodName := ⟨RX2, "merged", "(I)I"⟩
abbrev cX2_hangs : ByteArray := prog_1_method_11_code
def yX2_hangs : MethodName := ⟨RX2, "hangs", "(I)I"⟩
abbrev cX2_ones : ByteArray := prog_1_method_12_code
def yX2_ones : MethodName := ⟨RX2, "ones", "(I)I"⟩
abbrev cX2_value : ByteArray := prog_1_method_13_code
def yX2_value : MethodName := ⟨RX2, "value", "(II)I"⟩
abbrev cX2_differs : ByteArray := prog_1_method_14_code
def yX2_differs : MethodName := ⟨RX2, "differs", "(I)I"⟩
abbrev cX2_witness : ByteArray := prog_1_method_15_code
def yX2_witness : MethodName := ⟨RX2, "witness", "(I)I"⟩
abbrev cX2_reset : ByteArray := prog_1_method_16_code
def yX2_reset : MethodName := ⟨RX2, "reset", "()V"⟩
abbrev cX2_step : ByteArray := prog_1_method_17_code
def yX2_step : MethodName := ⟨RX2, "step", "(I)I"⟩
abbrev cX2_out : ByteArray := prog_1_method_18_code
def yX2_out : MethodName := ⟨RX2, "out", "(II)I"⟩
abbrev cX2_state : ByteArray := prog_1_method_19_code
def yX2_state : MethodName := ⟨RX2, "state", "(II)I"⟩
abbrev cX2_apart : ByteArray := prog_1_method_20_code
def yX2_apart : MethodName := ⟨RX2, "apart", "()I"⟩
abbrev cX2_count : ByteArray := prog_1_method_21_code
def yX2_count : MethodName := ⟨RX2, "count", "(I)I"⟩
abbrev cX2_clear : ByteArray := prog_1_method_22_code
def yX2_clear : MethodName := ⟨RX2, "clear", "()V"⟩
abbrev cX2_needSide : ByteArray := prog_1_method_23_code
def yX2_needSide : MethodName := ⟨RX2, "needSide", "(I)V"⟩
abbrev cX2_needLiteral : ByteArray := prog_1_method_24_code
def yX2_needLiteral : MethodName := ⟨RX2, "needLiteral", "(I)V"⟩
abbrev cX2_needLatch : ByteArray := prog_1_method_25_code
def yX2_needLatch : MethodName := ⟨RX2, "needLatch", "(I)V"⟩
abbrev cX2_needStart : ByteArray := prog_1_method_26_code
def yX2_needStart : MethodName := ⟨RX2, "needStart", "(I)V"⟩
abbrev cX2_needRoomForNode : ByteArray := prog_1_method_27_code
def yX2_needRoomForNode : MethodName := ⟨RX2, "needRoomForNode", "()V"⟩
abbrev cX2_needOwn : ByteArray := prog_1_method_28_code
def yX2_needOwn : MethodName := ⟨RX2, "needOwn", "(II)V"⟩
abbrev cX2_designOf : ByteArray := prog_1_method_29_code
def yX2_designOf : MethodName := ⟨RX2, "designOf", "(I)LSweepEqual$Design;"⟩
abbrev cX2_backToStarts : ByteArray := prog_1_method_30_code
def yX2_backToStarts : MethodName := ⟨RX2, "backToStarts", "()V"⟩
abbrev cX2_sharedOutputs : ByteArray := prog_1_method_31_code
def yX2_sharedOutputs : MethodName := ⟨RX2, "sharedOutputs", "()I"⟩
abbrev cX2_countDifferent : ByteArray := prog_1_method_32_code
def yX2_countDifferent : MethodName := ⟨RX2, "countDifferent", "([I[II)I"⟩
abbrev cX2_placeOfDifferent : ByteArray := prog_1_method_33_code
def yX2_placeOfDifferent : MethodName := ⟨RX2, "placeOfDifferent", "([I[III)I"⟩
abbrev cX2_differentStartOrSize : ByteArray := prog_1_method_34_code
def yX2_differentStartOrSize : MethodName := ⟨RX2, "differentStartOrSize", "(I)I"⟩
abbrev cX2_showApart : ByteArray := prog_1_method_35_code
def yX2_showApart : MethodName := ⟨RX2, "showApart", "()Z"⟩
def RX3 : String := "SweepEqualModel"
def TX3 : u_T := fun k => match k with
  | 0 => ("SweepEqualModel", "thrown", "I", false)
  | 1 => ("SweepEqualModel", "nodes", "I", false)
  | 2 => ("SweepEqualModel", "sides", "[I", true)
  | 3 => ("SweepEqualModel", "tables", "[J", true)
  | 4 => ("SweepEqualModel", "inputs", "I", false)
  | 5 => ("SweepEqualModel", "latches", "I", false)
  | 6 => ("SweepEqualModel", "latchNodes", "[I", true)
  | 7 => ("SweepEqualModel", "starts", "[I", true)
  | 8 => ("SweepEqualModel", "nexts", "[I", true)
  | 9 => ("SweepEqualModel", "states", "[I", true)
  | 10 => ("SweepEqualModel", "outputCounts", "[I", true)
  | 11 => ("SweepEqualModel", "outputs", "[I", true)
  | 12 => ("SweepEqualModel", "told", "[I", true)
  | 13 => ("SweepEqualModel", "toldCounts", "[I", true)
  | 14 => ("SweepEqualModel", "steps", "I", false)
  | _ => ("SweepEqualModel", "firstApart", "I", false)
def tyX3 : Nat → FieldType := fun k => match k with
  | 0 => .int
  | 1 => .int
  | 2 => .array .int
  | 3 => .array .long
  | 4 => .int
  | 5 => .int
  | 6 => .array .int
  | 7 => .array .int
  | 8 => .array .int
  | 9 => .array .int
  | 10 => .array .int
  | 11 => .array .int
  | 12 => .array .int
  | 13 => .array .int
  | 14 => .int
  | _ => .int
abbrev wsX30 : List Cond := u_ws RX3 TX3 16
theorem nmX3 : ∀ a, a < 16 → ∀ b, b < 16 → a ≠ b → (TX3 a).2.1 ≠ (TX3 b).2.1 := by decide +kernel
theorem tyX3_ok : ∀ k, k < 16 → parseFieldDescriptor (TX3 k).2.2.1 = some (tyX3 k) := by decide +kernel
abbrev cX3_init : ByteArray := prog_5_method_1_code
def yX3_init : MethodName := ⟨RX3, "<init>", "()V"⟩
abbrev cX3_thrown : ByteArray := prog_5_method_2_code
def yX3_thrown : MethodName := ⟨RX3, "thrown", "()I"⟩
abbrev cX3_isIn : ByteArray := prog_5_method_3_code
def yX3_isIn : MethodName := ⟨RX3, "isIn", "(II)Z"⟩
abbrev cX3_isLiteral : ByteArray := prog_5_method_4_code
def yX3_isLiteral : MethodName := ⟨RX3, "isLiteral", "(I)Z"⟩
abbrev cX3_isSide : ByteArray := prog_5_method_5_code
def yX3_isSide : MethodName := ⟨RX3, "isSide", "(I)Z"⟩
abbrev cX3_present : ByteArray := prog_5_method_6_code
def yX3_present : MethodName := ⟨RX3, "present", "()I"⟩
abbrev cX3_bit : ByteArray := prog_5_method_7_code
def yX3_bit : MethodName := ⟨RX3, "bit", "(II)I"⟩
abbrev cX3_variable : ByteArray := prog_5_method_8_code
def yX3_variable : MethodName := ⟨RX3, "variable", "(I)I"⟩
abbrev cX3_input : ByteArray := prog_5_method_9_code
def yX3_input : MethodName := ⟨RX3, "input", "()I"⟩
abbrev cX3_latch : ByteArray := prog_5_method_10_code
def yX3_latch : MethodName := ⟨RX3, "latch", "(II)I"⟩
abbrev cX3_isOther : ByteArray := prog_5_method_11_code
def yX3_isOther : MethodName := ⟨RX3, "isOther", "(II)Z"⟩
abbrev cX3_and : ByteArray := prog_5_method_12_code
def yX3_and : MethodName := ⟨RX3, "and", "(III)I"⟩
abbrev cX3_output : ByteArray := prog_5_method_13_code
def yX3_output : MethodName := ⟨RX3, "output", "(II)I"⟩
abbrev cX3_next : ByteArray := prog_5_method_14_code
def yX3_next : MethodName := ⟨RX3, "next", "(III)I"⟩
abbrev cX3_areSame : ByteArray := prog_5_method_15_code
def yX3_areSame : MethodName := ⟨RX3, "areSame", "(II)Z"⟩
abbrev cX3_same : ByteArray := prog_5_method_16_code
def yX3_same : MethodName := ⟨RX3, "same", "(II)Z"⟩
abbrev cX3_firstOf : ByteArray := prog_5_method_17_code
def yX3_firstOf : MethodName := ⟨RX3, "firstOf", "(I)I"⟩
abbrev cX3_first : ByteArray := prog_5_method_18_code
def yX3_first : MethodName := ⟨RX3, "first", "(I)I"⟩
abbrev cX3_isLeast : ByteArray := prog_5_method_19_code
def yX3_isLeast : MethodName := ⟨RX3, "isLeast", "(I)Z"⟩
abbrev cX3_classes : ByteArray := prog_5_method_20_code
def yX3_classes : MethodName := ⟨RX3, "classes", "()I"⟩
abbrev cX3_merged : ByteArray := prog_5_method_21_code
def yX3_merged : MethodName := ⟨RX3, "merged", "(I)I"⟩
abbrev cX3_hangs : ByteArray := prog_5_method_22_code
def yX3_hangs : MethodName := ⟨RX3, "hangs", "(I)I"⟩
abbrev cX3_ones : ByteArray := prog_5_method_23_code
def yX3_ones : MethodName := ⟨RX3, "ones", "(I)I"⟩
abbrev cX3_value : ByteArray := prog_5_method_24_code
def yX3_value : MethodName := ⟨RX3, "value", "(II)I"⟩
abbrev cX3_both : ByteArray := prog_5_method_25_code
def yX3_both : MethodName := ⟨RX3, "both", "()I"⟩
abbrev cX3_isApart : ByteArray := prog_5_method_26_code
def yX3_isApart : MethodName := ⟨RX3, "isApart", "(I)Z"⟩
abbrev cX3_differs : ByteArray := prog_5_method_27_code
def yX3_differs : MethodName := ⟨RX3, "differs", "(I)I"⟩
abbrev cX3_witness : ByteArray := prog_5_method_28_code
def yX3_witness : MethodName := ⟨RX3, "witness", "(I)I"⟩
abbrev cX3_start : ByteArray := prog_5_method_29_code
def yX3_start : MethodName := ⟨RX3, "start", "()V"⟩
abbrev cX3_reset : ByteArray := prog_5_method_30_code
def yX3_reset : MethodName := ⟨RX3, "reset", "()V"⟩
abbrev cX3_assignment : ByteArray := prog_5_method_31_code
def yX3_assignment : MethodName := ⟨RX3, "assignment", "(II)I"⟩
abbrev cX3_step : ByteArray := prog_5_method_32_code
def yX3_step : MethodName := ⟨RX3, "step", "(I)I"⟩
abbrev cX3_out : ByteArray := prog_5_method_33_code
def yX3_out : MethodName := ⟨RX3, "out", "(II)I"⟩
abbrev cX3_state : ByteArray := prog_5_method_34_code
def yX3_state : MethodName := ⟨RX3, "state", "(II)I"⟩
abbrev cX3_apart : ByteArray := prog_5_method_35_code
def yX3_apart : MethodName := ⟨RX3, "apart", "()I"⟩
abbrev cX3_ands : ByteArray := prog_5_method_36_code
def yX3_ands : MethodName := ⟨RX3, "ands", "(I)I"⟩
abbrev cX3_count : ByteArray := prog_5_method_37_code
def yX3_count : MethodName := ⟨RX3, "count", "(I)I"⟩
abbrev cX3_clear : ByteArray := prog_5_method_38_code
def yX3_clear : MethodName := ⟨RX3, "clear", "()V"⟩
def RJx8e188 : String := "java/lang/Cloneable"
def TJx8e188 : u_T := fun k => match k with
  | _ => ("", "", "", false)
def tyJx8e188 : Nat → FieldType := fun k => match k with
  | _ => .int
abbrev wsJx8e1880 : List Cond := u_ws RJx8e188 TJx8e188 0
theorem nmJx8e188 : ∀ a, a < 0 → ∀ b, b < 0 → a ≠ b → (TJx8e188 a).2.1 ≠ (TJx8e188 b).2.1 := by decide +kernel
theorem tyJx8e188_ok : ∀ k, k < 0 → parseFieldDescriptor (TJx8e188 k).2.2.1 = some (tyJx8e188 k) := by decide +kernel
def RJ6 : String := "java/lang/Integer"
def TJ6 : u_T := fun k => match k with
  | _ => ("", "", "", false)
def tyJ6 : Nat → FieldType := fun k => match k with
  | _ => .int
abbrev wsJ60 : List Cond := u_ws RJ6 TJ6 0
theorem nmJ6 : ∀ a, a < 0 → ∀ b, b < 0 → a ≠ b → (TJ6 a).2.1 ≠ (TJ6 b).2.1 := by decide +kernel
theorem tyJ6_ok : ∀ k, k < 0 → parseFieldDescriptor (TJ6 k).2.2.1 = some (tyJ6 k) := by decide +kernel
abbrev cJ6_numberOfTrailingZeros_0f7a4 : ByteArray := prog_11_method_48_code
def yJ6_numberOfTrailingZeros_0f7a4 : MethodName := ⟨RJ6, "numberOfTrailingZeros", "(I)I"⟩
def RJ13 : String := "java/lang/Long"
def TJ13 : u_T := fun k => match k with
  | _ => ("", "", "", false)
def tyJ13 : Nat → FieldType := fun k => match k with
  | _ => .int
abbrev wsJ130 : List Cond := u_ws RJ13 TJ13 0
theorem nmJ13 : ∀ a, a < 0 → ∀ b, b < 0 → a ≠ b → (TJ13 a).2.1 ≠ (TJ13 b).2.1 := by decide +kernel
theorem tyJ13_ok : ∀ k, k < 0 → parseFieldDescriptor (TJ13 k).2.2.1 = some (tyJ13 k) := by decide +kernel
abbrev cJ13_numberOfTrailingZeros_95d88 : ByteArray := prog_12_method_49_code
def yJ13_numberOfTrailingZeros_95d88 : MethodName := ⟨RJ13, "numberOfTrailingZeros", "(J)I"⟩
abbrev cJ13_bitCount_95d88 : ByteArray := prog_12_method_50_code
def yJ13_bitCount_95d88 : MethodName := ⟨RJ13, "bitCount", "(J)I"⟩
def RJ9 : String := "java/lang/Math"
def TJ9 : u_T := fun k => match k with
  | _ => ("", "", "", false)
def tyJ9 : Nat → FieldType := fun k => match k with
  | _ => .int
abbrev wsJ90 : List Cond := u_ws RJ9 TJ9 0
theorem nmJ9 : ∀ a, a < 0 → ∀ b, b < 0 → a ≠ b → (TJ9 a).2.1 ≠ (TJ9 b).2.1 := by decide +kernel
theorem tyJ9_ok : ∀ k, k < 0 → parseFieldDescriptor (TJ9 k).2.2.1 = some (tyJ9 k) := by decide +kernel
abbrev cJ9_min_7cf53 : ByteArray := prog_13_method_69_code
def yJ9_min_7cf53 : MethodName := ⟨RJ9, "min", "(II)I"⟩
def RJ0 : String := "java/lang/String"
def TJ0 : u_T := fun k => match k with
  | _ => ("", "", "", false)
def tyJ0 : Nat → FieldType := fun k => match k with
  | _ => .int
abbrev wsJ00 : List Cond := u_ws RJ0 TJ0 0
theorem nmJ0 : ∀ a, a < 0 → ∀ b, b < 0 → a ≠ b → (TJ0 a).2.1 ≠ (TJ0 b).2.1 := by decide +kernel
theorem tyJ0_ok : ∀ k, k < 0 → parseFieldDescriptor (TJ0 k).2.2.1 = some (tyJ0 k) := by decide +kernel
def RJ10 : String := "java/lang/System"
def TJ10 : u_T := fun k => match k with
  | _ => ("", "", "", false)
def tyJ10 : Nat → FieldType := fun k => match k with
  | _ => .int
abbrev wsJ100 : List Cond := u_ws RJ10 TJ10 0
theorem nmJ10 : ∀ a, a < 0 → ∀ b, b < 0 → a ≠ b → (TJ10 a).2.1 ≠ (TJ10 b).2.1 := by decide +kernel
theorem tyJ10_ok : ∀ k, k < 0 → parseFieldDescriptor (TJ10 k).2.2.1 = some (tyJ10 k) := by decide +kernel
def RJ7 : String := "java/util/Arrays"
def TJ7 : u_T := fun k => match k with
  | _ => ("", "", "", false)
def tyJ7 : Nat → FieldType := fun k => match k with
  | _ => .int
abbrev wsJ70 : List Cond := u_ws RJ7 TJ7 0
theorem nmJ7 : ∀ a, a < 0 → ∀ b, b < 0 → a ≠ b → (TJ7 a).2.1 ≠ (TJ7 b).2.1 := by decide +kernel
theorem tyJ7_ok : ∀ k, k < 0 → parseFieldDescriptor (TJ7 k).2.2.1 = some (tyJ7 k) := by decide +kernel
abbrev cJ7_copyOf_c38d5 : ByteArray := prog_18_method_124_code
def yJ7_copyOf_c38d5 : MethodName := ⟨RJ7, "copyOf", "([JI)[J"⟩
def RL : String := "SweepEqualLaw"
abbrev cL_input : ByteArray := method_3_code
def yL_input : MethodName := ⟨RL, "input", "(LSweepEqual;[J)I"⟩
abbrev cL_latch : ByteArray := method_4_code
def yL_latch : MethodName := ⟨RL, "latch", "(LSweepEqual;II[J)I"⟩
abbrev cL_and : ByteArray := method_5_code
def yL_and : MethodName := ⟨RL, "and", "(LSweepEqual;III[J)I"⟩
abbrev cL_output : ByteArray := method_6_code
def yL_output : MethodName := ⟨RL, "output", "(LSweepEqual;II[J)I"⟩
abbrev cL_next : ByteArray := method_7_code
def yL_next : MethodName := ⟨RL, "next", "(LSweepEqual;III[J)I"⟩
abbrev cL_same : ByteArray := method_8_code
def yL_same : MethodName := ⟨RL, "same", "(LSweepEqual;II[J)I"⟩
abbrev cL_first : ByteArray := method_9_code
def yL_first : MethodName := ⟨RL, "first", "(LSweepEqual;I[J)I"⟩
abbrev cL_merged : ByteArray := method_10_code
def yL_merged : MethodName := ⟨RL, "merged", "(LSweepEqual;I[J)I"⟩
abbrev cL_hangs : ByteArray := method_11_code
def yL_hangs : MethodName := ⟨RL, "hangs", "(LSweepEqual;I[J)I"⟩
abbrev cL_ones : ByteArray := method_12_code
def yL_ones : MethodName := ⟨RL, "ones", "(LSweepEqual;I[J)I"⟩
abbrev cL_value : ByteArray := method_13_code
def yL_value : MethodName := ⟨RL, "value", "(LSweepEqual;II[J)I"⟩
abbrev cL_differs : ByteArray := method_14_code
def yL_differs : MethodName := ⟨RL, "differs", "(LSweepEqual;I[J)I"⟩
abbrev cL_witness : ByteArray := method_15_code
def yL_witness : MethodName := ⟨RL, "witness", "(LSweepEqual;I[J)I"⟩
abbrev cL_out : ByteArray := method_16_code
def yL_out : MethodName := ⟨RL, "out", "(LSweepEqual;II[J)I"⟩
abbrev cL_state : ByteArray := method_17_code
def yL_state : MethodName := ⟨RL, "state", "(LSweepEqual;II[J)I"⟩
abbrev cL_count : ByteArray := method_18_code
def yL_count : MethodName := ⟨RL, "count", "(LSweepEqual;I[J)I"⟩
abbrev cL_law : ByteArray := code
def yL_law : MethodName := ⟨RL, "law", "([I)Z"⟩
def wsX0_init : List Cond := .code yX0_init cX0_init 1 none :: ([.methodLink RX0 3 objectInit, .instanceMethod objectInit, .code objectInit ⟨#[0xb1]⟩ 1 none, .arrayClass .int, .fieldLink RX0 9 "SweepEqual$Design" "outputs" "[I", .fieldLink RX0 15 "SweepEqual$Design" "nexts" "[I", .fieldLink RX0 18 "SweepEqual$Design" "shown" "[I"] ++ wsX00)
def wsX0_forget : List Cond := .code yX0_forget cX0_forget 1 none :: ([.fieldLink RX0 21 "SweepEqual$Design" "outputCount" "I", .fieldLink RX0 25 "SweepEqual$Design" "starts" "I"] ++ wsX00)
def wsX0_addLatch : List Cond := .code yX0_addLatch cX0_addLatch 4 none :: ([.fieldLink RX0 25 "SweepEqual$Design" "starts" "I", .fieldLink RX0 15 "SweepEqual$Design" "nexts" "[I"] ++ wsX00)
def wsX0_addOutput : List Cond := .code yX0_addOutput cX0_addOutput 2 (some .int) :: ([.fieldLink RX0 9 "SweepEqual$Design" "outputs" "[I", .fieldLink RX0 21 "SweepEqual$Design" "outputCount" "I"] ++ wsX00)
def wsX0_backToStarts : List Cond := .code yX0_backToStarts cX0_backToStarts 1 none :: ([.fieldLink RX0 25 "SweepEqual$Design" "starts" "I", .fieldLink RX0 28 "SweepEqual$Design" "states" "I", .fieldLink RX0 31 "SweepEqual$Design" "shownCount" "I"] ++ wsX00)
def wsX1_wordOf : List Cond := .code yX1_wordOf cX1_wordOf 5 (some .long) :: ([.fieldLink RX1 22 "SweepEqual$Nodes" "rows" "[J", .constantLong RX1 88 (-1)] ++ wsX10)
def wsX1_valueIn : List Cond := .code yX1_valueIn cX1_valueIn 4 (some .int) :: ([.methodLink RX1 37 yX1_wordOf, .instanceMethod yX1_wordOf, .selects RX1 yX1_wordOf yX1_wordOf, .initialized RX1, .code yX1_wordOf cX1_wordOf 5 (some .long), .fieldLink RX1 22 "SweepEqual$Nodes" "rows" "[J", .constantLong RX1 88 (-1)] ++ wsX10)
def wsX0_runStep : List Cond := .code yX0_runStep cX0_runStep 7 none :: ([.fieldLink RX0 28 "SweepEqual$Design" "states" "I", .fieldLink RX0 21 "SweepEqual$Design" "outputCount" "I", .fieldLink RX0 18 "SweepEqual$Design" "shown" "[I", .fieldLink RX0 9 "SweepEqual$Design" "outputs" "[I", .fieldLink RX0 31 "SweepEqual$Design" "shownCount" "I", .fieldLink RX0 15 "SweepEqual$Design" "nexts" "[I", .methodLink RX0 34 yX1_valueIn, .instanceMethod yX1_valueIn, .selects RX1 yX1_valueIn yX1_valueIn, .initialized RX1, .code yX1_valueIn cX1_valueIn 4 (some .int), .methodLink RX1 37 yX1_wordOf, .instanceMethod yX1_wordOf, .selects RX1 yX1_wordOf yX1_wordOf, .code yX1_wordOf cX1_wordOf 5 (some .long), .fieldLink RX1 22 "SweepEqual$Nodes" "rows" "[J", .constantLong RX1 88 (-1)] ++ wsX00 ++ wsX10)
def wsX1_init : List Cond := .code yX1_init cX1_init 1 none :: ([.methodLink RX1 5 objectInit, .instanceMethod objectInit, .code objectInit ⟨#[0xb1]⟩ 1 none, .fieldLink RX1 11 "SweepEqual$Nodes" "count" "I", .arrayClass .int, .fieldLink RX1 15 "SweepEqual$Nodes" "owners" "[I", .fieldLink RX1 19 "SweepEqual$Nodes" "firsts" "[I", .arrayClass .long, .fieldLink RX1 22 "SweepEqual$Nodes" "rows" "[J"] ++ wsX10)
def wsX1_forget : List Cond := .code yX1_forget cX1_forget 1 none :: ([.fieldLink RX1 11 "SweepEqual$Nodes" "count" "I"] ++ wsX10)
def wsJ7_copyOf_c38d5 : List Cond := .code yJ7_copyOf_c38d5 cJ7_copyOf_c38d5 3 (some (.array .long)) :: ([.methodLink RJ7 319 ⟨"[J", "clone", "()Ljava/lang/Object;"⟩, .sameMethod "[J" "java/lang/Object" "clone" "()Ljava/lang/Object;", .native ⟨"java/lang/Object", "clone", "()Ljava/lang/Object;"⟩, .instanceMethod ⟨"java/lang/Object", "clone", "()Ljava/lang/Object;"⟩, .selects "[J" ⟨"[J", "clone", "()Ljava/lang/Object;"⟩ ⟨"java/lang/Object", "clone", "()Ljava/lang/Object;"⟩, .classLink RJ7 320 "[J", .arrayClass .long, .methodLink RJ7 304 Lib.Math.min.name, .static Lib.Math.min.name, .initialized "java/lang/Math", .code Lib.Math.min.name Lib.Math.min.code 2 (some .int), .methodLink RJ7 150 arraycopyName, .native arraycopyName, .static arraycopyName, .initialized "java/lang/System"])
def wsX1_growRows : List Cond := .code yX1_growRows cX1_growRows 1 none :: ([.fieldLink RX1 11 "SweepEqual$Nodes" "count" "I", .fieldLink RX1 22 "SweepEqual$Nodes" "rows" "[J", .methodLink RX1 60 Lib.Math.min.name, .static Lib.Math.min.name, .initialized "java/lang/Math", .code Lib.Math.min.name Lib.Math.min.code 2 (some .int), .methodLink RX1 66 yJ7_copyOf_c38d5, .static yJ7_copyOf_c38d5, .initialized RJ7, .code yJ7_copyOf_c38d5 cJ7_copyOf_c38d5 3 (some (.array .long)), .methodLink RJ7 319 ⟨"[J", "clone", "()Ljava/lang/Object;"⟩, .sameMethod "[J" "java/lang/Object" "clone" "()Ljava/lang/Object;", .native ⟨"java/lang/Object", "clone", "()Ljava/lang/Object;"⟩, .instanceMethod ⟨"java/lang/Object", "clone", "()Ljava/lang/Object;"⟩, .selects "[J" ⟨"[J", "clone", "()Ljava/lang/Object;"⟩ ⟨"java/lang/Object", "clone", "()Ljava/lang/Object;"⟩, .classLink RJ7 320 "[J", .arrayClass .long, .methodLink RJ7 304 Lib.Math.min.name, .methodLink RJ7 150 arraycopyName, .native arraycopyName, .static arraycopyName, .initialized "java/lang/System"] ++ wsX10)
def wsX1_variableWord : List Cond := .code yX1_variableWord cX1_variableWord 2 (some .long) :: ([.fieldLink RX1 85 "SweepEqual$Nodes" "WORD_PATTERNS" "[J", .constantLong RX1 88 (-1)])
def wsJ6_numberOfTrailingZeros_0f7a4 : List Cond := .code yJ6_numberOfTrailingZeros_0f7a4 cJ6_numberOfTrailingZeros_0f7a4 2 (some .int) :: ([.constant RJ6 264 (65536)])
def wsJ13_numberOfTrailingZeros_95d88 : List Cond := .code yJ13_numberOfTrailingZeros_95d88 cJ13_numberOfTrailingZeros_95d88 3 (some .int) :: ([.methodLink RJ13 311 yJ6_numberOfTrailingZeros_0f7a4, .static yJ6_numberOfTrailingZeros_0f7a4, .initialized RJ6, .code yJ6_numberOfTrailingZeros_0f7a4 cJ6_numberOfTrailingZeros_0f7a4 2 (some .int), .constant RJ6 264 (65536)])
def wsX1_leastDifference : List Cond := .code yX1_leastDifference cX1_leastDifference 6 (some .int) :: ([.methodLink RX1 37 yX1_wordOf, .instanceMethod yX1_wordOf, .selects RX1 yX1_wordOf yX1_wordOf, .initialized RX1, .code yX1_wordOf cX1_wordOf 5 (some .long), .fieldLink RX1 22 "SweepEqual$Nodes" "rows" "[J", .constantLong RX1 88 (-1), .methodLink RX1 57 yJ13_numberOfTrailingZeros_95d88, .static yJ13_numberOfTrailingZeros_95d88, .initialized RJ13, .code yJ13_numberOfTrailingZeros_95d88 cJ13_numberOfTrailingZeros_95d88 3 (some .int), .methodLink RJ13 311 yJ6_numberOfTrailingZeros_0f7a4, .static yJ6_numberOfTrailingZeros_0f7a4, .initialized RJ6, .code yJ6_numberOfTrailingZeros_0f7a4 cJ6_numberOfTrailingZeros_0f7a4 2 (some .int), .constant RJ6 264 (65536)] ++ wsX10)
def wsX1_findFirst : List Cond := .code yX1_findFirst cX1_findFirst 6 (some .int) :: ([.methodLink RX1 75 yX1_valueIn, .instanceMethod yX1_valueIn, .selects RX1 yX1_valueIn yX1_valueIn, .initialized RX1, .code yX1_valueIn cX1_valueIn 4 (some .int), .methodLink RX1 37 yX1_wordOf, .instanceMethod yX1_wordOf, .selects RX1 yX1_wordOf yX1_wordOf, .code yX1_wordOf cX1_wordOf 5 (some .long), .fieldLink RX1 22 "SweepEqual$Nodes" "rows" "[J", .constantLong RX1 88 (-1), .methodLink RX1 78 yX1_leastDifference, .instanceMethod yX1_leastDifference, .selects RX1 yX1_leastDifference yX1_leastDifference, .code yX1_leastDifference cX1_leastDifference 6 (some .int), .methodLink RX1 57 yJ13_numberOfTrailingZeros_95d88, .static yJ13_numberOfTrailingZeros_95d88, .initialized RJ13, .code yJ13_numberOfTrailingZeros_95d88 cJ13_numberOfTrailingZeros_95d88 3 (some .int), .methodLink RJ13 311 yJ6_numberOfTrailingZeros_0f7a4, .static yJ6_numberOfTrailingZeros_0f7a4, .initialized RJ6, .code yJ6_numberOfTrailingZeros_0f7a4 cJ6_numberOfTrailingZeros_0f7a4 2 (some .int), .constant RJ6 264 (65536)] ++ wsX10)
def wsX1_settle_r1 : List Cond := [Cond.fieldLink RX1 11 "SweepEqual$Nodes" "count" "I", Cond.fieldLink RX1 15 "SweepEqual$Nodes" "owners" "[I", Cond.fieldLink RX1 19 "SweepEqual$Nodes" "firsts" "[I", Cond.methodLink RX1 72 yX1_findFirst, Cond.instanceMethod yX1_findFirst, Cond.selects RX1 yX1_findFirst yX1_findFirst, Cond.initialized RX1, Cond.code yX1_findFirst cX1_findFirst 6 (some .int), Cond.methodLink RX1 75 yX1_valueIn, Cond.instanceMethod yX1_valueIn, Cond.selects RX1 yX1_valueIn yX1_valueIn, Cond.code yX1_valueIn cX1_valueIn 4 (some .int), Cond.methodLink RX1 37 yX1_wordOf, Cond.instanceMethod yX1_wordOf, Cond.selects RX1 yX1_wordOf yX1_wordOf, Cond.code yX1_wordOf cX1_wordOf 5 (some .long), Cond.fieldLink RX1 22 "SweepEqual$Nodes" "rows" "[J", Cond.constantLong RX1 88 (-1), Cond.methodLink RX1 78 yX1_leastDifference, Cond.instanceMethod yX1_leastDifference, Cond.selects RX1 yX1_leastDifference yX1_leastDifference, Cond.code yX1_leastDifference cX1_leastDifference 6 (some .int), Cond.methodLink RX1 57 yJ13_numberOfTrailingZeros_95d88, Cond.static yJ13_numberOfTrailingZeros_95d88]
def wsX1_settle_r2 : List Cond := [Cond.initialized RJ13, Cond.code yJ13_numberOfTrailingZeros_95d88 cJ13_numberOfTrailingZeros_95d88 3 (some .int), Cond.methodLink RJ13 311 yJ6_numberOfTrailingZeros_0f7a4, Cond.static yJ6_numberOfTrailingZeros_0f7a4, Cond.initialized RJ6, Cond.code yJ6_numberOfTrailingZeros_0f7a4 cJ6_numberOfTrailingZeros_0f7a4 2 (some .int), Cond.constant RJ6 264 (65536)]
def wsX1_settle : List Cond := .code yX1_settle cX1_settle 3 (some .int) :: ((wsX1_settle_r1 ++ wsX1_settle_r2) ++ wsX10)
def wsX1_addVariable_r1 : List Cond := [Cond.fieldLink RX1 11 "SweepEqual$Nodes" "count" "I", Cond.fieldLink RX1 22 "SweepEqual$Nodes" "rows" "[J", Cond.methodLink RX1 26 yX1_growRows, Cond.instanceMethod yX1_growRows, Cond.selects RX1 yX1_growRows yX1_growRows, Cond.initialized RX1, Cond.code yX1_growRows cX1_growRows 1 none, Cond.methodLink RX1 60 Lib.Math.min.name, Cond.static Lib.Math.min.name, Cond.initialized "java/lang/Math", Cond.code Lib.Math.min.name Lib.Math.min.code 2 (some .int), Cond.methodLink RX1 66 yJ7_copyOf_c38d5, Cond.static yJ7_copyOf_c38d5, Cond.initialized RJ7, Cond.code yJ7_copyOf_c38d5 cJ7_copyOf_c38d5 3 (some (.array .long)), Cond.methodLink RJ7 319 ⟨"[J", "clone", "()Ljava/lang/Object;"⟩, Cond.sameMethod "[J" "java/lang/Object" "clone" "()Ljava/lang/Object;", Cond.native ⟨"java/lang/Object", "clone", "()Ljava/lang/Object;"⟩, Cond.instanceMethod ⟨"java/lang/Object", "clone", "()Ljava/lang/Object;"⟩, Cond.selects "[J" ⟨"[J", "clone", "()Ljava/lang/Object;"⟩ ⟨"java/lang/Object", "clone", "()Ljava/lang/Object;"⟩, Cond.classLink RJ7 320 "[J", Cond.arrayClass .long, Cond.methodLink RJ7 304 Lib.Math.min.name, Cond.methodLink RJ7 150 arraycopyName]
def wsX1_addVariable_r2 : List Cond := [Cond.native arraycopyName, Cond.static arraycopyName, Cond.initialized "java/lang/System", Cond.methodLink RX1 29 yX1_variableWord, Cond.static yX1_variableWord, Cond.code yX1_variableWord cX1_variableWord 2 (some .long), Cond.fieldLink RX1 85 "SweepEqual$Nodes" "WORD_PATTERNS" "[J", Cond.constantLong RX1 88 (-1), Cond.methodLink RX1 33 yX1_settle, Cond.instanceMethod yX1_settle, Cond.selects RX1 yX1_settle yX1_settle, Cond.code yX1_settle cX1_settle 3 (some .int), Cond.fieldLink RX1 15 "SweepEqual$Nodes" "owners" "[I", Cond.fieldLink RX1 19 "SweepEqual$Nodes" "firsts" "[I", Cond.methodLink RX1 72 yX1_findFirst, Cond.instanceMethod yX1_findFirst, Cond.selects RX1 yX1_findFirst yX1_findFirst, Cond.code yX1_findFirst cX1_findFirst 6 (some .int), Cond.methodLink RX1 75 yX1_valueIn, Cond.instanceMethod yX1_valueIn, Cond.selects RX1 yX1_valueIn yX1_valueIn, Cond.code yX1_valueIn cX1_valueIn 4 (some .int), Cond.methodLink RX1 37 yX1_wordOf, Cond.instanceMethod yX1_wordOf]
def wsX1_addVariable_r3 : List Cond := [Cond.selects RX1 yX1_wordOf yX1_wordOf, Cond.code yX1_wordOf cX1_wordOf 5 (some .long), Cond.methodLink RX1 78 yX1_leastDifference, Cond.instanceMethod yX1_leastDifference, Cond.selects RX1 yX1_leastDifference yX1_leastDifference, Cond.code yX1_leastDifference cX1_leastDifference 6 (some .int), Cond.methodLink RX1 57 yJ13_numberOfTrailingZeros_95d88, Cond.static yJ13_numberOfTrailingZeros_95d88, Cond.initialized RJ13, Cond.code yJ13_numberOfTrailingZeros_95d88 cJ13_numberOfTrailingZeros_95d88 3 (some .int), Cond.methodLink RJ13 311 yJ6_numberOfTrailingZeros_0f7a4, Cond.static yJ6_numberOfTrailingZeros_0f7a4, Cond.initialized RJ6, Cond.code yJ6_numberOfTrailingZeros_0f7a4 cJ6_numberOfTrailingZeros_0f7a4 2 (some .int), Cond.constant RJ6 264 (65536)]
def wsX1_addVariable : List Cond := .code yX1_addVariable cX1_addVariable 4 (some .int) :: ((wsX1_addVariable_r1 ++ (wsX1_addVariable_r2 ++ wsX1_addVariable_r3)) ++ wsX10)
def wsX1_addAnd_r1 : List Cond := [Cond.fieldLink RX1 11 "SweepEqual$Nodes" "count" "I", Cond.fieldLink RX1 22 "SweepEqual$Nodes" "rows" "[J", Cond.methodLink RX1 26 yX1_growRows, Cond.instanceMethod yX1_growRows, Cond.selects RX1 yX1_growRows yX1_growRows, Cond.initialized RX1, Cond.code yX1_growRows cX1_growRows 1 none, Cond.methodLink RX1 60 Lib.Math.min.name, Cond.static Lib.Math.min.name, Cond.initialized "java/lang/Math", Cond.code Lib.Math.min.name Lib.Math.min.code 2 (some .int), Cond.methodLink RX1 66 yJ7_copyOf_c38d5, Cond.static yJ7_copyOf_c38d5, Cond.initialized RJ7, Cond.code yJ7_copyOf_c38d5 cJ7_copyOf_c38d5 3 (some (.array .long)), Cond.methodLink RJ7 319 ⟨"[J", "clone", "()Ljava/lang/Object;"⟩, Cond.sameMethod "[J" "java/lang/Object" "clone" "()Ljava/lang/Object;", Cond.native ⟨"java/lang/Object", "clone", "()Ljava/lang/Object;"⟩, Cond.instanceMethod ⟨"java/lang/Object", "clone", "()Ljava/lang/Object;"⟩, Cond.selects "[J" ⟨"[J", "clone", "()Ljava/lang/Object;"⟩ ⟨"java/lang/Object", "clone", "()Ljava/lang/Object;"⟩, Cond.classLink RJ7 320 "[J", Cond.arrayClass .long, Cond.methodLink RJ7 304 Lib.Math.min.name, Cond.methodLink RJ7 150 arraycopyName]
def wsX1_addAnd_r2 : List Cond := [Cond.native arraycopyName, Cond.static arraycopyName, Cond.initialized "java/lang/System", Cond.methodLink RX1 37 yX1_wordOf, Cond.instanceMethod yX1_wordOf, Cond.selects RX1 yX1_wordOf yX1_wordOf, Cond.code yX1_wordOf cX1_wordOf 5 (some .long), Cond.constantLong RX1 88 (-1), Cond.methodLink RX1 33 yX1_settle, Cond.instanceMethod yX1_settle, Cond.selects RX1 yX1_settle yX1_settle, Cond.code yX1_settle cX1_settle 3 (some .int), Cond.fieldLink RX1 15 "SweepEqual$Nodes" "owners" "[I", Cond.fieldLink RX1 19 "SweepEqual$Nodes" "firsts" "[I", Cond.methodLink RX1 72 yX1_findFirst, Cond.instanceMethod yX1_findFirst, Cond.selects RX1 yX1_findFirst yX1_findFirst, Cond.code yX1_findFirst cX1_findFirst 6 (some .int), Cond.methodLink RX1 75 yX1_valueIn, Cond.instanceMethod yX1_valueIn, Cond.selects RX1 yX1_valueIn yX1_valueIn, Cond.code yX1_valueIn cX1_valueIn 4 (some .int), Cond.methodLink RX1 78 yX1_leastDifference, Cond.instanceMethod yX1_leastDifference]
def wsX1_addAnd_r3 : List Cond := [Cond.selects RX1 yX1_leastDifference yX1_leastDifference, Cond.code yX1_leastDifference cX1_leastDifference 6 (some .int), Cond.methodLink RX1 57 yJ13_numberOfTrailingZeros_95d88, Cond.static yJ13_numberOfTrailingZeros_95d88, Cond.initialized RJ13, Cond.code yJ13_numberOfTrailingZeros_95d88 cJ13_numberOfTrailingZeros_95d88 3 (some .int), Cond.methodLink RJ13 311 yJ6_numberOfTrailingZeros_0f7a4, Cond.static yJ6_numberOfTrailingZeros_0f7a4, Cond.initialized RJ6, Cond.code yJ6_numberOfTrailingZeros_0f7a4 cJ6_numberOfTrailingZeros_0f7a4 2 (some .int), Cond.constant RJ6 264 (65536)]
def wsX1_addAnd : List Cond := .code yX1_addAnd cX1_addAnd 6 (some .int) :: ((wsX1_addAnd_r1 ++ (wsX1_addAnd_r2 ++ wsX1_addAnd_r3)) ++ wsX10)
def wsX1_isOfOtherSide : List Cond := .code yX1_isOfOtherSide cX1_isOfOtherSide 4 (some .boolean) :: ([.fieldLink RX1 15 "SweepEqual$Nodes" "owners" "[I"] ++ wsX10)
def wsX1_firstOf : List Cond := .code yX1_firstOf cX1_firstOf 2 (some .int) :: ([.fieldLink RX1 19 "SweepEqual$Nodes" "firsts" "[I"] ++ wsX10)
def wsX1_areSame : List Cond := .code yX1_areSame cX1_areSame 3 (some .boolean) :: ([.methodLink RX1 40 yX1_firstOf, .instanceMethod yX1_firstOf, .selects RX1 yX1_firstOf yX1_firstOf, .initialized RX1, .code yX1_firstOf cX1_firstOf 2 (some .int), .fieldLink RX1 19 "SweepEqual$Nodes" "firsts" "[I"] ++ wsX10)
def wsX1_isLeast : List Cond := .code yX1_isLeast cX1_isLeast 2 (some .boolean) :: ([.fieldLink RX1 19 "SweepEqual$Nodes" "firsts" "[I"] ++ wsX10)
def wsX1_countClasses : List Cond := .code yX1_countClasses cX1_countClasses 3 (some .int) :: ([.fieldLink RX1 11 "SweepEqual$Nodes" "count" "I", .methodLink RX1 43 yX1_isLeast, .instanceMethod yX1_isLeast, .selects RX1 yX1_isLeast yX1_isLeast, .initialized RX1, .code yX1_isLeast cX1_isLeast 2 (some .boolean), .fieldLink RX1 19 "SweepEqual$Nodes" "firsts" "[I"] ++ wsX10)
def wsX1_countMerged : List Cond := .code yX1_countMerged cX1_countMerged 4 (some .int) :: ([.fieldLink RX1 11 "SweepEqual$Nodes" "count" "I", .fieldLink RX1 15 "SweepEqual$Nodes" "owners" "[I", .methodLink RX1 43 yX1_isLeast, .instanceMethod yX1_isLeast, .selects RX1 yX1_isLeast yX1_isLeast, .initialized RX1, .code yX1_isLeast cX1_isLeast 2 (some .boolean), .fieldLink RX1 19 "SweepEqual$Nodes" "firsts" "[I"] ++ wsX10)
def wsX1_countAnds : List Cond := .code yX1_countAnds cX1_countAnds 4 (some .int) :: ([.fieldLink RX1 11 "SweepEqual$Nodes" "count" "I", .fieldLink RX1 15 "SweepEqual$Nodes" "owners" "[I"] ++ wsX10)
def wsJ13_bitCount_95d88 : List Cond := .code yJ13_bitCount_95d88 cJ13_bitCount_95d88 2 (some .int) :: ([.constantLong RJ13 314 (6148914691236517205), .constantLong RJ13 316 (3689348814741910323), .constantLong RJ13 318 (1085102592571150095)])
def wsX1_countOnes : List Cond := .code yX1_countOnes cX1_countOnes 4 (some .int) :: ([.methodLink RX1 37 yX1_wordOf, .instanceMethod yX1_wordOf, .selects RX1 yX1_wordOf yX1_wordOf, .initialized RX1, .code yX1_wordOf cX1_wordOf 5 (some .long), .fieldLink RX1 22 "SweepEqual$Nodes" "rows" "[J", .constantLong RX1 88 (-1), .methodLink RX1 47 yJ13_bitCount_95d88, .static yJ13_bitCount_95d88, .initialized RJ13, .code yJ13_bitCount_95d88 cJ13_bitCount_95d88 2 (some .int), .constantLong RJ13 314 (6148914691236517205), .constantLong RJ13 316 (3689348814741910323), .constantLong RJ13 318 (1085102592571150095)] ++ wsX10)
def wsX1_wordHangsOn : List Cond := .code yX1_wordHangsOn cX1_wordHangsOn 8 (some .boolean) :: ([.fieldLink RX1 85 "SweepEqual$Nodes" "WORD_PATTERNS" "[J", .constantLong RX1 88 (-1), .methodLink RX1 37 yX1_wordOf, .instanceMethod yX1_wordOf, .selects RX1 yX1_wordOf yX1_wordOf, .initialized RX1, .code yX1_wordOf cX1_wordOf 5 (some .long), .fieldLink RX1 22 "SweepEqual$Nodes" "rows" "[J"] ++ wsX10)
def wsX1_hangsOn : List Cond := .code yX1_hangsOn cX1_hangsOn 4 (some .boolean) :: ([.methodLink RX1 81 yX1_wordHangsOn, .instanceMethod yX1_wordHangsOn, .selects RX1 yX1_wordHangsOn yX1_wordHangsOn, .initialized RX1, .code yX1_wordHangsOn cX1_wordHangsOn 8 (some .boolean), .fieldLink RX1 85 "SweepEqual$Nodes" "WORD_PATTERNS" "[J", .constantLong RX1 88 (-1), .methodLink RX1 37 yX1_wordOf, .instanceMethod yX1_wordOf, .selects RX1 yX1_wordOf yX1_wordOf, .code yX1_wordOf cX1_wordOf 5 (some .long), .fieldLink RX1 22 "SweepEqual$Nodes" "rows" "[J"] ++ wsX10)
def wsX1_supportOf : List Cond := .code yX1_supportOf cX1_supportOf 4 (some .int) :: ([.methodLink RX1 53 yX1_hangsOn, .instanceMethod yX1_hangsOn, .selects RX1 yX1_hangsOn yX1_hangsOn, .initialized RX1, .code yX1_hangsOn cX1_hangsOn 4 (some .boolean), .methodLink RX1 81 yX1_wordHangsOn, .instanceMethod yX1_wordHangsOn, .selects RX1 yX1_wordHangsOn yX1_wordHangsOn, .code yX1_wordHangsOn cX1_wordHangsOn 8 (some .boolean), .fieldLink RX1 85 "SweepEqual$Nodes" "WORD_PATTERNS" "[J", .constantLong RX1 88 (-1), .methodLink RX1 37 yX1_wordOf, .instanceMethod yX1_wordOf, .selects RX1 yX1_wordOf yX1_wordOf, .code yX1_wordOf cX1_wordOf 5 (some .long), .fieldLink RX1 22 "SweepEqual$Nodes" "rows" "[J"] ++ wsX10)
def wsX2_init_r1 : List Cond := [Cond.methodLink RX2 3 objectInit, Cond.instanceMethod objectInit, Cond.code objectInit ⟨#[0xb1]⟩ 1 none, Cond.classLink RX2 9 RX1, Cond.instantiable RX1 4, Cond.initialized RX1, Cond.fieldLink RX2 12 "SweepEqual" "nodes" "LSweepEqual$Nodes;", Cond.classLink RX2 16 RX0, Cond.instantiable RX0 7, Cond.initialized RX0, Cond.fieldLink RX2 19 "SweepEqual" "designA" "LSweepEqual$Design;", Cond.fieldLink RX2 23 "SweepEqual" "designB" "LSweepEqual$Design;", Cond.fieldLink RX2 26 "SweepEqual" "apartStep" "I", Cond.methodLink RX2 11 yX1_init, Cond.instanceMethod yX1_init, Cond.code yX1_init cX1_init 1 none, Cond.methodLink RX1 5 objectInit, Cond.fieldLink RX1 11 "SweepEqual$Nodes" "count" "I", Cond.arrayClass .int, Cond.fieldLink RX1 15 "SweepEqual$Nodes" "owners" "[I", Cond.fieldLink RX1 19 "SweepEqual$Nodes" "firsts" "[I", Cond.arrayClass .long, Cond.fieldLink RX1 22 "SweepEqual$Nodes" "rows" "[J", Cond.methodLink RX2 18 yX0_init]
def wsX2_init_r2 : List Cond := [Cond.instanceMethod yX0_init, Cond.code yX0_init cX0_init 1 none, Cond.methodLink RX0 3 objectInit, Cond.fieldLink RX0 9 "SweepEqual$Design" "outputs" "[I", Cond.fieldLink RX0 15 "SweepEqual$Design" "nexts" "[I", Cond.fieldLink RX0 18 "SweepEqual$Design" "shown" "[I"]
def wsX2_init : List Cond := .code yX2_init cX2_init 1 none :: ((wsX2_init_r1 ++ wsX2_init_r2) ++ wsX10 ++ wsX20 ++ wsX00)
def wsX2_needRoomForNode : List Cond := .code yX2_needRoomForNode cX2_needRoomForNode 1 none :: ([.classLink RX2 33 "java/lang/IllegalStateException", .initialized "java/lang/IllegalStateException", .fieldLink RX2 12 "SweepEqual" "nodes" "LSweepEqual$Nodes;", .fieldLink RX2 169 "SweepEqual$Nodes" "count" "I"] ++ wsX20 ++ wsX10 ++ (vx_atS RX2 37 "java/lang/IllegalStateException" ["java/lang/RuntimeException", "java/lang/Exception"]).filter goodWord)
def wsX2_input_r1 : List Cond := [Cond.classLink RX2 33 "java/lang/IllegalStateException", Cond.initialized "java/lang/IllegalStateException", Cond.fieldLink RX2 30 "SweepEqual" "inputCount" "I", Cond.fieldLink RX2 12 "SweepEqual" "nodes" "LSweepEqual$Nodes;", Cond.methodLink RX2 40 yX2_needRoomForNode, Cond.instanceMethod yX2_needRoomForNode, Cond.selects RX2 yX2_needRoomForNode yX2_needRoomForNode, Cond.initialized RX2, Cond.code yX2_needRoomForNode cX2_needRoomForNode 1 none, Cond.fieldLink RX2 169 "SweepEqual$Nodes" "count" "I", Cond.methodLink RX2 43 yX1_addVariable, Cond.instanceMethod yX1_addVariable, Cond.selects RX1 yX1_addVariable yX1_addVariable, Cond.initialized RX1, Cond.code yX1_addVariable cX1_addVariable 4 (some .int), Cond.fieldLink RX1 11 "SweepEqual$Nodes" "count" "I", Cond.fieldLink RX1 22 "SweepEqual$Nodes" "rows" "[J", Cond.methodLink RX1 26 yX1_growRows, Cond.instanceMethod yX1_growRows, Cond.selects RX1 yX1_growRows yX1_growRows, Cond.code yX1_growRows cX1_growRows 1 none, Cond.methodLink RX1 60 Lib.Math.min.name, Cond.static Lib.Math.min.name, Cond.initialized "java/lang/Math"]
def wsX2_input_r2 : List Cond := [Cond.code Lib.Math.min.name Lib.Math.min.code 2 (some .int), Cond.methodLink RX1 66 yJ7_copyOf_c38d5, Cond.static yJ7_copyOf_c38d5, Cond.initialized RJ7, Cond.code yJ7_copyOf_c38d5 cJ7_copyOf_c38d5 3 (some (.array .long)), Cond.methodLink RJ7 319 ⟨"[J", "clone", "()Ljava/lang/Object;"⟩, Cond.sameMethod "[J" "java/lang/Object" "clone" "()Ljava/lang/Object;", Cond.native ⟨"java/lang/Object", "clone", "()Ljava/lang/Object;"⟩, Cond.instanceMethod ⟨"java/lang/Object", "clone", "()Ljava/lang/Object;"⟩, Cond.selects "[J" ⟨"[J", "clone", "()Ljava/lang/Object;"⟩ ⟨"java/lang/Object", "clone", "()Ljava/lang/Object;"⟩, Cond.classLink RJ7 320 "[J", Cond.arrayClass .long, Cond.methodLink RJ7 304 Lib.Math.min.name, Cond.methodLink RJ7 150 arraycopyName, Cond.native arraycopyName, Cond.static arraycopyName, Cond.initialized "java/lang/System", Cond.methodLink RX1 29 yX1_variableWord, Cond.static yX1_variableWord, Cond.code yX1_variableWord cX1_variableWord 2 (some .long), Cond.fieldLink RX1 85 "SweepEqual$Nodes" "WORD_PATTERNS" "[J", Cond.constantLong RX1 88 (-1), Cond.methodLink RX1 33 yX1_settle, Cond.instanceMethod yX1_settle]
def wsX2_input_r3 : List Cond := [Cond.selects RX1 yX1_settle yX1_settle, Cond.code yX1_settle cX1_settle 3 (some .int), Cond.fieldLink RX1 15 "SweepEqual$Nodes" "owners" "[I", Cond.fieldLink RX1 19 "SweepEqual$Nodes" "firsts" "[I", Cond.methodLink RX1 72 yX1_findFirst, Cond.instanceMethod yX1_findFirst, Cond.selects RX1 yX1_findFirst yX1_findFirst, Cond.code yX1_findFirst cX1_findFirst 6 (some .int), Cond.methodLink RX1 75 yX1_valueIn, Cond.instanceMethod yX1_valueIn, Cond.selects RX1 yX1_valueIn yX1_valueIn, Cond.code yX1_valueIn cX1_valueIn 4 (some .int), Cond.methodLink RX1 37 yX1_wordOf, Cond.instanceMethod yX1_wordOf, Cond.selects RX1 yX1_wordOf yX1_wordOf, Cond.code yX1_wordOf cX1_wordOf 5 (some .long), Cond.methodLink RX1 78 yX1_leastDifference, Cond.instanceMethod yX1_leastDifference, Cond.selects RX1 yX1_leastDifference yX1_leastDifference, Cond.code yX1_leastDifference cX1_leastDifference 6 (some .int), Cond.methodLink RX1 57 yJ13_numberOfTrailingZeros_95d88, Cond.static yJ13_numberOfTrailingZeros_95d88, Cond.initialized RJ13, Cond.code yJ13_numberOfTrailingZeros_95d88 cJ13_numberOfTrailingZeros_95d88 3 (some .int)]
def wsX2_input_r4 : List Cond := [Cond.methodLink RJ13 311 yJ6_numberOfTrailingZeros_0f7a4, Cond.static yJ6_numberOfTrailingZeros_0f7a4, Cond.initialized RJ6, Cond.code yJ6_numberOfTrailingZeros_0f7a4 cJ6_numberOfTrailingZeros_0f7a4 2 (some .int), Cond.constant RJ6 264 (65536)]
def wsX2_input : List Cond := .code yX2_input cX2_input 2 (some .int) :: ((wsX2_input_r1 ++ (wsX2_input_r2 ++ (wsX2_input_r3 ++ wsX2_input_r4))) ++ wsX20 ++ wsX10 ++ (vx_atS RX2 37 "java/lang/IllegalStateException" ["java/lang/RuntimeException", "java/lang/Exception"]).filter goodWord)
def wsX2_needStart : List Cond := .code yX2_needStart cX2_needStart 2 none :: ([.classLink RX2 187 "java/lang/IllegalArgumentException", .initialized "java/lang/IllegalArgumentException"] ++ (vx_atS RX2 191 "java/lang/IllegalArgumentException" ["java/lang/RuntimeException", "java/lang/Exception"]).filter goodWord)
def wsX2_backToStarts : List Cond := .code yX2_backToStarts cX2_backToStarts 1 none :: ([.fieldLink RX2 19 "SweepEqual" "designA" "LSweepEqual$Design;", .fieldLink RX2 23 "SweepEqual" "designB" "LSweepEqual$Design;", .fieldLink RX2 155 "SweepEqual" "steps" "I", .fieldLink RX2 26 "SweepEqual" "apartStep" "I", .methodLink RX2 199 yX0_backToStarts, .instanceMethod yX0_backToStarts, .selects RX0 yX0_backToStarts yX0_backToStarts, .initialized RX0, .code yX0_backToStarts cX0_backToStarts 1 none, .fieldLink RX0 25 "SweepEqual$Design" "starts" "I", .fieldLink RX0 28 "SweepEqual$Design" "states" "I", .fieldLink RX0 31 "SweepEqual$Design" "shownCount" "I"] ++ wsX20 ++ wsX00)
def wsX2_latch_r1 : List Cond := [Cond.classLink RX2 33 "java/lang/IllegalStateException", Cond.initialized "java/lang/IllegalStateException", Cond.fieldLink RX2 47 "SweepEqual" "latchCount" "I", Cond.fieldLink RX2 12 "SweepEqual" "nodes" "LSweepEqual$Nodes;", Cond.fieldLink RX2 19 "SweepEqual" "designA" "LSweepEqual$Design;", Cond.fieldLink RX2 23 "SweepEqual" "designB" "LSweepEqual$Design;", Cond.methodLink RX2 40 yX2_needRoomForNode, Cond.instanceMethod yX2_needRoomForNode, Cond.selects RX2 yX2_needRoomForNode yX2_needRoomForNode, Cond.initialized RX2, Cond.code yX2_needRoomForNode cX2_needRoomForNode 1 none, Cond.fieldLink RX2 169 "SweepEqual$Nodes" "count" "I", Cond.methodLink RX2 52 yX2_needStart, Cond.instanceMethod yX2_needStart, Cond.selects RX2 yX2_needStart yX2_needStart, Cond.code yX2_needStart cX2_needStart 2 none, Cond.classLink RX2 187 "java/lang/IllegalArgumentException", Cond.initialized "java/lang/IllegalArgumentException", Cond.methodLink RX2 43 yX1_addVariable, Cond.instanceMethod yX1_addVariable, Cond.selects RX1 yX1_addVariable yX1_addVariable, Cond.initialized RX1, Cond.code yX1_addVariable cX1_addVariable 4 (some .int), Cond.fieldLink RX1 11 "SweepEqual$Nodes" "count" "I"]
def wsX2_latch_r2 : List Cond := [Cond.fieldLink RX1 22 "SweepEqual$Nodes" "rows" "[J", Cond.methodLink RX1 26 yX1_growRows, Cond.instanceMethod yX1_growRows, Cond.selects RX1 yX1_growRows yX1_growRows, Cond.code yX1_growRows cX1_growRows 1 none, Cond.methodLink RX1 60 Lib.Math.min.name, Cond.static Lib.Math.min.name, Cond.initialized "java/lang/Math", Cond.code Lib.Math.min.name Lib.Math.min.code 2 (some .int), Cond.methodLink RX1 66 yJ7_copyOf_c38d5, Cond.static yJ7_copyOf_c38d5, Cond.initialized RJ7, Cond.code yJ7_copyOf_c38d5 cJ7_copyOf_c38d5 3 (some (.array .long)), Cond.methodLink RJ7 319 ⟨"[J", "clone", "()Ljava/lang/Object;"⟩, Cond.sameMethod "[J" "java/lang/Object" "clone" "()Ljava/lang/Object;", Cond.native ⟨"java/lang/Object", "clone", "()Ljava/lang/Object;"⟩, Cond.instanceMethod ⟨"java/lang/Object", "clone", "()Ljava/lang/Object;"⟩, Cond.selects "[J" ⟨"[J", "clone", "()Ljava/lang/Object;"⟩ ⟨"java/lang/Object", "clone", "()Ljava/lang/Object;"⟩, Cond.classLink RJ7 320 "[J", Cond.arrayClass .long, Cond.methodLink RJ7 304 Lib.Math.min.name, Cond.methodLink RJ7 150 arraycopyName, Cond.native arraycopyName, Cond.static arraycopyName]
def wsX2_latch_r3 : List Cond := [Cond.initialized "java/lang/System", Cond.methodLink RX1 29 yX1_variableWord, Cond.static yX1_variableWord, Cond.code yX1_variableWord cX1_variableWord 2 (some .long), Cond.fieldLink RX1 85 "SweepEqual$Nodes" "WORD_PATTERNS" "[J", Cond.constantLong RX1 88 (-1), Cond.methodLink RX1 33 yX1_settle, Cond.instanceMethod yX1_settle, Cond.selects RX1 yX1_settle yX1_settle, Cond.code yX1_settle cX1_settle 3 (some .int), Cond.fieldLink RX1 15 "SweepEqual$Nodes" "owners" "[I", Cond.fieldLink RX1 19 "SweepEqual$Nodes" "firsts" "[I", Cond.methodLink RX1 72 yX1_findFirst, Cond.instanceMethod yX1_findFirst, Cond.selects RX1 yX1_findFirst yX1_findFirst, Cond.code yX1_findFirst cX1_findFirst 6 (some .int), Cond.methodLink RX1 75 yX1_valueIn, Cond.instanceMethod yX1_valueIn, Cond.selects RX1 yX1_valueIn yX1_valueIn, Cond.code yX1_valueIn cX1_valueIn 4 (some .int), Cond.methodLink RX1 37 yX1_wordOf, Cond.instanceMethod yX1_wordOf, Cond.selects RX1 yX1_wordOf yX1_wordOf, Cond.code yX1_wordOf cX1_wordOf 5 (some .long)]
def wsX2_latch_r4 : List Cond := [Cond.methodLink RX1 78 yX1_leastDifference, Cond.instanceMethod yX1_leastDifference, Cond.selects RX1 yX1_leastDifference yX1_leastDifference, Cond.code yX1_leastDifference cX1_leastDifference 6 (some .int), Cond.methodLink RX1 57 yJ13_numberOfTrailingZeros_95d88, Cond.static yJ13_numberOfTrailingZeros_95d88, Cond.initialized RJ13, Cond.code yJ13_numberOfTrailingZeros_95d88 cJ13_numberOfTrailingZeros_95d88 3 (some .int), Cond.methodLink RJ13 311 yJ6_numberOfTrailingZeros_0f7a4, Cond.static yJ6_numberOfTrailingZeros_0f7a4, Cond.initialized RJ6, Cond.code yJ6_numberOfTrailingZeros_0f7a4 cJ6_numberOfTrailingZeros_0f7a4 2 (some .int), Cond.constant RJ6 264 (65536), Cond.methodLink RX2 56 yX0_addLatch, Cond.instanceMethod yX0_addLatch, Cond.selects RX0 yX0_addLatch yX0_addLatch, Cond.initialized RX0, Cond.code yX0_addLatch cX0_addLatch 4 none, Cond.fieldLink RX0 25 "SweepEqual$Design" "starts" "I", Cond.fieldLink RX0 15 "SweepEqual$Design" "nexts" "[I", Cond.methodLink RX2 60 yX2_backToStarts, Cond.instanceMethod yX2_backToStarts, Cond.selects RX2 yX2_backToStarts yX2_backToStarts, Cond.code yX2_backToStarts cX2_backToStarts 1 none]
def wsX2_latch_r5 : List Cond := [Cond.fieldLink RX2 155 "SweepEqual" "steps" "I", Cond.fieldLink RX2 26 "SweepEqual" "apartStep" "I", Cond.methodLink RX2 199 yX0_backToStarts, Cond.instanceMethod yX0_backToStarts, Cond.selects RX0 yX0_backToStarts yX0_backToStarts, Cond.code yX0_backToStarts cX0_backToStarts 1 none, Cond.fieldLink RX0 28 "SweepEqual$Design" "states" "I", Cond.fieldLink RX0 31 "SweepEqual$Design" "shownCount" "I"]
def wsX2_latch : List Cond := .code yX2_latch cX2_latch 4 (some .int) :: ((wsX2_latch_r1 ++ (wsX2_latch_r2 ++ (wsX2_latch_r3 ++ (wsX2_latch_r4 ++ wsX2_latch_r5)))) ++ wsX20 ++ wsX10 ++ wsX00 ++ (vx_atS RX2 37 "java/lang/IllegalStateException" ["java/lang/RuntimeException", "java/lang/Exception"]).filter goodWord ++ (vx_atS RX2 191 "java/lang/IllegalArgumentException" ["java/lang/RuntimeException", "java/lang/Exception"]).filter goodWord)
def wsX2_needSide : List Cond := .code yX2_needSide cX2_needSide 2 none :: ([.classLink RX2 120 "java/lang/IndexOutOfBoundsException", .initialized "java/lang/IndexOutOfBoundsException"] ++ (vx_atS RX2 124 "java/lang/IndexOutOfBoundsException" ["java/lang/RuntimeException", "java/lang/Exception"]).filter goodWord)
def wsX2_needLiteral : List Cond := .code yX2_needLiteral cX2_needLiteral 2 none :: ([.classLink RX2 120 "java/lang/IndexOutOfBoundsException", .initialized "java/lang/IndexOutOfBoundsException", .fieldLink RX2 12 "SweepEqual" "nodes" "LSweepEqual$Nodes;", .fieldLink RX2 169 "SweepEqual$Nodes" "count" "I"] ++ wsX20 ++ wsX10 ++ (vx_atS RX2 124 "java/lang/IndexOutOfBoundsException" ["java/lang/RuntimeException", "java/lang/Exception"]).filter goodWord)
def wsX2_needOwn : List Cond := .code yX2_needOwn cX2_needOwn 3 none :: ([.classLink RX2 187 "java/lang/IllegalArgumentException", .initialized "java/lang/IllegalArgumentException", .fieldLink RX2 12 "SweepEqual" "nodes" "LSweepEqual$Nodes;", .methodLink RX2 194 yX1_isOfOtherSide, .instanceMethod yX1_isOfOtherSide, .selects RX1 yX1_isOfOtherSide yX1_isOfOtherSide, .initialized RX1, .code yX1_isOfOtherSide cX1_isOfOtherSide 4 (some .boolean), .fieldLink RX1 15 "SweepEqual$Nodes" "owners" "[I"] ++ wsX20 ++ wsX10 ++ (vx_atS RX2 191 "java/lang/IllegalArgumentException" ["java/lang/RuntimeException", "java/lang/Exception"]).filter goodWord)
def wsX2_and_r1 : List Cond := [Cond.fieldLink RX2 12 "SweepEqual" "nodes" "LSweepEqual$Nodes;", Cond.methodLink RX2 63 yX2_needSide, Cond.instanceMethod yX2_needSide, Cond.selects RX2 yX2_needSide yX2_needSide, Cond.initialized RX2, Cond.code yX2_needSide cX2_needSide 2 none, Cond.classLink RX2 120 "java/lang/IndexOutOfBoundsException", Cond.initialized "java/lang/IndexOutOfBoundsException", Cond.methodLink RX2 66 yX2_needLiteral, Cond.instanceMethod yX2_needLiteral, Cond.selects RX2 yX2_needLiteral yX2_needLiteral, Cond.code yX2_needLiteral cX2_needLiteral 2 none, Cond.fieldLink RX2 169 "SweepEqual$Nodes" "count" "I", Cond.methodLink RX2 40 yX2_needRoomForNode, Cond.instanceMethod yX2_needRoomForNode, Cond.selects RX2 yX2_needRoomForNode yX2_needRoomForNode, Cond.code yX2_needRoomForNode cX2_needRoomForNode 1 none, Cond.classLink RX2 33 "java/lang/IllegalStateException", Cond.initialized "java/lang/IllegalStateException", Cond.methodLink RX2 69 yX2_needOwn, Cond.instanceMethod yX2_needOwn, Cond.selects RX2 yX2_needOwn yX2_needOwn, Cond.code yX2_needOwn cX2_needOwn 3 none, Cond.classLink RX2 187 "java/lang/IllegalArgumentException"]
def wsX2_and_r2 : List Cond := [Cond.initialized "java/lang/IllegalArgumentException", Cond.methodLink RX2 194 yX1_isOfOtherSide, Cond.instanceMethod yX1_isOfOtherSide, Cond.selects RX1 yX1_isOfOtherSide yX1_isOfOtherSide, Cond.initialized RX1, Cond.code yX1_isOfOtherSide cX1_isOfOtherSide 4 (some .boolean), Cond.fieldLink RX1 15 "SweepEqual$Nodes" "owners" "[I", Cond.methodLink RX2 73 yX1_addAnd, Cond.instanceMethod yX1_addAnd, Cond.selects RX1 yX1_addAnd yX1_addAnd, Cond.code yX1_addAnd cX1_addAnd 6 (some .int), Cond.fieldLink RX1 11 "SweepEqual$Nodes" "count" "I", Cond.fieldLink RX1 22 "SweepEqual$Nodes" "rows" "[J", Cond.methodLink RX1 26 yX1_growRows, Cond.instanceMethod yX1_growRows, Cond.selects RX1 yX1_growRows yX1_growRows, Cond.code yX1_growRows cX1_growRows 1 none, Cond.methodLink RX1 60 Lib.Math.min.name, Cond.static Lib.Math.min.name, Cond.initialized "java/lang/Math", Cond.code Lib.Math.min.name Lib.Math.min.code 2 (some .int), Cond.methodLink RX1 66 yJ7_copyOf_c38d5, Cond.static yJ7_copyOf_c38d5, Cond.initialized RJ7]
def wsX2_and_r3 : List Cond := [Cond.code yJ7_copyOf_c38d5 cJ7_copyOf_c38d5 3 (some (.array .long)), Cond.methodLink RJ7 319 ⟨"[J", "clone", "()Ljava/lang/Object;"⟩, Cond.sameMethod "[J" "java/lang/Object" "clone" "()Ljava/lang/Object;", Cond.native ⟨"java/lang/Object", "clone", "()Ljava/lang/Object;"⟩, Cond.instanceMethod ⟨"java/lang/Object", "clone", "()Ljava/lang/Object;"⟩, Cond.selects "[J" ⟨"[J", "clone", "()Ljava/lang/Object;"⟩ ⟨"java/lang/Object", "clone", "()Ljava/lang/Object;"⟩, Cond.classLink RJ7 320 "[J", Cond.arrayClass .long, Cond.methodLink RJ7 304 Lib.Math.min.name, Cond.methodLink RJ7 150 arraycopyName, Cond.native arraycopyName, Cond.static arraycopyName, Cond.initialized "java/lang/System", Cond.methodLink RX1 37 yX1_wordOf, Cond.instanceMethod yX1_wordOf, Cond.selects RX1 yX1_wordOf yX1_wordOf, Cond.code yX1_wordOf cX1_wordOf 5 (some .long), Cond.constantLong RX1 88 (-1), Cond.methodLink RX1 33 yX1_settle, Cond.instanceMethod yX1_settle, Cond.selects RX1 yX1_settle yX1_settle, Cond.code yX1_settle cX1_settle 3 (some .int), Cond.fieldLink RX1 19 "SweepEqual$Nodes" "firsts" "[I", Cond.methodLink RX1 72 yX1_findFirst]
def wsX2_and_r4 : List Cond := [Cond.instanceMethod yX1_findFirst, Cond.selects RX1 yX1_findFirst yX1_findFirst, Cond.code yX1_findFirst cX1_findFirst 6 (some .int), Cond.methodLink RX1 75 yX1_valueIn, Cond.instanceMethod yX1_valueIn, Cond.selects RX1 yX1_valueIn yX1_valueIn, Cond.code yX1_valueIn cX1_valueIn 4 (some .int), Cond.methodLink RX1 78 yX1_leastDifference, Cond.instanceMethod yX1_leastDifference, Cond.selects RX1 yX1_leastDifference yX1_leastDifference, Cond.code yX1_leastDifference cX1_leastDifference 6 (some .int), Cond.methodLink RX1 57 yJ13_numberOfTrailingZeros_95d88, Cond.static yJ13_numberOfTrailingZeros_95d88, Cond.initialized RJ13, Cond.code yJ13_numberOfTrailingZeros_95d88 cJ13_numberOfTrailingZeros_95d88 3 (some .int), Cond.methodLink RJ13 311 yJ6_numberOfTrailingZeros_0f7a4, Cond.static yJ6_numberOfTrailingZeros_0f7a4, Cond.initialized RJ6, Cond.code yJ6_numberOfTrailingZeros_0f7a4 cJ6_numberOfTrailingZeros_0f7a4 2 (some .int), Cond.constant RJ6 264 (65536)]
def wsX2_and : List Cond := .code yX2_and cX2_and 4 (some .int) :: ((wsX2_and_r1 ++ (wsX2_and_r2 ++ (wsX2_and_r3 ++ wsX2_and_r4))) ++ wsX20 ++ wsX10 ++ (vx_atS RX2 124 "java/lang/IndexOutOfBoundsException" ["java/lang/RuntimeException", "java/lang/Exception"]).filter goodWord ++ (vx_atS RX2 37 "java/lang/IllegalStateException" ["java/lang/RuntimeException", "java/lang/Exception"]).filter goodWord ++ (vx_atS RX2 191 "java/lang/IllegalArgumentException" ["java/lang/RuntimeException", "java/lang/Exception"]).filter goodWord)
def wsX2_designOf : List Cond := .code yX2_designOf cX2_designOf 2 (some (.object "SweepEqual$Design")) :: ([.fieldLink RX2 19 "SweepEqual" "designA" "LSweepEqual$Design;", .fieldLink RX2 23 "SweepEqual" "designB" "LSweepEqual$Design;"] ++ wsX20)
def wsX2_output_r1 : List Cond := [Cond.classLink RX2 33 "java/lang/IllegalStateException", Cond.initialized "java/lang/IllegalStateException", Cond.fieldLink RX2 81 "SweepEqual$Design" "outputCount" "I", Cond.methodLink RX2 63 yX2_needSide, Cond.instanceMethod yX2_needSide, Cond.selects RX2 yX2_needSide yX2_needSide, Cond.initialized RX2, Cond.code yX2_needSide cX2_needSide 2 none, Cond.classLink RX2 120 "java/lang/IndexOutOfBoundsException", Cond.initialized "java/lang/IndexOutOfBoundsException", Cond.methodLink RX2 66 yX2_needLiteral, Cond.instanceMethod yX2_needLiteral, Cond.selects RX2 yX2_needLiteral yX2_needLiteral, Cond.code yX2_needLiteral cX2_needLiteral 2 none, Cond.fieldLink RX2 12 "SweepEqual" "nodes" "LSweepEqual$Nodes;", Cond.fieldLink RX2 169 "SweepEqual$Nodes" "count" "I", Cond.methodLink RX2 77 yX2_designOf, Cond.instanceMethod yX2_designOf, Cond.selects RX2 yX2_designOf yX2_designOf, Cond.code yX2_designOf cX2_designOf 2 (some (.object "SweepEqual$Design")), Cond.fieldLink RX2 19 "SweepEqual" "designA" "LSweepEqual$Design;", Cond.fieldLink RX2 23 "SweepEqual" "designB" "LSweepEqual$Design;", Cond.methodLink RX2 69 yX2_needOwn, Cond.instanceMethod yX2_needOwn]
def wsX2_output_r2 : List Cond := [Cond.selects RX2 yX2_needOwn yX2_needOwn, Cond.code yX2_needOwn cX2_needOwn 3 none, Cond.classLink RX2 187 "java/lang/IllegalArgumentException", Cond.initialized "java/lang/IllegalArgumentException", Cond.methodLink RX2 194 yX1_isOfOtherSide, Cond.instanceMethod yX1_isOfOtherSide, Cond.selects RX1 yX1_isOfOtherSide yX1_isOfOtherSide, Cond.initialized RX1, Cond.code yX1_isOfOtherSide cX1_isOfOtherSide 4 (some .boolean), Cond.fieldLink RX1 15 "SweepEqual$Nodes" "owners" "[I", Cond.methodLink RX2 86 yX0_addOutput, Cond.instanceMethod yX0_addOutput, Cond.selects RX0 yX0_addOutput yX0_addOutput, Cond.initialized RX0, Cond.code yX0_addOutput cX0_addOutput 2 (some .int), Cond.fieldLink RX0 9 "SweepEqual$Design" "outputs" "[I", Cond.fieldLink RX0 21 "SweepEqual$Design" "outputCount" "I"]
def wsX2_output : List Cond := .code yX2_output cX2_output 4 (some .int) :: ((wsX2_output_r1 ++ wsX2_output_r2) ++ wsX00 ++ wsX20 ++ wsX10 ++ (vx_atS RX2 37 "java/lang/IllegalStateException" ["java/lang/RuntimeException", "java/lang/Exception"]).filter goodWord ++ (vx_atS RX2 124 "java/lang/IndexOutOfBoundsException" ["java/lang/RuntimeException", "java/lang/Exception"]).filter goodWord ++ (vx_atS RX2 191 "java/lang/IllegalArgumentException" ["java/lang/RuntimeException", "java/lang/Exception"]).filter goodWord)
def wsX2_needLatch : List Cond := .code yX2_needLatch cX2_needLatch 2 none :: ([.classLink RX2 120 "java/lang/IndexOutOfBoundsException", .initialized "java/lang/IndexOutOfBoundsException", .fieldLink RX2 47 "SweepEqual" "latchCount" "I"] ++ wsX20 ++ (vx_atS RX2 124 "java/lang/IndexOutOfBoundsException" ["java/lang/RuntimeException", "java/lang/Exception"]).filter goodWord)
def wsX2_next_r1 : List Cond := [Cond.fieldLink RX2 92 "SweepEqual$Design" "nexts" "[I", Cond.methodLink RX2 63 yX2_needSide, Cond.instanceMethod yX2_needSide, Cond.selects RX2 yX2_needSide yX2_needSide, Cond.initialized RX2, Cond.code yX2_needSide cX2_needSide 2 none, Cond.classLink RX2 120 "java/lang/IndexOutOfBoundsException", Cond.initialized "java/lang/IndexOutOfBoundsException", Cond.methodLink RX2 89 yX2_needLatch, Cond.instanceMethod yX2_needLatch, Cond.selects RX2 yX2_needLatch yX2_needLatch, Cond.code yX2_needLatch cX2_needLatch 2 none, Cond.fieldLink RX2 47 "SweepEqual" "latchCount" "I", Cond.methodLink RX2 66 yX2_needLiteral, Cond.instanceMethod yX2_needLiteral, Cond.selects RX2 yX2_needLiteral yX2_needLiteral, Cond.code yX2_needLiteral cX2_needLiteral 2 none, Cond.fieldLink RX2 12 "SweepEqual" "nodes" "LSweepEqual$Nodes;", Cond.fieldLink RX2 169 "SweepEqual$Nodes" "count" "I", Cond.methodLink RX2 69 yX2_needOwn, Cond.instanceMethod yX2_needOwn, Cond.selects RX2 yX2_needOwn yX2_needOwn, Cond.code yX2_needOwn cX2_needOwn 3 none, Cond.classLink RX2 187 "java/lang/IllegalArgumentException"]
def wsX2_next_r2 : List Cond := [Cond.initialized "java/lang/IllegalArgumentException", Cond.methodLink RX2 194 yX1_isOfOtherSide, Cond.instanceMethod yX1_isOfOtherSide, Cond.selects RX1 yX1_isOfOtherSide yX1_isOfOtherSide, Cond.initialized RX1, Cond.code yX1_isOfOtherSide cX1_isOfOtherSide 4 (some .boolean), Cond.fieldLink RX1 15 "SweepEqual$Nodes" "owners" "[I", Cond.methodLink RX2 77 yX2_designOf, Cond.instanceMethod yX2_designOf, Cond.selects RX2 yX2_designOf yX2_designOf, Cond.code yX2_designOf cX2_designOf 2 (some (.object "SweepEqual$Design")), Cond.fieldLink RX2 19 "SweepEqual" "designA" "LSweepEqual$Design;", Cond.fieldLink RX2 23 "SweepEqual" "designB" "LSweepEqual$Design;"]
def wsX2_next : List Cond := .code yX2_next cX2_next 6 (some .int) :: ((wsX2_next_r1 ++ wsX2_next_r2) ++ wsX00 ++ wsX20 ++ wsX10 ++ (vx_atS RX2 124 "java/lang/IndexOutOfBoundsException" ["java/lang/RuntimeException", "java/lang/Exception"]).filter goodWord ++ (vx_atS RX2 191 "java/lang/IllegalArgumentException" ["java/lang/RuntimeException", "java/lang/Exception"]).filter goodWord)
def wsX2_same : List Cond := .code yX2_same cX2_same 3 (some .boolean) :: ([.fieldLink RX2 12 "SweepEqual" "nodes" "LSweepEqual$Nodes;", .methodLink RX2 66 yX2_needLiteral, .instanceMethod yX2_needLiteral, .selects RX2 yX2_needLiteral yX2_needLiteral, .initialized RX2, .code yX2_needLiteral cX2_needLiteral 2 none, .classLink RX2 120 "java/lang/IndexOutOfBoundsException", .initialized "java/lang/IndexOutOfBoundsException", .fieldLink RX2 169 "SweepEqual$Nodes" "count" "I", .methodLink RX2 96 yX1_areSame, .instanceMethod yX1_areSame, .selects RX1 yX1_areSame yX1_areSame, .initialized RX1, .code yX1_areSame cX1_areSame 3 (some .boolean), .methodLink RX1 40 yX1_firstOf, .instanceMethod yX1_firstOf, .selects RX1 yX1_firstOf yX1_firstOf, .code yX1_firstOf cX1_firstOf 2 (some .int), .fieldLink RX1 19 "SweepEqual$Nodes" "firsts" "[I"] ++ wsX20 ++ wsX10 ++ (vx_atS RX2 124 "java/lang/IndexOutOfBoundsException" ["java/lang/RuntimeException", "java/lang/Exception"]).filter goodWord)
def wsX2_first : List Cond := .code yX2_first cX2_first 2 (some .int) :: ([.fieldLink RX2 12 "SweepEqual" "nodes" "LSweepEqual$Nodes;", .methodLink RX2 66 yX2_needLiteral, .instanceMethod yX2_needLiteral, .selects RX2 yX2_needLiteral yX2_needLiteral, .initialized RX2, .code yX2_needLiteral cX2_needLiteral 2 none, .classLink RX2 120 "java/lang/IndexOutOfBoundsException", .initialized "java/lang/IndexOutOfBoundsException", .fieldLink RX2 169 "SweepEqual$Nodes" "count" "I", .methodLink RX2 100 yX1_firstOf, .instanceMethod yX1_firstOf, .selects RX1 yX1_firstOf yX1_firstOf, .initialized RX1, .code yX1_firstOf cX1_firstOf 2 (some .int), .fieldLink RX1 19 "SweepEqual$Nodes" "firsts" "[I"] ++ wsX20 ++ wsX10 ++ (vx_atS RX2 124 "java/lang/IndexOutOfBoundsException" ["java/lang/RuntimeException", "java/lang/Exception"]).filter goodWord)
def wsX2_classes : List Cond := .code yX2_classes cX2_classes 1 (some .int) :: ([.fieldLink RX2 12 "SweepEqual" "nodes" "LSweepEqual$Nodes;", .methodLink RX2 103 yX1_countClasses, .instanceMethod yX1_countClasses, .selects RX1 yX1_countClasses yX1_countClasses, .initialized RX1, .code yX1_countClasses cX1_countClasses 3 (some .int), .fieldLink RX1 11 "SweepEqual$Nodes" "count" "I", .methodLink RX1 43 yX1_isLeast, .instanceMethod yX1_isLeast, .selects RX1 yX1_isLeast yX1_isLeast, .code yX1_isLeast cX1_isLeast 2 (some .boolean), .fieldLink RX1 19 "SweepEqual$Nodes" "firsts" "[I"] ++ wsX20 ++ wsX10)
def wsX2_merged : List Cond := .code yX2_merged cX2_merged 2 (some .int) :: ([.fieldLink RX2 12 "SweepEqual" "nodes" "LSweepEqual$Nodes;", .methodLink RX2 63 yX2_needSide, .instanceMethod yX2_needSide, .selects RX2 yX2_needSide yX2_needSide, .initialized RX2, .code yX2_needSide cX2_needSide 2 none, .classLink RX2 120 "java/lang/IndexOutOfBoundsException", .initialized "java/lang/IndexOutOfBoundsException", .methodLink RX2 107 yX1_countMerged, .instanceMethod yX1_countMerged, .selects RX1 yX1_countMerged yX1_countMerged, .initialized RX1, .code yX1_countMerged cX1_countMerged 4 (some .int), .fieldLink RX1 11 "SweepEqual$Nodes" "count" "I", .fieldLink RX1 15 "SweepEqual$Nodes" "owners" "[I", .methodLink RX1 43 yX1_isLeast, .instanceMethod yX1_isLeast, .selects RX1 yX1_isLeast yX1_isLeast, .code yX1_isLeast cX1_isLeast 2 (some .boolean), .fieldLink RX1 19 "SweepEqual$Nodes" "firsts" "[I"] ++ wsX20 ++ wsX10 ++ (vx_atS RX2 124 "java/lang/IndexOutOfBoundsException" ["java/lang/RuntimeException", "java/lang/Exception"]).filter goodWord)
def wsX2_hangs_r1 : List Cond := [Cond.fieldLink RX2 12 "SweepEqual" "nodes" "LSweepEqual$Nodes;", Cond.methodLink RX2 66 yX2_needLiteral, Cond.instanceMethod yX2_needLiteral, Cond.selects RX2 yX2_needLiteral yX2_needLiteral, Cond.initialized RX2, Cond.code yX2_needLiteral cX2_needLiteral 2 none, Cond.classLink RX2 120 "java/lang/IndexOutOfBoundsException", Cond.initialized "java/lang/IndexOutOfBoundsException", Cond.fieldLink RX2 169 "SweepEqual$Nodes" "count" "I", Cond.methodLink RX2 110 yX1_supportOf, Cond.instanceMethod yX1_supportOf, Cond.selects RX1 yX1_supportOf yX1_supportOf, Cond.initialized RX1, Cond.code yX1_supportOf cX1_supportOf 4 (some .int), Cond.methodLink RX1 53 yX1_hangsOn, Cond.instanceMethod yX1_hangsOn, Cond.selects RX1 yX1_hangsOn yX1_hangsOn, Cond.code yX1_hangsOn cX1_hangsOn 4 (some .boolean), Cond.methodLink RX1 81 yX1_wordHangsOn, Cond.instanceMethod yX1_wordHangsOn, Cond.selects RX1 yX1_wordHangsOn yX1_wordHangsOn, Cond.code yX1_wordHangsOn cX1_wordHangsOn 8 (some .boolean), Cond.fieldLink RX1 85 "SweepEqual$Nodes" "WORD_PATTERNS" "[J", Cond.constantLong RX1 88 (-1)]
def wsX2_hangs_r2 : List Cond := [Cond.methodLink RX1 37 yX1_wordOf, Cond.instanceMethod yX1_wordOf, Cond.selects RX1 yX1_wordOf yX1_wordOf, Cond.code yX1_wordOf cX1_wordOf 5 (some .long), Cond.fieldLink RX1 22 "SweepEqual$Nodes" "rows" "[J"]
def wsX2_hangs : List Cond := .code yX2_hangs cX2_hangs 2 (some .int) :: ((wsX2_hangs_r1 ++ wsX2_hangs_r2) ++ wsX20 ++ wsX10 ++ (vx_atS RX2 124 "java/lang/IndexOutOfBoundsException" ["java/lang/RuntimeException", "java/lang/Exception"]).filter goodWord)
def wsX2_ones_r1 : List Cond := [Cond.fieldLink RX2 12 "SweepEqual" "nodes" "LSweepEqual$Nodes;", Cond.fieldLink RX2 30 "SweepEqual" "inputCount" "I", Cond.fieldLink RX2 47 "SweepEqual" "latchCount" "I", Cond.methodLink RX2 66 yX2_needLiteral, Cond.instanceMethod yX2_needLiteral, Cond.selects RX2 yX2_needLiteral yX2_needLiteral, Cond.initialized RX2, Cond.code yX2_needLiteral cX2_needLiteral 2 none, Cond.classLink RX2 120 "java/lang/IndexOutOfBoundsException", Cond.initialized "java/lang/IndexOutOfBoundsException", Cond.fieldLink RX2 169 "SweepEqual$Nodes" "count" "I", Cond.methodLink RX2 113 yX1_countOnes, Cond.instanceMethod yX1_countOnes, Cond.selects RX1 yX1_countOnes yX1_countOnes, Cond.initialized RX1, Cond.code yX1_countOnes cX1_countOnes 4 (some .int), Cond.methodLink RX1 37 yX1_wordOf, Cond.instanceMethod yX1_wordOf, Cond.selects RX1 yX1_wordOf yX1_wordOf, Cond.code yX1_wordOf cX1_wordOf 5 (some .long), Cond.fieldLink RX1 22 "SweepEqual$Nodes" "rows" "[J", Cond.constantLong RX1 88 (-1), Cond.methodLink RX1 47 yJ13_bitCount_95d88, Cond.static yJ13_bitCount_95d88]
def wsX2_ones_r2 : List Cond := [Cond.initialized RJ13, Cond.code yJ13_bitCount_95d88 cJ13_bitCount_95d88 2 (some .int), Cond.constantLong RJ13 314 (6148914691236517205), Cond.constantLong RJ13 316 (3689348814741910323), Cond.constantLong RJ13 318 (1085102592571150095)]
def wsX2_ones : List Cond := .code yX2_ones cX2_ones 2 (some .int) :: ((wsX2_ones_r1 ++ wsX2_ones_r2) ++ wsX20 ++ wsX10 ++ (vx_atS RX2 124 "java/lang/IndexOutOfBoundsException" ["java/lang/RuntimeException", "java/lang/Exception"]).filter goodWord)
def wsX2_value : List Cond := .code yX2_value cX2_value 3 (some .int) :: ([.fieldLink RX2 12 "SweepEqual" "nodes" "LSweepEqual$Nodes;", .methodLink RX2 66 yX2_needLiteral, .instanceMethod yX2_needLiteral, .selects RX2 yX2_needLiteral yX2_needLiteral, .initialized RX2, .code yX2_needLiteral cX2_needLiteral 2 none, .classLink RX2 120 "java/lang/IndexOutOfBoundsException", .initialized "java/lang/IndexOutOfBoundsException", .fieldLink RX2 169 "SweepEqual$Nodes" "count" "I", .methodLink RX2 116 yX1_valueIn, .instanceMethod yX1_valueIn, .selects RX1 yX1_valueIn yX1_valueIn, .initialized RX1, .code yX1_valueIn cX1_valueIn 4 (some .int), .methodLink RX1 37 yX1_wordOf, .instanceMethod yX1_wordOf, .selects RX1 yX1_wordOf yX1_wordOf, .code yX1_wordOf cX1_wordOf 5 (some .long), .fieldLink RX1 22 "SweepEqual$Nodes" "rows" "[J", .constantLong RX1 88 (-1)] ++ wsX20 ++ wsX10 ++ (vx_atS RX2 124 "java/lang/IndexOutOfBoundsException" ["java/lang/RuntimeException", "java/lang/Exception"]).filter goodWord)
def wsX2_sharedOutputs : List Cond := .code yX2_sharedOutputs cX2_sharedOutputs 1 (some .int) :: ([.fieldLink RX2 19 "SweepEqual" "designA" "LSweepEqual$Design;", .fieldLink RX2 81 "SweepEqual$Design" "outputCount" "I", .fieldLink RX2 23 "SweepEqual" "designB" "LSweepEqual$Design;", .methodLink RX2 200 Lib.Math.min.name, .static Lib.Math.min.name, .initialized "java/lang/Math", .code Lib.Math.min.name Lib.Math.min.code 2 (some .int)] ++ wsX20 ++ wsX00)
def wsX2_countDifferent : List Cond := .code yX2_countDifferent cX2_countDifferent 6 (some .int) :: ([.fieldLink RX2 12 "SweepEqual" "nodes" "LSweepEqual$Nodes;", .methodLink RX2 96 yX1_areSame, .instanceMethod yX1_areSame, .selects RX1 yX1_areSame yX1_areSame, .initialized RX1, .code yX1_areSame cX1_areSame 3 (some .boolean), .methodLink RX1 40 yX1_firstOf, .instanceMethod yX1_firstOf, .selects RX1 yX1_firstOf yX1_firstOf, .code yX1_firstOf cX1_firstOf 2 (some .int), .fieldLink RX1 19 "SweepEqual$Nodes" "firsts" "[I"] ++ wsX20 ++ wsX10)
def wsX2_placeOfDifferent : List Cond := .code yX2_placeOfDifferent cX2_placeOfDifferent 7 (some .int) :: ([.fieldLink RX2 12 "SweepEqual" "nodes" "LSweepEqual$Nodes;", .methodLink RX2 96 yX1_areSame, .instanceMethod yX1_areSame, .selects RX1 yX1_areSame yX1_areSame, .initialized RX1, .code yX1_areSame cX1_areSame 3 (some .boolean), .methodLink RX1 40 yX1_firstOf, .instanceMethod yX1_firstOf, .selects RX1 yX1_firstOf yX1_firstOf, .code yX1_firstOf cX1_firstOf 2 (some .int), .fieldLink RX1 19 "SweepEqual$Nodes" "firsts" "[I"] ++ wsX20 ++ wsX10)
def wsX2_differentStartOrSize : List Cond := .code yX2_differentStartOrSize cX2_differentStartOrSize 5 (some .int) :: ([.fieldLink RX2 19 "SweepEqual" "designA" "LSweepEqual$Design;", .fieldLink RX2 205 "SweepEqual$Design" "starts" "I", .fieldLink RX2 23 "SweepEqual" "designB" "LSweepEqual$Design;", .fieldLink RX2 47 "SweepEqual" "latchCount" "I", .fieldLink RX2 81 "SweepEqual$Design" "outputCount" "I"] ++ wsX20 ++ wsX00)
def wsX2_differs_r1 : List Cond := [Cond.classLink RX2 120 "java/lang/IndexOutOfBoundsException", Cond.initialized "java/lang/IndexOutOfBoundsException", Cond.fieldLink RX2 19 "SweepEqual" "designA" "LSweepEqual$Design;", Cond.fieldLink RX2 128 "SweepEqual$Design" "outputs" "[I", Cond.fieldLink RX2 23 "SweepEqual" "designB" "LSweepEqual$Design;", Cond.fieldLink RX2 92 "SweepEqual$Design" "nexts" "[I", Cond.fieldLink RX2 47 "SweepEqual" "latchCount" "I", Cond.methodLink RX2 125 yX2_sharedOutputs, Cond.instanceMethod yX2_sharedOutputs, Cond.selects RX2 yX2_sharedOutputs yX2_sharedOutputs, Cond.initialized RX2, Cond.code yX2_sharedOutputs cX2_sharedOutputs 1 (some .int), Cond.fieldLink RX2 81 "SweepEqual$Design" "outputCount" "I", Cond.methodLink RX2 200 Lib.Math.min.name, Cond.static Lib.Math.min.name, Cond.initialized "java/lang/Math", Cond.code Lib.Math.min.name Lib.Math.min.code 2 (some .int), Cond.methodLink RX2 131 yX2_countDifferent, Cond.instanceMethod yX2_countDifferent, Cond.selects RX2 yX2_countDifferent yX2_countDifferent, Cond.code yX2_countDifferent cX2_countDifferent 6 (some .int), Cond.fieldLink RX2 12 "SweepEqual" "nodes" "LSweepEqual$Nodes;", Cond.methodLink RX2 96 yX1_areSame, Cond.instanceMethod yX1_areSame]
def wsX2_differs_r2 : List Cond := [Cond.selects RX1 yX1_areSame yX1_areSame, Cond.initialized RX1, Cond.code yX1_areSame cX1_areSame 3 (some .boolean), Cond.methodLink RX1 40 yX1_firstOf, Cond.instanceMethod yX1_firstOf, Cond.selects RX1 yX1_firstOf yX1_firstOf, Cond.code yX1_firstOf cX1_firstOf 2 (some .int), Cond.fieldLink RX1 19 "SweepEqual$Nodes" "firsts" "[I", Cond.methodLink RX2 135 yX2_placeOfDifferent, Cond.instanceMethod yX2_placeOfDifferent, Cond.selects RX2 yX2_placeOfDifferent yX2_placeOfDifferent, Cond.code yX2_placeOfDifferent cX2_placeOfDifferent 7 (some .int), Cond.methodLink RX2 139 yX2_differentStartOrSize, Cond.instanceMethod yX2_differentStartOrSize, Cond.selects RX2 yX2_differentStartOrSize yX2_differentStartOrSize, Cond.code yX2_differentStartOrSize cX2_differentStartOrSize 5 (some .int), Cond.fieldLink RX2 205 "SweepEqual$Design" "starts" "I"]
def wsX2_differs : List Cond := .code yX2_differs cX2_differs 5 (some .int) :: ((wsX2_differs_r1 ++ wsX2_differs_r2) ++ wsX20 ++ wsX00 ++ wsX10 ++ (vx_atS RX2 124 "java/lang/IndexOutOfBoundsException" ["java/lang/RuntimeException", "java/lang/Exception"]).filter goodWord)
def wsX2_witness_r1 : List Cond := [Cond.classLink RX2 120 "java/lang/IndexOutOfBoundsException", Cond.initialized "java/lang/IndexOutOfBoundsException", Cond.fieldLink RX2 12 "SweepEqual" "nodes" "LSweepEqual$Nodes;", Cond.fieldLink RX2 19 "SweepEqual" "designA" "LSweepEqual$Design;", Cond.fieldLink RX2 128 "SweepEqual$Design" "outputs" "[I", Cond.fieldLink RX2 23 "SweepEqual" "designB" "LSweepEqual$Design;", Cond.fieldLink RX2 47 "SweepEqual" "latchCount" "I", Cond.fieldLink RX2 92 "SweepEqual$Design" "nexts" "[I", Cond.methodLink RX2 125 yX2_sharedOutputs, Cond.instanceMethod yX2_sharedOutputs, Cond.selects RX2 yX2_sharedOutputs yX2_sharedOutputs, Cond.initialized RX2, Cond.code yX2_sharedOutputs cX2_sharedOutputs 1 (some .int), Cond.fieldLink RX2 81 "SweepEqual$Design" "outputCount" "I", Cond.methodLink RX2 200 Lib.Math.min.name, Cond.static Lib.Math.min.name, Cond.initialized "java/lang/Math", Cond.code Lib.Math.min.name Lib.Math.min.code 2 (some .int), Cond.methodLink RX2 142 yX1_leastDifference, Cond.instanceMethod yX1_leastDifference, Cond.selects RX1 yX1_leastDifference yX1_leastDifference, Cond.initialized RX1, Cond.code yX1_leastDifference cX1_leastDifference 6 (some .int), Cond.methodLink RX1 37 yX1_wordOf]
def wsX2_witness_r2 : List Cond := [Cond.instanceMethod yX1_wordOf, Cond.selects RX1 yX1_wordOf yX1_wordOf, Cond.code yX1_wordOf cX1_wordOf 5 (some .long), Cond.fieldLink RX1 22 "SweepEqual$Nodes" "rows" "[J", Cond.constantLong RX1 88 (-1), Cond.methodLink RX1 57 yJ13_numberOfTrailingZeros_95d88, Cond.static yJ13_numberOfTrailingZeros_95d88, Cond.initialized RJ13, Cond.code yJ13_numberOfTrailingZeros_95d88 cJ13_numberOfTrailingZeros_95d88 3 (some .int), Cond.methodLink RJ13 311 yJ6_numberOfTrailingZeros_0f7a4, Cond.static yJ6_numberOfTrailingZeros_0f7a4, Cond.initialized RJ6, Cond.code yJ6_numberOfTrailingZeros_0f7a4 cJ6_numberOfTrailingZeros_0f7a4 2 (some .int), Cond.constant RJ6 264 (65536)]
def wsX2_witness : List Cond := .code yX2_witness cX2_witness 3 (some .int) :: ((wsX2_witness_r1 ++ wsX2_witness_r2) ++ wsX20 ++ wsX00 ++ wsX10 ++ (vx_atS RX2 124 "java/lang/IndexOutOfBoundsException" ["java/lang/RuntimeException", "java/lang/Exception"]).filter goodWord)
def wsX2_reset : List Cond := .code yX2_reset cX2_reset 1 none :: ([.methodLink RX2 60 yX2_backToStarts, .instanceMethod yX2_backToStarts, .selects RX2 yX2_backToStarts yX2_backToStarts, .initialized RX2, .code yX2_backToStarts cX2_backToStarts 1 none, .fieldLink RX2 19 "SweepEqual" "designA" "LSweepEqual$Design;", .fieldLink RX2 23 "SweepEqual" "designB" "LSweepEqual$Design;", .fieldLink RX2 155 "SweepEqual" "steps" "I", .fieldLink RX2 26 "SweepEqual" "apartStep" "I", .methodLink RX2 199 yX0_backToStarts, .instanceMethod yX0_backToStarts, .selects RX0 yX0_backToStarts yX0_backToStarts, .initialized RX0, .code yX0_backToStarts cX0_backToStarts 1 none, .fieldLink RX0 25 "SweepEqual$Design" "starts" "I", .fieldLink RX0 28 "SweepEqual$Design" "states" "I", .fieldLink RX0 31 "SweepEqual$Design" "shownCount" "I"] ++ wsX20 ++ wsX00)
def wsX2_showApart : List Cond := .code yX2_showApart cX2_showApart 3 (some .boolean) :: ([.fieldLink RX2 19 "SweepEqual" "designA" "LSweepEqual$Design;", .fieldLink RX2 160 "SweepEqual$Design" "shownCount" "I", .fieldLink RX2 23 "SweepEqual" "designB" "LSweepEqual$Design;", .methodLink RX2 200 Lib.Math.min.name, .static Lib.Math.min.name, .initialized "java/lang/Math", .code Lib.Math.min.name Lib.Math.min.code 2 (some .int), .fieldLink RX2 163 "SweepEqual$Design" "shown" "[I"] ++ wsX20 ++ wsX00)
def wsX2_step_r1 : List Cond := [Cond.fieldLink RX2 19 "SweepEqual" "designA" "LSweepEqual$Design;", Cond.fieldLink RX2 12 "SweepEqual" "nodes" "LSweepEqual$Nodes;", Cond.fieldLink RX2 47 "SweepEqual" "latchCount" "I", Cond.fieldLink RX2 23 "SweepEqual" "designB" "LSweepEqual$Design;", Cond.fieldLink RX2 26 "SweepEqual" "apartStep" "I", Cond.fieldLink RX2 155 "SweepEqual" "steps" "I", Cond.methodLink RX2 147 yX0_runStep, Cond.instanceMethod yX0_runStep, Cond.selects RX0 yX0_runStep yX0_runStep, Cond.initialized RX0, Cond.code yX0_runStep cX0_runStep 7 none, Cond.fieldLink RX0 28 "SweepEqual$Design" "states" "I", Cond.fieldLink RX0 21 "SweepEqual$Design" "outputCount" "I", Cond.fieldLink RX0 18 "SweepEqual$Design" "shown" "[I", Cond.fieldLink RX0 9 "SweepEqual$Design" "outputs" "[I", Cond.fieldLink RX0 31 "SweepEqual$Design" "shownCount" "I", Cond.fieldLink RX0 15 "SweepEqual$Design" "nexts" "[I", Cond.methodLink RX0 34 yX1_valueIn, Cond.instanceMethod yX1_valueIn, Cond.selects RX1 yX1_valueIn yX1_valueIn, Cond.initialized RX1, Cond.code yX1_valueIn cX1_valueIn 4 (some .int), Cond.methodLink RX1 37 yX1_wordOf, Cond.instanceMethod yX1_wordOf]
def wsX2_step_r2 : List Cond := [Cond.selects RX1 yX1_wordOf yX1_wordOf, Cond.code yX1_wordOf cX1_wordOf 5 (some .long), Cond.fieldLink RX1 22 "SweepEqual$Nodes" "rows" "[J", Cond.constantLong RX1 88 (-1), Cond.methodLink RX2 151 yX2_showApart, Cond.instanceMethod yX2_showApart, Cond.selects RX2 yX2_showApart yX2_showApart, Cond.initialized RX2, Cond.code yX2_showApart cX2_showApart 3 (some .boolean), Cond.fieldLink RX2 160 "SweepEqual$Design" "shownCount" "I", Cond.methodLink RX2 200 Lib.Math.min.name, Cond.static Lib.Math.min.name, Cond.initialized "java/lang/Math", Cond.code Lib.Math.min.name Lib.Math.min.code 2 (some .int), Cond.fieldLink RX2 163 "SweepEqual$Design" "shown" "[I"]
def wsX2_step : List Cond := .code yX2_step cX2_step 2 (some .int) :: ((wsX2_step_r1 ++ wsX2_step_r2) ++ wsX20 ++ wsX00 ++ wsX10)
def wsX2_out : List Cond := .code yX2_out cX2_out 4 (some .int) :: ([.classLink RX2 120 "java/lang/IndexOutOfBoundsException", .initialized "java/lang/IndexOutOfBoundsException", .fieldLink RX2 81 "SweepEqual$Design" "outputCount" "I", .fieldLink RX2 160 "SweepEqual$Design" "shownCount" "I", .fieldLink RX2 163 "SweepEqual$Design" "shown" "[I", .methodLink RX2 63 yX2_needSide, .instanceMethod yX2_needSide, .selects RX2 yX2_needSide yX2_needSide, .initialized RX2, .code yX2_needSide cX2_needSide 2 none, .methodLink RX2 77 yX2_designOf, .instanceMethod yX2_designOf, .selects RX2 yX2_designOf yX2_designOf, .code yX2_designOf cX2_designOf 2 (some (.object "SweepEqual$Design")), .fieldLink RX2 19 "SweepEqual" "designA" "LSweepEqual$Design;", .fieldLink RX2 23 "SweepEqual" "designB" "LSweepEqual$Design;"] ++ wsX00 ++ wsX20 ++ (vx_atS RX2 124 "java/lang/IndexOutOfBoundsException" ["java/lang/RuntimeException", "java/lang/Exception"]).filter goodWord)
def wsX2_state : List Cond := .code yX2_state cX2_state 3 (some .int) :: ([.fieldLink RX2 166 "SweepEqual$Design" "states" "I", .methodLink RX2 63 yX2_needSide, .instanceMethod yX2_needSide, .selects RX2 yX2_needSide yX2_needSide, .initialized RX2, .code yX2_needSide cX2_needSide 2 none, .classLink RX2 120 "java/lang/IndexOutOfBoundsException", .initialized "java/lang/IndexOutOfBoundsException", .methodLink RX2 89 yX2_needLatch, .instanceMethod yX2_needLatch, .selects RX2 yX2_needLatch yX2_needLatch, .code yX2_needLatch cX2_needLatch 2 none, .fieldLink RX2 47 "SweepEqual" "latchCount" "I", .methodLink RX2 77 yX2_designOf, .instanceMethod yX2_designOf, .selects RX2 yX2_designOf yX2_designOf, .code yX2_designOf cX2_designOf 2 (some (.object "SweepEqual$Design")), .fieldLink RX2 19 "SweepEqual" "designA" "LSweepEqual$Design;", .fieldLink RX2 23 "SweepEqual" "designB" "LSweepEqual$Design;"] ++ wsX00 ++ wsX20 ++ (vx_atS RX2 124 "java/lang/IndexOutOfBoundsException" ["java/lang/RuntimeException", "java/lang/Exception"]).filter goodWord)
def wsX2_apart : List Cond := .code yX2_apart cX2_apart 1 (some .int) :: ([.fieldLink RX2 26 "SweepEqual" "apartStep" "I"] ++ wsX20)
def wsX2_count : List Cond := .code yX2_count cX2_count 2 (some .int) :: ([.classLink RX2 120 "java/lang/IndexOutOfBoundsException", .initialized "java/lang/IndexOutOfBoundsException", .fieldLink RX2 12 "SweepEqual" "nodes" "LSweepEqual$Nodes;", .fieldLink RX2 169 "SweepEqual$Nodes" "count" "I", .fieldLink RX2 30 "SweepEqual" "inputCount" "I", .fieldLink RX2 47 "SweepEqual" "latchCount" "I", .fieldLink RX2 19 "SweepEqual" "designA" "LSweepEqual$Design;", .fieldLink RX2 81 "SweepEqual$Design" "outputCount" "I", .fieldLink RX2 23 "SweepEqual" "designB" "LSweepEqual$Design;", .methodLink RX2 172 yX1_countAnds, .instanceMethod yX1_countAnds, .selects RX1 yX1_countAnds yX1_countAnds, .initialized RX1, .code yX1_countAnds cX1_countAnds 4 (some .int), .fieldLink RX1 11 "SweepEqual$Nodes" "count" "I", .fieldLink RX1 15 "SweepEqual$Nodes" "owners" "[I"] ++ wsX20 ++ wsX10 ++ wsX00 ++ (vx_atS RX2 124 "java/lang/IndexOutOfBoundsException" ["java/lang/RuntimeException", "java/lang/Exception"]).filter goodWord)
def wsX2_clear_r1 : List Cond := [Cond.fieldLink RX2 12 "SweepEqual" "nodes" "LSweepEqual$Nodes;", Cond.fieldLink RX2 19 "SweepEqual" "designA" "LSweepEqual$Design;", Cond.fieldLink RX2 23 "SweepEqual" "designB" "LSweepEqual$Design;", Cond.fieldLink RX2 30 "SweepEqual" "inputCount" "I", Cond.fieldLink RX2 47 "SweepEqual" "latchCount" "I", Cond.methodLink RX2 177 yX1_forget, Cond.instanceMethod yX1_forget, Cond.selects RX1 yX1_forget yX1_forget, Cond.initialized RX1, Cond.code yX1_forget cX1_forget 1 none, Cond.fieldLink RX1 11 "SweepEqual$Nodes" "count" "I", Cond.methodLink RX2 180 yX0_forget, Cond.instanceMethod yX0_forget, Cond.selects RX0 yX0_forget yX0_forget, Cond.initialized RX0, Cond.code yX0_forget cX0_forget 1 none, Cond.fieldLink RX0 21 "SweepEqual$Design" "outputCount" "I", Cond.fieldLink RX0 25 "SweepEqual$Design" "starts" "I", Cond.methodLink RX2 60 yX2_backToStarts, Cond.instanceMethod yX2_backToStarts, Cond.selects RX2 yX2_backToStarts yX2_backToStarts, Cond.initialized RX2, Cond.code yX2_backToStarts cX2_backToStarts 1 none, Cond.fieldLink RX2 155 "SweepEqual" "steps" "I"]
def wsX2_clear_r2 : List Cond := [Cond.fieldLink RX2 26 "SweepEqual" "apartStep" "I", Cond.methodLink RX2 199 yX0_backToStarts, Cond.instanceMethod yX0_backToStarts, Cond.selects RX0 yX0_backToStarts yX0_backToStarts, Cond.code yX0_backToStarts cX0_backToStarts 1 none, Cond.fieldLink RX0 28 "SweepEqual$Design" "states" "I", Cond.fieldLink RX0 31 "SweepEqual$Design" "shownCount" "I"]
def wsX2_clear : List Cond := .code yX2_clear cX2_clear 1 none :: ((wsX2_clear_r1 ++ wsX2_clear_r2) ++ wsX20 ++ wsX10 ++ wsX00)
def wsX3_start : List Cond := .code yX3_start cX3_start 2 none :: ([.fieldLink RX3 26 "SweepEqualModel" "states" "[I", .fieldLink RX3 20 "SweepEqualModel" "starts" "[I", .fieldLink RX3 103 "SweepEqualModel" "steps" "I", .fieldLink RX3 106 "SweepEqualModel" "firstApart" "I", .fieldLink RX3 38 "SweepEqualModel" "toldCounts" "[I"] ++ wsX30)
def wsX3_clear : List Cond := .code yX3_clear cX3_clear 2 none :: ([.fieldLink RX3 44 "SweepEqualModel" "thrown" "I", .fieldLink RX3 48 "SweepEqualModel" "nodes" "I", .fieldLink RX3 7 "SweepEqualModel" "sides" "[I", .fieldLink RX3 13 "SweepEqualModel" "tables" "[J", .fieldLink RX3 51 "SweepEqualModel" "inputs" "I", .fieldLink RX3 54 "SweepEqualModel" "latches" "I", .fieldLink RX3 29 "SweepEqualModel" "outputCounts" "[I", .methodLink RX3 65 yX3_start, .instanceMethod yX3_start, .selects RX3 yX3_start yX3_start, .initialized RX3, .code yX3_start cX3_start 2 none, .fieldLink RX3 26 "SweepEqualModel" "states" "[I", .fieldLink RX3 20 "SweepEqualModel" "starts" "[I", .fieldLink RX3 103 "SweepEqualModel" "steps" "I", .fieldLink RX3 106 "SweepEqualModel" "firstApart" "I", .fieldLink RX3 38 "SweepEqualModel" "toldCounts" "[I"] ++ wsX30)
def wsX3_init_r1 : List Cond := [Cond.methodLink RX3 1 objectInit, Cond.instanceMethod objectInit, Cond.code objectInit ⟨#[0xb1]⟩ 1 none, Cond.arrayClass .int, Cond.fieldLink RX3 7 "SweepEqualModel" "sides" "[I", Cond.arrayClass .long, Cond.fieldLink RX3 13 "SweepEqualModel" "tables" "[J", Cond.fieldLink RX3 17 "SweepEqualModel" "latchNodes" "[I", Cond.fieldLink RX3 20 "SweepEqualModel" "starts" "[I", Cond.fieldLink RX3 23 "SweepEqualModel" "nexts" "[I", Cond.fieldLink RX3 26 "SweepEqualModel" "states" "[I", Cond.fieldLink RX3 29 "SweepEqualModel" "outputCounts" "[I", Cond.fieldLink RX3 32 "SweepEqualModel" "outputs" "[I", Cond.fieldLink RX3 35 "SweepEqualModel" "told" "[I", Cond.fieldLink RX3 38 "SweepEqualModel" "toldCounts" "[I", Cond.methodLink RX3 41 yX3_clear, Cond.instanceMethod yX3_clear, Cond.selects RX3 yX3_clear yX3_clear, Cond.initialized RX3, Cond.code yX3_clear cX3_clear 2 none, Cond.fieldLink RX3 44 "SweepEqualModel" "thrown" "I", Cond.fieldLink RX3 48 "SweepEqualModel" "nodes" "I", Cond.fieldLink RX3 51 "SweepEqualModel" "inputs" "I", Cond.fieldLink RX3 54 "SweepEqualModel" "latches" "I"]
def wsX3_init_r2 : List Cond := [Cond.methodLink RX3 65 yX3_start, Cond.instanceMethod yX3_start, Cond.selects RX3 yX3_start yX3_start, Cond.code yX3_start cX3_start 2 none, Cond.fieldLink RX3 103 "SweepEqualModel" "steps" "I", Cond.fieldLink RX3 106 "SweepEqualModel" "firstApart" "I"]
def wsX3_init : List Cond := .code yX3_init cX3_init 1 none :: ((wsX3_init_r1 ++ wsX3_init_r2) ++ wsX30)
def wsX3_thrown : List Cond := .code yX3_thrown cX3_thrown 1 (some .int) :: ([.fieldLink RX3 44 "SweepEqualModel" "thrown" "I"] ++ wsX30)
def wsX3_isIn : List Cond := .code yX3_isIn cX3_isIn 2 (some .boolean) :: ([])
def wsX3_isLiteral : List Cond := .code yX3_isLiteral cX3_isLiteral 2 (some .boolean) :: ([.fieldLink RX3 48 "SweepEqualModel" "nodes" "I"] ++ wsX30)
def wsX3_isSide : List Cond := .code yX3_isSide cX3_isSide 1 (some .boolean) :: ([])
def wsX3_present : List Cond := .code yX3_present cX3_present 1 (some .int) :: ([.fieldLink RX3 51 "SweepEqualModel" "inputs" "I", .fieldLink RX3 54 "SweepEqualModel" "latches" "I"] ++ wsX30)
def wsX3_bit : List Cond := .code yX3_bit cX3_bit 5 (some .int) :: ([.fieldLink RX3 13 "SweepEqualModel" "tables" "[J"] ++ wsX30)
def wsX3_variable : List Cond := .code yX3_variable cX3_variable 3 (some .int) :: ([.fieldLink RX3 13 "SweepEqualModel" "tables" "[J", .fieldLink RX3 48 "SweepEqualModel" "nodes" "I", .fieldLink RX3 7 "SweepEqualModel" "sides" "[I"] ++ wsX30)
def wsX3_input : List Cond := .code yX3_input cX3_input 1 (some .int) :: ([.fieldLink RX3 51 "SweepEqualModel" "inputs" "I", .fieldLink RX3 48 "SweepEqualModel" "nodes" "I", .fieldLink RX3 44 "SweepEqualModel" "thrown" "I", .methodLink RX3 57 yX3_variable, .instanceMethod yX3_variable, .selects RX3 yX3_variable yX3_variable, .initialized RX3, .code yX3_variable cX3_variable 3 (some .int), .fieldLink RX3 13 "SweepEqualModel" "tables" "[J", .fieldLink RX3 7 "SweepEqualModel" "sides" "[I"] ++ wsX30)
def wsX3_latch : List Cond := .code yX3_latch cX3_latch 5 (some .int) :: ([.fieldLink RX3 54 "SweepEqualModel" "latches" "I", .fieldLink RX3 48 "SweepEqualModel" "nodes" "I", .fieldLink RX3 44 "SweepEqualModel" "thrown" "I", .fieldLink RX3 17 "SweepEqualModel" "latchNodes" "[I", .fieldLink RX3 20 "SweepEqualModel" "starts" "[I", .fieldLink RX3 23 "SweepEqualModel" "nexts" "[I", .methodLink RX3 61 yX3_isSide, .static yX3_isSide, .initialized RX3, .code yX3_isSide cX3_isSide 1 (some .boolean), .methodLink RX3 57 yX3_variable, .instanceMethod yX3_variable, .selects RX3 yX3_variable yX3_variable, .code yX3_variable cX3_variable 3 (some .int), .fieldLink RX3 13 "SweepEqualModel" "tables" "[J", .fieldLink RX3 7 "SweepEqualModel" "sides" "[I", .methodLink RX3 65 yX3_start, .instanceMethod yX3_start, .selects RX3 yX3_start yX3_start, .code yX3_start cX3_start 2 none, .fieldLink RX3 26 "SweepEqualModel" "states" "[I", .fieldLink RX3 103 "SweepEqualModel" "steps" "I", .fieldLink RX3 106 "SweepEqualModel" "firstApart" "I", .fieldLink RX3 38 "SweepEqualModel" "toldCounts" "[I"] ++ wsX30)
def wsX3_isOther : List Cond := .code yX3_isOther cX3_isOther 3 (some .boolean) :: ([.fieldLink RX3 7 "SweepEqualModel" "sides" "[I"] ++ wsX30)
def wsX3_and : List Cond := .code yX3_and cX3_and 10 (some .int) :: ([.fieldLink RX3 48 "SweepEqualModel" "nodes" "I", .fieldLink RX3 44 "SweepEqualModel" "thrown" "I", .constantLong RX3 75 (-1), .fieldLink RX3 13 "SweepEqualModel" "tables" "[J", .fieldLink RX3 7 "SweepEqualModel" "sides" "[I", .methodLink RX3 61 yX3_isSide, .static yX3_isSide, .initialized RX3, .code yX3_isSide cX3_isSide 1 (some .boolean), .methodLink RX3 68 yX3_isLiteral, .instanceMethod yX3_isLiteral, .selects RX3 yX3_isLiteral yX3_isLiteral, .code yX3_isLiteral cX3_isLiteral 2 (some .boolean), .methodLink RX3 71 yX3_isOther, .instanceMethod yX3_isOther, .selects RX3 yX3_isOther yX3_isOther, .code yX3_isOther cX3_isOther 3 (some .boolean)] ++ wsX30)
def wsX3_output : List Cond := .code yX3_output cX3_output 4 (some .int) :: ([.fieldLink RX3 29 "SweepEqualModel" "outputCounts" "[I", .fieldLink RX3 44 "SweepEqualModel" "thrown" "I", .fieldLink RX3 32 "SweepEqualModel" "outputs" "[I", .methodLink RX3 61 yX3_isSide, .static yX3_isSide, .initialized RX3, .code yX3_isSide cX3_isSide 1 (some .boolean), .methodLink RX3 68 yX3_isLiteral, .instanceMethod yX3_isLiteral, .selects RX3 yX3_isLiteral yX3_isLiteral, .code yX3_isLiteral cX3_isLiteral 2 (some .boolean), .fieldLink RX3 48 "SweepEqualModel" "nodes" "I", .methodLink RX3 71 yX3_isOther, .instanceMethod yX3_isOther, .selects RX3 yX3_isOther yX3_isOther, .code yX3_isOther cX3_isOther 3 (some .boolean), .fieldLink RX3 7 "SweepEqualModel" "sides" "[I"] ++ wsX30)
def wsX3_next : List Cond := .code yX3_next cX3_next 6 (some .int) :: ([.fieldLink RX3 54 "SweepEqualModel" "latches" "I", .fieldLink RX3 44 "SweepEqualModel" "thrown" "I", .fieldLink RX3 23 "SweepEqualModel" "nexts" "[I", .methodLink RX3 61 yX3_isSide, .static yX3_isSide, .initialized RX3, .code yX3_isSide cX3_isSide 1 (some .boolean), .methodLink RX3 77 yX3_isIn, .static yX3_isIn, .code yX3_isIn cX3_isIn 2 (some .boolean), .methodLink RX3 68 yX3_isLiteral, .instanceMethod yX3_isLiteral, .selects RX3 yX3_isLiteral yX3_isLiteral, .code yX3_isLiteral cX3_isLiteral 2 (some .boolean), .fieldLink RX3 48 "SweepEqualModel" "nodes" "I", .methodLink RX3 71 yX3_isOther, .instanceMethod yX3_isOther, .selects RX3 yX3_isOther yX3_isOther, .code yX3_isOther cX3_isOther 3 (some .boolean), .fieldLink RX3 7 "SweepEqualModel" "sides" "[I"] ++ wsX30)
def wsX3_areSame : List Cond := .code yX3_areSame cX3_areSame 6 (some .boolean) :: ([.constantLong RX3 75 (-1), .fieldLink RX3 13 "SweepEqualModel" "tables" "[J"] ++ wsX30)
def wsX3_same : List Cond := .code yX3_same cX3_same 3 (some .boolean) :: ([.fieldLink RX3 44 "SweepEqualModel" "thrown" "I", .methodLink RX3 68 yX3_isLiteral, .instanceMethod yX3_isLiteral, .selects RX3 yX3_isLiteral yX3_isLiteral, .initialized RX3, .code yX3_isLiteral cX3_isLiteral 2 (some .boolean), .fieldLink RX3 48 "SweepEqualModel" "nodes" "I", .methodLink RX3 80 yX3_areSame, .instanceMethod yX3_areSame, .selects RX3 yX3_areSame yX3_areSame, .code yX3_areSame cX3_areSame 6 (some .boolean), .constantLong RX3 75 (-1), .fieldLink RX3 13 "SweepEqualModel" "tables" "[J"] ++ wsX30)
def wsX3_firstOf : List Cond := .code yX3_firstOf cX3_firstOf 3 (some .int) :: ([.methodLink RX3 80 yX3_areSame, .instanceMethod yX3_areSame, .selects RX3 yX3_areSame yX3_areSame, .initialized RX3, .code yX3_areSame cX3_areSame 6 (some .boolean), .constantLong RX3 75 (-1), .fieldLink RX3 13 "SweepEqualModel" "tables" "[J"] ++ wsX30)
def wsX3_first : List Cond := .code yX3_first cX3_first 2 (some .int) :: ([.fieldLink RX3 44 "SweepEqualModel" "thrown" "I", .methodLink RX3 68 yX3_isLiteral, .instanceMethod yX3_isLiteral, .selects RX3 yX3_isLiteral yX3_isLiteral, .initialized RX3, .code yX3_isLiteral cX3_isLiteral 2 (some .boolean), .fieldLink RX3 48 "SweepEqualModel" "nodes" "I", .methodLink RX3 83 yX3_firstOf, .instanceMethod yX3_firstOf, .selects RX3 yX3_firstOf yX3_firstOf, .code yX3_firstOf cX3_firstOf 3 (some .int), .methodLink RX3 80 yX3_areSame, .instanceMethod yX3_areSame, .selects RX3 yX3_areSame yX3_areSame, .code yX3_areSame cX3_areSame 6 (some .boolean), .constantLong RX3 75 (-1), .fieldLink RX3 13 "SweepEqualModel" "tables" "[J"] ++ wsX30)
def wsX3_isLeast : List Cond := .code yX3_isLeast cX3_isLeast 3 (some .boolean) :: ([.methodLink RX3 80 yX3_areSame, .instanceMethod yX3_areSame, .selects RX3 yX3_areSame yX3_areSame, .initialized RX3, .code yX3_areSame cX3_areSame 6 (some .boolean), .constantLong RX3 75 (-1), .fieldLink RX3 13 "SweepEqualModel" "tables" "[J"] ++ wsX30)
def wsX3_classes : List Cond := .code yX3_classes cX3_classes 3 (some .int) :: ([.fieldLink RX3 44 "SweepEqualModel" "thrown" "I", .fieldLink RX3 48 "SweepEqualModel" "nodes" "I", .methodLink RX3 86 yX3_isLeast, .instanceMethod yX3_isLeast, .selects RX3 yX3_isLeast yX3_isLeast, .initialized RX3, .code yX3_isLeast cX3_isLeast 3 (some .boolean), .methodLink RX3 80 yX3_areSame, .instanceMethod yX3_areSame, .selects RX3 yX3_areSame yX3_areSame, .code yX3_areSame cX3_areSame 6 (some .boolean), .constantLong RX3 75 (-1), .fieldLink RX3 13 "SweepEqualModel" "tables" "[J"] ++ wsX30)
def wsX3_merged : List Cond := .code yX3_merged cX3_merged 4 (some .int) :: ([.fieldLink RX3 44 "SweepEqualModel" "thrown" "I", .fieldLink RX3 48 "SweepEqualModel" "nodes" "I", .fieldLink RX3 7 "SweepEqualModel" "sides" "[I", .methodLink RX3 61 yX3_isSide, .static yX3_isSide, .initialized RX3, .code yX3_isSide cX3_isSide 1 (some .boolean), .methodLink RX3 86 yX3_isLeast, .instanceMethod yX3_isLeast, .selects RX3 yX3_isLeast yX3_isLeast, .code yX3_isLeast cX3_isLeast 3 (some .boolean), .methodLink RX3 80 yX3_areSame, .instanceMethod yX3_areSame, .selects RX3 yX3_areSame yX3_areSame, .code yX3_areSame cX3_areSame 6 (some .boolean), .constantLong RX3 75 (-1), .fieldLink RX3 13 "SweepEqualModel" "tables" "[J"] ++ wsX30)
def wsX3_hangs : List Cond := .code yX3_hangs cX3_hangs 5 (some .int) :: ([.fieldLink RX3 44 "SweepEqualModel" "thrown" "I", .methodLink RX3 68 yX3_isLiteral, .instanceMethod yX3_isLiteral, .selects RX3 yX3_isLiteral yX3_isLiteral, .initialized RX3, .code yX3_isLiteral cX3_isLiteral 2 (some .boolean), .fieldLink RX3 48 "SweepEqualModel" "nodes" "I", .methodLink RX3 89 yX3_bit, .instanceMethod yX3_bit, .selects RX3 yX3_bit yX3_bit, .code yX3_bit cX3_bit 5 (some .int), .fieldLink RX3 13 "SweepEqualModel" "tables" "[J"] ++ wsX30)
def wsX3_ones : List Cond := .code yX3_ones cX3_ones 4 (some .int) :: ([.fieldLink RX3 44 "SweepEqualModel" "thrown" "I", .methodLink RX3 68 yX3_isLiteral, .instanceMethod yX3_isLiteral, .selects RX3 yX3_isLiteral yX3_isLiteral, .initialized RX3, .code yX3_isLiteral cX3_isLiteral 2 (some .boolean), .fieldLink RX3 48 "SweepEqualModel" "nodes" "I", .methodLink RX3 93 yX3_present, .instanceMethod yX3_present, .selects RX3 yX3_present yX3_present, .code yX3_present cX3_present 1 (some .int), .fieldLink RX3 51 "SweepEqualModel" "inputs" "I", .fieldLink RX3 54 "SweepEqualModel" "latches" "I", .methodLink RX3 89 yX3_bit, .instanceMethod yX3_bit, .selects RX3 yX3_bit yX3_bit, .code yX3_bit cX3_bit 5 (some .int), .fieldLink RX3 13 "SweepEqualModel" "tables" "[J"] ++ wsX30)
def wsX3_value : List Cond := .code yX3_value cX3_value 3 (some .int) :: ([.fieldLink RX3 44 "SweepEqualModel" "thrown" "I", .methodLink RX3 68 yX3_isLiteral, .instanceMethod yX3_isLiteral, .selects RX3 yX3_isLiteral yX3_isLiteral, .initialized RX3, .code yX3_isLiteral cX3_isLiteral 2 (some .boolean), .fieldLink RX3 48 "SweepEqualModel" "nodes" "I", .methodLink RX3 93 yX3_present, .instanceMethod yX3_present, .selects RX3 yX3_present yX3_present, .code yX3_present cX3_present 1 (some .int), .fieldLink RX3 51 "SweepEqualModel" "inputs" "I", .fieldLink RX3 54 "SweepEqualModel" "latches" "I", .methodLink RX3 89 yX3_bit, .instanceMethod yX3_bit, .selects RX3 yX3_bit yX3_bit, .code yX3_bit cX3_bit 5 (some .int), .fieldLink RX3 13 "SweepEqualModel" "tables" "[J"] ++ wsX30)
def wsX3_both : List Cond := .code yX3_both cX3_both 1 (some .int) :: ([.fieldLink RX3 29 "SweepEqualModel" "outputCounts" "[I"] ++ wsX30)
def wsX3_isApart : List Cond := .code yX3_isApart cX3_isApart 2 (some .boolean) :: ([.fieldLink RX3 32 "SweepEqualModel" "outputs" "[I", .fieldLink RX3 54 "SweepEqualModel" "latches" "I", .fieldLink RX3 23 "SweepEqualModel" "nexts" "[I", .fieldLink RX3 20 "SweepEqualModel" "starts" "[I", .fieldLink RX3 29 "SweepEqualModel" "outputCounts" "[I", .methodLink RX3 97 yX3_both, .instanceMethod yX3_both, .selects RX3 yX3_both yX3_both, .initialized RX3, .code yX3_both cX3_both 1 (some .int), .methodLink RX3 80 yX3_areSame, .instanceMethod yX3_areSame, .selects RX3 yX3_areSame yX3_areSame, .code yX3_areSame cX3_areSame 6 (some .boolean), .constantLong RX3 75 (-1), .fieldLink RX3 13 "SweepEqualModel" "tables" "[J"] ++ wsX30)
def wsX3_differs : List Cond := .code yX3_differs cX3_differs 5 (some .int) :: ([.fieldLink RX3 44 "SweepEqualModel" "thrown" "I", .methodLink RX3 100 yX3_isApart, .instanceMethod yX3_isApart, .selects RX3 yX3_isApart yX3_isApart, .initialized RX3, .code yX3_isApart cX3_isApart 2 (some .boolean), .fieldLink RX3 32 "SweepEqualModel" "outputs" "[I", .fieldLink RX3 54 "SweepEqualModel" "latches" "I", .fieldLink RX3 23 "SweepEqualModel" "nexts" "[I", .fieldLink RX3 20 "SweepEqualModel" "starts" "[I", .fieldLink RX3 29 "SweepEqualModel" "outputCounts" "[I", .methodLink RX3 97 yX3_both, .instanceMethod yX3_both, .selects RX3 yX3_both yX3_both, .code yX3_both cX3_both 1 (some .int), .methodLink RX3 80 yX3_areSame, .instanceMethod yX3_areSame, .selects RX3 yX3_areSame yX3_areSame, .code yX3_areSame cX3_areSame 6 (some .boolean), .constantLong RX3 75 (-1), .fieldLink RX3 13 "SweepEqualModel" "tables" "[J"] ++ wsX30)
def wsX3_witness : List Cond := .code yX3_witness cX3_witness 7 (some .int) :: ([.fieldLink RX3 54 "SweepEqualModel" "latches" "I", .fieldLink RX3 44 "SweepEqualModel" "thrown" "I", .fieldLink RX3 32 "SweepEqualModel" "outputs" "[I", .fieldLink RX3 23 "SweepEqualModel" "nexts" "[I", .methodLink RX3 97 yX3_both, .instanceMethod yX3_both, .selects RX3 yX3_both yX3_both, .initialized RX3, .code yX3_both cX3_both 1 (some .int), .fieldLink RX3 29 "SweepEqualModel" "outputCounts" "[I", .methodLink RX3 77 yX3_isIn, .static yX3_isIn, .code yX3_isIn cX3_isIn 2 (some .boolean), .methodLink RX3 89 yX3_bit, .instanceMethod yX3_bit, .selects RX3 yX3_bit yX3_bit, .code yX3_bit cX3_bit 5 (some .int), .fieldLink RX3 13 "SweepEqualModel" "tables" "[J"] ++ wsX30)
def wsX3_reset : List Cond := .code yX3_reset cX3_reset 1 none :: ([.fieldLink RX3 44 "SweepEqualModel" "thrown" "I", .methodLink RX3 65 yX3_start, .instanceMethod yX3_start, .selects RX3 yX3_start yX3_start, .initialized RX3, .code yX3_start cX3_start 2 none, .fieldLink RX3 26 "SweepEqualModel" "states" "[I", .fieldLink RX3 20 "SweepEqualModel" "starts" "[I", .fieldLink RX3 103 "SweepEqualModel" "steps" "I", .fieldLink RX3 106 "SweepEqualModel" "firstApart" "I", .fieldLink RX3 38 "SweepEqualModel" "toldCounts" "[I"] ++ wsX30)
def wsX3_assignment : List Cond := .code yX3_assignment cX3_assignment 5 (some .int) :: ([.fieldLink RX3 51 "SweepEqualModel" "inputs" "I", .fieldLink RX3 54 "SweepEqualModel" "latches" "I", .fieldLink RX3 26 "SweepEqualModel" "states" "[I"] ++ wsX30)
def wsX3_step_r1 : List Cond := [Cond.fieldLink RX3 44 "SweepEqualModel" "thrown" "I", Cond.fieldLink RX3 29 "SweepEqualModel" "outputCounts" "[I", Cond.fieldLink RX3 35 "SweepEqualModel" "told" "[I", Cond.fieldLink RX3 32 "SweepEqualModel" "outputs" "[I", Cond.fieldLink RX3 38 "SweepEqualModel" "toldCounts" "[I", Cond.fieldLink RX3 54 "SweepEqualModel" "latches" "I", Cond.fieldLink RX3 26 "SweepEqualModel" "states" "[I", Cond.fieldLink RX3 23 "SweepEqualModel" "nexts" "[I", Cond.fieldLink RX3 106 "SweepEqualModel" "firstApart" "I", Cond.fieldLink RX3 103 "SweepEqualModel" "steps" "I", Cond.methodLink RX3 109 yX3_assignment, Cond.instanceMethod yX3_assignment, Cond.selects RX3 yX3_assignment yX3_assignment, Cond.initialized RX3, Cond.code yX3_assignment cX3_assignment 5 (some .int), Cond.fieldLink RX3 51 "SweepEqualModel" "inputs" "I", Cond.methodLink RX3 89 yX3_bit, Cond.instanceMethod yX3_bit, Cond.selects RX3 yX3_bit yX3_bit, Cond.code yX3_bit cX3_bit 5 (some .int), Cond.fieldLink RX3 13 "SweepEqualModel" "tables" "[J", Cond.methodLink RX3 97 yX3_both, Cond.instanceMethod yX3_both, Cond.selects RX3 yX3_both yX3_both]
def wsX3_step_r2 : List Cond := [Cond.code yX3_both cX3_both 1 (some .int)]
def wsX3_step : List Cond := .code yX3_step cX3_step 5 (some .int) :: ((wsX3_step_r1 ++ wsX3_step_r2) ++ wsX30)
def wsX3_out : List Cond := .code yX3_out cX3_out 3 (some .int) :: ([.fieldLink RX3 29 "SweepEqualModel" "outputCounts" "[I", .fieldLink RX3 44 "SweepEqualModel" "thrown" "I", .fieldLink RX3 38 "SweepEqualModel" "toldCounts" "[I", .fieldLink RX3 35 "SweepEqualModel" "told" "[I", .methodLink RX3 61 yX3_isSide, .static yX3_isSide, .initialized RX3, .code yX3_isSide cX3_isSide 1 (some .boolean), .methodLink RX3 77 yX3_isIn, .static yX3_isIn, .code yX3_isIn cX3_isIn 2 (some .boolean)] ++ wsX30)
def wsX3_state : List Cond := .code yX3_state cX3_state 3 (some .int) :: ([.fieldLink RX3 54 "SweepEqualModel" "latches" "I", .fieldLink RX3 44 "SweepEqualModel" "thrown" "I", .fieldLink RX3 26 "SweepEqualModel" "states" "[I", .methodLink RX3 61 yX3_isSide, .static yX3_isSide, .initialized RX3, .code yX3_isSide cX3_isSide 1 (some .boolean), .methodLink RX3 77 yX3_isIn, .static yX3_isIn, .code yX3_isIn cX3_isIn 2 (some .boolean)] ++ wsX30)
def wsX3_apart : List Cond := .code yX3_apart cX3_apart 1 (some .int) :: ([.fieldLink RX3 44 "SweepEqualModel" "thrown" "I", .fieldLink RX3 106 "SweepEqualModel" "firstApart" "I"] ++ wsX30)
def wsX3_ands : List Cond := .code yX3_ands cX3_ands 4 (some .int) :: ([.fieldLink RX3 48 "SweepEqualModel" "nodes" "I", .fieldLink RX3 7 "SweepEqualModel" "sides" "[I"] ++ wsX30)
def wsX3_count : List Cond := .code yX3_count cX3_count 2 (some .int) :: ([.fieldLink RX3 44 "SweepEqualModel" "thrown" "I", .fieldLink RX3 48 "SweepEqualModel" "nodes" "I", .fieldLink RX3 51 "SweepEqualModel" "inputs" "I", .fieldLink RX3 54 "SweepEqualModel" "latches" "I", .fieldLink RX3 29 "SweepEqualModel" "outputCounts" "[I", .methodLink RX3 77 yX3_isIn, .static yX3_isIn, .initialized RX3, .code yX3_isIn cX3_isIn 2 (some .boolean), .methodLink RX3 112 yX3_ands, .instanceMethod yX3_ands, .selects RX3 yX3_ands yX3_ands, .code yX3_ands cX3_ands 4 (some .int), .fieldLink RX3 7 "SweepEqualModel" "sides" "[I"] ++ wsX30)
def wsJ9_min_7cf53 : List Cond := .code yJ9_min_7cf53 cJ9_min_7cf53 2 (some .int) :: ([])
def wsL_input_r1 : List Cond := [Cond.classLink RL 13 "java/lang/IllegalStateException", Cond.methodLink RL 7 yX2_input, Cond.instanceMethod yX2_input, Cond.selects RX2 yX2_input yX2_input, Cond.initialized RX2, Cond.code yX2_input cX2_input 2 (some .int), Cond.classLink RX2 33 "java/lang/IllegalStateException", Cond.initialized "java/lang/IllegalStateException", Cond.fieldLink RX2 30 "SweepEqual" "inputCount" "I", Cond.fieldLink RX2 12 "SweepEqual" "nodes" "LSweepEqual$Nodes;", Cond.methodLink RX2 40 yX2_needRoomForNode, Cond.instanceMethod yX2_needRoomForNode, Cond.selects RX2 yX2_needRoomForNode yX2_needRoomForNode, Cond.code yX2_needRoomForNode cX2_needRoomForNode 1 none, Cond.fieldLink RX2 169 "SweepEqual$Nodes" "count" "I", Cond.methodLink RX2 43 yX1_addVariable, Cond.instanceMethod yX1_addVariable, Cond.selects RX1 yX1_addVariable yX1_addVariable, Cond.initialized RX1, Cond.code yX1_addVariable cX1_addVariable 4 (some .int), Cond.fieldLink RX1 11 "SweepEqual$Nodes" "count" "I", Cond.fieldLink RX1 22 "SweepEqual$Nodes" "rows" "[J", Cond.methodLink RX1 26 yX1_growRows, Cond.instanceMethod yX1_growRows]
def wsL_input_r2 : List Cond := [Cond.selects RX1 yX1_growRows yX1_growRows, Cond.code yX1_growRows cX1_growRows 1 none, Cond.methodLink RX1 60 Lib.Math.min.name, Cond.static Lib.Math.min.name, Cond.initialized "java/lang/Math", Cond.code Lib.Math.min.name Lib.Math.min.code 2 (some .int), Cond.methodLink RX1 66 yJ7_copyOf_c38d5, Cond.static yJ7_copyOf_c38d5, Cond.initialized RJ7, Cond.code yJ7_copyOf_c38d5 cJ7_copyOf_c38d5 3 (some (.array .long)), Cond.methodLink RJ7 319 ⟨"[J", "clone", "()Ljava/lang/Object;"⟩, Cond.sameMethod "[J" "java/lang/Object" "clone" "()Ljava/lang/Object;", Cond.native ⟨"java/lang/Object", "clone", "()Ljava/lang/Object;"⟩, Cond.instanceMethod ⟨"java/lang/Object", "clone", "()Ljava/lang/Object;"⟩, Cond.selects "[J" ⟨"[J", "clone", "()Ljava/lang/Object;"⟩ ⟨"java/lang/Object", "clone", "()Ljava/lang/Object;"⟩, Cond.classLink RJ7 320 "[J", Cond.arrayClass .long, Cond.methodLink RJ7 304 Lib.Math.min.name, Cond.methodLink RJ7 150 arraycopyName, Cond.native arraycopyName, Cond.static arraycopyName, Cond.initialized "java/lang/System", Cond.methodLink RX1 29 yX1_variableWord, Cond.static yX1_variableWord]
def wsL_input_r3 : List Cond := [Cond.code yX1_variableWord cX1_variableWord 2 (some .long), Cond.fieldLink RX1 85 "SweepEqual$Nodes" "WORD_PATTERNS" "[J", Cond.constantLong RX1 88 (-1), Cond.methodLink RX1 33 yX1_settle, Cond.instanceMethod yX1_settle, Cond.selects RX1 yX1_settle yX1_settle, Cond.code yX1_settle cX1_settle 3 (some .int), Cond.fieldLink RX1 15 "SweepEqual$Nodes" "owners" "[I", Cond.fieldLink RX1 19 "SweepEqual$Nodes" "firsts" "[I", Cond.methodLink RX1 72 yX1_findFirst, Cond.instanceMethod yX1_findFirst, Cond.selects RX1 yX1_findFirst yX1_findFirst, Cond.code yX1_findFirst cX1_findFirst 6 (some .int), Cond.methodLink RX1 75 yX1_valueIn, Cond.instanceMethod yX1_valueIn, Cond.selects RX1 yX1_valueIn yX1_valueIn, Cond.code yX1_valueIn cX1_valueIn 4 (some .int), Cond.methodLink RX1 37 yX1_wordOf, Cond.instanceMethod yX1_wordOf, Cond.selects RX1 yX1_wordOf yX1_wordOf, Cond.code yX1_wordOf cX1_wordOf 5 (some .long), Cond.methodLink RX1 78 yX1_leastDifference, Cond.instanceMethod yX1_leastDifference, Cond.selects RX1 yX1_leastDifference yX1_leastDifference]
def wsL_input_r4 : List Cond := [Cond.code yX1_leastDifference cX1_leastDifference 6 (some .int), Cond.methodLink RX1 57 yJ13_numberOfTrailingZeros_95d88, Cond.static yJ13_numberOfTrailingZeros_95d88, Cond.initialized RJ13, Cond.code yJ13_numberOfTrailingZeros_95d88 cJ13_numberOfTrailingZeros_95d88 3 (some .int), Cond.methodLink RJ13 311 yJ6_numberOfTrailingZeros_0f7a4, Cond.static yJ6_numberOfTrailingZeros_0f7a4, Cond.initialized RJ6, Cond.code yJ6_numberOfTrailingZeros_0f7a4 cJ6_numberOfTrailingZeros_0f7a4 2 (some .int), Cond.constant RJ6 264 (65536)]
def wsL_input : List Cond := .codeWith yL_input cL_input 3 (some .int) [(0, 8, 11, 13)] :: ((wsL_input_r1 ++ (wsL_input_r2 ++ (wsL_input_r3 ++ wsL_input_r4))) ++ wsX20 ++ wsX10 ++ (vx_atS RX2 37 "java/lang/IllegalStateException" ["java/lang/RuntimeException", "java/lang/Exception"]).filter goodWord)
def wsL_latch_r1 : List Cond := [Cond.classLink RL 13 "java/lang/IllegalStateException", Cond.classLink RL 19 "java/lang/IllegalArgumentException", Cond.methodLink RL 15 yX2_latch, Cond.instanceMethod yX2_latch, Cond.selects RX2 yX2_latch yX2_latch, Cond.initialized RX2, Cond.code yX2_latch cX2_latch 4 (some .int), Cond.classLink RX2 33 "java/lang/IllegalStateException", Cond.initialized "java/lang/IllegalStateException", Cond.fieldLink RX2 47 "SweepEqual" "latchCount" "I", Cond.fieldLink RX2 12 "SweepEqual" "nodes" "LSweepEqual$Nodes;", Cond.fieldLink RX2 19 "SweepEqual" "designA" "LSweepEqual$Design;", Cond.fieldLink RX2 23 "SweepEqual" "designB" "LSweepEqual$Design;", Cond.methodLink RX2 40 yX2_needRoomForNode, Cond.instanceMethod yX2_needRoomForNode, Cond.selects RX2 yX2_needRoomForNode yX2_needRoomForNode, Cond.code yX2_needRoomForNode cX2_needRoomForNode 1 none, Cond.fieldLink RX2 169 "SweepEqual$Nodes" "count" "I", Cond.methodLink RX2 52 yX2_needStart, Cond.instanceMethod yX2_needStart, Cond.selects RX2 yX2_needStart yX2_needStart, Cond.code yX2_needStart cX2_needStart 2 none, Cond.classLink RX2 187 "java/lang/IllegalArgumentException", Cond.initialized "java/lang/IllegalArgumentException"]
def wsL_latch_r2 : List Cond := [Cond.methodLink RX2 43 yX1_addVariable, Cond.instanceMethod yX1_addVariable, Cond.selects RX1 yX1_addVariable yX1_addVariable, Cond.initialized RX1, Cond.code yX1_addVariable cX1_addVariable 4 (some .int), Cond.fieldLink RX1 11 "SweepEqual$Nodes" "count" "I", Cond.fieldLink RX1 22 "SweepEqual$Nodes" "rows" "[J", Cond.methodLink RX1 26 yX1_growRows, Cond.instanceMethod yX1_growRows, Cond.selects RX1 yX1_growRows yX1_growRows, Cond.code yX1_growRows cX1_growRows 1 none, Cond.methodLink RX1 60 Lib.Math.min.name, Cond.static Lib.Math.min.name, Cond.initialized "java/lang/Math", Cond.code Lib.Math.min.name Lib.Math.min.code 2 (some .int), Cond.methodLink RX1 66 yJ7_copyOf_c38d5, Cond.static yJ7_copyOf_c38d5, Cond.initialized RJ7, Cond.code yJ7_copyOf_c38d5 cJ7_copyOf_c38d5 3 (some (.array .long)), Cond.methodLink RJ7 319 ⟨"[J", "clone", "()Ljava/lang/Object;"⟩, Cond.sameMethod "[J" "java/lang/Object" "clone" "()Ljava/lang/Object;", Cond.native ⟨"java/lang/Object", "clone", "()Ljava/lang/Object;"⟩, Cond.instanceMethod ⟨"java/lang/Object", "clone", "()Ljava/lang/Object;"⟩, Cond.selects "[J" ⟨"[J", "clone", "()Ljava/lang/Object;"⟩ ⟨"java/lang/Object", "clone", "()Ljava/lang/Object;"⟩]
def wsL_latch_r3 : List Cond := [Cond.classLink RJ7 320 "[J", Cond.arrayClass .long, Cond.methodLink RJ7 304 Lib.Math.min.name, Cond.methodLink RJ7 150 arraycopyName, Cond.native arraycopyName, Cond.static arraycopyName, Cond.initialized "java/lang/System", Cond.methodLink RX1 29 yX1_variableWord, Cond.static yX1_variableWord, Cond.code yX1_variableWord cX1_variableWord 2 (some .long), Cond.fieldLink RX1 85 "SweepEqual$Nodes" "WORD_PATTERNS" "[J", Cond.constantLong RX1 88 (-1), Cond.methodLink RX1 33 yX1_settle, Cond.instanceMethod yX1_settle, Cond.selects RX1 yX1_settle yX1_settle, Cond.code yX1_settle cX1_settle 3 (some .int), Cond.fieldLink RX1 15 "SweepEqual$Nodes" "owners" "[I", Cond.fieldLink RX1 19 "SweepEqual$Nodes" "firsts" "[I", Cond.methodLink RX1 72 yX1_findFirst, Cond.instanceMethod yX1_findFirst, Cond.selects RX1 yX1_findFirst yX1_findFirst, Cond.code yX1_findFirst cX1_findFirst 6 (some .int), Cond.methodLink RX1 75 yX1_valueIn, Cond.instanceMethod yX1_valueIn]
def wsL_latch_r4 : List Cond := [Cond.selects RX1 yX1_valueIn yX1_valueIn, Cond.code yX1_valueIn cX1_valueIn 4 (some .int), Cond.methodLink RX1 37 yX1_wordOf, Cond.instanceMethod yX1_wordOf, Cond.selects RX1 yX1_wordOf yX1_wordOf, Cond.code yX1_wordOf cX1_wordOf 5 (some .long), Cond.methodLink RX1 78 yX1_leastDifference, Cond.instanceMethod yX1_leastDifference, Cond.selects RX1 yX1_leastDifference yX1_leastDifference, Cond.code yX1_leastDifference cX1_leastDifference 6 (some .int), Cond.methodLink RX1 57 yJ13_numberOfTrailingZeros_95d88, Cond.static yJ13_numberOfTrailingZeros_95d88, Cond.initialized RJ13, Cond.code yJ13_numberOfTrailingZeros_95d88 cJ13_numberOfTrailingZeros_95d88 3 (some .int), Cond.methodLink RJ13 311 yJ6_numberOfTrailingZeros_0f7a4, Cond.static yJ6_numberOfTrailingZeros_0f7a4, Cond.initialized RJ6, Cond.code yJ6_numberOfTrailingZeros_0f7a4 cJ6_numberOfTrailingZeros_0f7a4 2 (some .int), Cond.constant RJ6 264 (65536), Cond.methodLink RX2 56 yX0_addLatch, Cond.instanceMethod yX0_addLatch, Cond.selects RX0 yX0_addLatch yX0_addLatch, Cond.initialized RX0, Cond.code yX0_addLatch cX0_addLatch 4 none]
def wsL_latch_r5 : List Cond := [Cond.fieldLink RX0 25 "SweepEqual$Design" "starts" "I", Cond.fieldLink RX0 15 "SweepEqual$Design" "nexts" "[I", Cond.methodLink RX2 60 yX2_backToStarts, Cond.instanceMethod yX2_backToStarts, Cond.selects RX2 yX2_backToStarts yX2_backToStarts, Cond.code yX2_backToStarts cX2_backToStarts 1 none, Cond.fieldLink RX2 155 "SweepEqual" "steps" "I", Cond.fieldLink RX2 26 "SweepEqual" "apartStep" "I", Cond.methodLink RX2 199 yX0_backToStarts, Cond.instanceMethod yX0_backToStarts, Cond.selects RX0 yX0_backToStarts yX0_backToStarts, Cond.code yX0_backToStarts cX0_backToStarts 1 none, Cond.fieldLink RX0 28 "SweepEqual$Design" "states" "I", Cond.fieldLink RX0 31 "SweepEqual$Design" "shownCount" "I"]
def wsL_latch : List Cond := .codeWith yL_latch cL_latch 5 (some .int) [(0, 10, 13, 13), (0, 10, 17, 19)] :: ((wsL_latch_r1 ++ (wsL_latch_r2 ++ (wsL_latch_r3 ++ (wsL_latch_r4 ++ wsL_latch_r5)))) ++ wsX20 ++ wsX10 ++ wsX00 ++ (vx_atS RX2 37 "java/lang/IllegalStateException" ["java/lang/RuntimeException", "java/lang/Exception"]).filter goodWord ++ (vx_atS RX2 191 "java/lang/IllegalArgumentException" ["java/lang/RuntimeException", "java/lang/Exception"]).filter goodWord)
def wsL_and_r1 : List Cond := [Cond.classLink RL 25 "java/lang/IndexOutOfBoundsException", Cond.classLink RL 13 "java/lang/IllegalStateException", Cond.classLink RL 19 "java/lang/IllegalArgumentException", Cond.methodLink RL 21 yX2_and, Cond.instanceMethod yX2_and, Cond.selects RX2 yX2_and yX2_and, Cond.initialized RX2, Cond.code yX2_and cX2_and 4 (some .int), Cond.fieldLink RX2 12 "SweepEqual" "nodes" "LSweepEqual$Nodes;", Cond.methodLink RX2 63 yX2_needSide, Cond.instanceMethod yX2_needSide, Cond.selects RX2 yX2_needSide yX2_needSide, Cond.code yX2_needSide cX2_needSide 2 none, Cond.classLink RX2 120 "java/lang/IndexOutOfBoundsException", Cond.initialized "java/lang/IndexOutOfBoundsException", Cond.methodLink RX2 66 yX2_needLiteral, Cond.instanceMethod yX2_needLiteral, Cond.selects RX2 yX2_needLiteral yX2_needLiteral, Cond.code yX2_needLiteral cX2_needLiteral 2 none, Cond.fieldLink RX2 169 "SweepEqual$Nodes" "count" "I", Cond.methodLink RX2 40 yX2_needRoomForNode, Cond.instanceMethod yX2_needRoomForNode, Cond.selects RX2 yX2_needRoomForNode yX2_needRoomForNode, Cond.code yX2_needRoomForNode cX2_needRoomForNode 1 none]
def wsL_and_r2 : List Cond := [Cond.classLink RX2 33 "java/lang/IllegalStateException", Cond.initialized "java/lang/IllegalStateException", Cond.methodLink RX2 69 yX2_needOwn, Cond.instanceMethod yX2_needOwn, Cond.selects RX2 yX2_needOwn yX2_needOwn, Cond.code yX2_needOwn cX2_needOwn 3 none, Cond.classLink RX2 187 "java/lang/IllegalArgumentException", Cond.initialized "java/lang/IllegalArgumentException", Cond.methodLink RX2 194 yX1_isOfOtherSide, Cond.instanceMethod yX1_isOfOtherSide, Cond.selects RX1 yX1_isOfOtherSide yX1_isOfOtherSide, Cond.initialized RX1, Cond.code yX1_isOfOtherSide cX1_isOfOtherSide 4 (some .boolean), Cond.fieldLink RX1 15 "SweepEqual$Nodes" "owners" "[I", Cond.methodLink RX2 73 yX1_addAnd, Cond.instanceMethod yX1_addAnd, Cond.selects RX1 yX1_addAnd yX1_addAnd, Cond.code yX1_addAnd cX1_addAnd 6 (some .int), Cond.fieldLink RX1 11 "SweepEqual$Nodes" "count" "I", Cond.fieldLink RX1 22 "SweepEqual$Nodes" "rows" "[J", Cond.methodLink RX1 26 yX1_growRows, Cond.instanceMethod yX1_growRows, Cond.selects RX1 yX1_growRows yX1_growRows, Cond.code yX1_growRows cX1_growRows 1 none]
def wsL_and_r3 : List Cond := [Cond.methodLink RX1 60 Lib.Math.min.name, Cond.static Lib.Math.min.name, Cond.initialized "java/lang/Math", Cond.code Lib.Math.min.name Lib.Math.min.code 2 (some .int), Cond.methodLink RX1 66 yJ7_copyOf_c38d5, Cond.static yJ7_copyOf_c38d5, Cond.initialized RJ7, Cond.code yJ7_copyOf_c38d5 cJ7_copyOf_c38d5 3 (some (.array .long)), Cond.methodLink RJ7 319 ⟨"[J", "clone", "()Ljava/lang/Object;"⟩, Cond.sameMethod "[J" "java/lang/Object" "clone" "()Ljava/lang/Object;", Cond.native ⟨"java/lang/Object", "clone", "()Ljava/lang/Object;"⟩, Cond.instanceMethod ⟨"java/lang/Object", "clone", "()Ljava/lang/Object;"⟩, Cond.selects "[J" ⟨"[J", "clone", "()Ljava/lang/Object;"⟩ ⟨"java/lang/Object", "clone", "()Ljava/lang/Object;"⟩, Cond.classLink RJ7 320 "[J", Cond.arrayClass .long, Cond.methodLink RJ7 304 Lib.Math.min.name, Cond.methodLink RJ7 150 arraycopyName, Cond.native arraycopyName, Cond.static arraycopyName, Cond.initialized "java/lang/System", Cond.methodLink RX1 37 yX1_wordOf, Cond.instanceMethod yX1_wordOf, Cond.selects RX1 yX1_wordOf yX1_wordOf, Cond.code yX1_wordOf cX1_wordOf 5 (some .long)]
def wsL_and_r4 : List Cond := [Cond.constantLong RX1 88 (-1), Cond.methodLink RX1 33 yX1_settle, Cond.instanceMethod yX1_settle, Cond.selects RX1 yX1_settle yX1_settle, Cond.code yX1_settle cX1_settle 3 (some .int), Cond.fieldLink RX1 19 "SweepEqual$Nodes" "firsts" "[I", Cond.methodLink RX1 72 yX1_findFirst, Cond.instanceMethod yX1_findFirst, Cond.selects RX1 yX1_findFirst yX1_findFirst, Cond.code yX1_findFirst cX1_findFirst 6 (some .int), Cond.methodLink RX1 75 yX1_valueIn, Cond.instanceMethod yX1_valueIn, Cond.selects RX1 yX1_valueIn yX1_valueIn, Cond.code yX1_valueIn cX1_valueIn 4 (some .int), Cond.methodLink RX1 78 yX1_leastDifference, Cond.instanceMethod yX1_leastDifference, Cond.selects RX1 yX1_leastDifference yX1_leastDifference, Cond.code yX1_leastDifference cX1_leastDifference 6 (some .int), Cond.methodLink RX1 57 yJ13_numberOfTrailingZeros_95d88, Cond.static yJ13_numberOfTrailingZeros_95d88, Cond.initialized RJ13, Cond.code yJ13_numberOfTrailingZeros_95d88 cJ13_numberOfTrailingZeros_95d88 3 (some .int), Cond.methodLink RJ13 311 yJ6_numberOfTrailingZeros_0f7a4, Cond.static yJ6_numberOfTrailingZeros_0f7a4]
def wsL_and_r5 : List Cond := [Cond.initialized RJ6, Cond.code yJ6_numberOfTrailingZeros_0f7a4 cJ6_numberOfTrailingZeros_0f7a4 2 (some .int), Cond.constant RJ6 264 (65536)]
def wsL_and : List Cond := .codeWith yL_and cL_and 6 (some .int) [(0, 12, 15, 25), (0, 12, 19, 13), (0, 12, 23, 19)] :: ((wsL_and_r1 ++ (wsL_and_r2 ++ (wsL_and_r3 ++ (wsL_and_r4 ++ wsL_and_r5)))) ++ wsX20 ++ wsX10 ++ (vx_atS RX2 124 "java/lang/IndexOutOfBoundsException" ["java/lang/RuntimeException", "java/lang/Exception"]).filter goodWord ++ (vx_atS RX2 37 "java/lang/IllegalStateException" ["java/lang/RuntimeException", "java/lang/Exception"]).filter goodWord ++ (vx_atS RX2 191 "java/lang/IllegalArgumentException" ["java/lang/RuntimeException", "java/lang/Exception"]).filter goodWord)
def wsL_output_r1 : List Cond := [Cond.classLink RL 25 "java/lang/IndexOutOfBoundsException", Cond.classLink RL 13 "java/lang/IllegalStateException", Cond.classLink RL 19 "java/lang/IllegalArgumentException", Cond.methodLink RL 27 yX2_output, Cond.instanceMethod yX2_output, Cond.selects RX2 yX2_output yX2_output, Cond.initialized RX2, Cond.code yX2_output cX2_output 4 (some .int), Cond.classLink RX2 33 "java/lang/IllegalStateException", Cond.initialized "java/lang/IllegalStateException", Cond.fieldLink RX2 81 "SweepEqual$Design" "outputCount" "I", Cond.methodLink RX2 63 yX2_needSide, Cond.instanceMethod yX2_needSide, Cond.selects RX2 yX2_needSide yX2_needSide, Cond.code yX2_needSide cX2_needSide 2 none, Cond.classLink RX2 120 "java/lang/IndexOutOfBoundsException", Cond.initialized "java/lang/IndexOutOfBoundsException", Cond.methodLink RX2 66 yX2_needLiteral, Cond.instanceMethod yX2_needLiteral, Cond.selects RX2 yX2_needLiteral yX2_needLiteral, Cond.code yX2_needLiteral cX2_needLiteral 2 none, Cond.fieldLink RX2 12 "SweepEqual" "nodes" "LSweepEqual$Nodes;", Cond.fieldLink RX2 169 "SweepEqual$Nodes" "count" "I", Cond.methodLink RX2 77 yX2_designOf]
def wsL_output_r2 : List Cond := [Cond.instanceMethod yX2_designOf, Cond.selects RX2 yX2_designOf yX2_designOf, Cond.code yX2_designOf cX2_designOf 2 (some (.object "SweepEqual$Design")), Cond.fieldLink RX2 19 "SweepEqual" "designA" "LSweepEqual$Design;", Cond.fieldLink RX2 23 "SweepEqual" "designB" "LSweepEqual$Design;", Cond.methodLink RX2 69 yX2_needOwn, Cond.instanceMethod yX2_needOwn, Cond.selects RX2 yX2_needOwn yX2_needOwn, Cond.code yX2_needOwn cX2_needOwn 3 none, Cond.classLink RX2 187 "java/lang/IllegalArgumentException", Cond.initialized "java/lang/IllegalArgumentException", Cond.methodLink RX2 194 yX1_isOfOtherSide, Cond.instanceMethod yX1_isOfOtherSide, Cond.selects RX1 yX1_isOfOtherSide yX1_isOfOtherSide, Cond.initialized RX1, Cond.code yX1_isOfOtherSide cX1_isOfOtherSide 4 (some .boolean), Cond.fieldLink RX1 15 "SweepEqual$Nodes" "owners" "[I", Cond.methodLink RX2 86 yX0_addOutput, Cond.instanceMethod yX0_addOutput, Cond.selects RX0 yX0_addOutput yX0_addOutput, Cond.initialized RX0, Cond.code yX0_addOutput cX0_addOutput 2 (some .int), Cond.fieldLink RX0 9 "SweepEqual$Design" "outputs" "[I", Cond.fieldLink RX0 21 "SweepEqual$Design" "outputCount" "I"]
def wsL_output : List Cond := .codeWith yL_output cL_output 5 (some .int) [(0, 10, 13, 25), (0, 10, 17, 13), (0, 10, 21, 19)] :: ((wsL_output_r1 ++ wsL_output_r2) ++ wsX00 ++ wsX20 ++ wsX10 ++ (vx_atS RX2 37 "java/lang/IllegalStateException" ["java/lang/RuntimeException", "java/lang/Exception"]).filter goodWord ++ (vx_atS RX2 124 "java/lang/IndexOutOfBoundsException" ["java/lang/RuntimeException", "java/lang/Exception"]).filter goodWord ++ (vx_atS RX2 191 "java/lang/IllegalArgumentException" ["java/lang/RuntimeException", "java/lang/Exception"]).filter goodWord)
def wsL_next_r1 : List Cond := [Cond.classLink RL 25 "java/lang/IndexOutOfBoundsException", Cond.classLink RL 19 "java/lang/IllegalArgumentException", Cond.methodLink RL 30 yX2_next, Cond.instanceMethod yX2_next, Cond.selects RX2 yX2_next yX2_next, Cond.initialized RX2, Cond.code yX2_next cX2_next 6 (some .int), Cond.fieldLink RX2 92 "SweepEqual$Design" "nexts" "[I", Cond.methodLink RX2 63 yX2_needSide, Cond.instanceMethod yX2_needSide, Cond.selects RX2 yX2_needSide yX2_needSide, Cond.code yX2_needSide cX2_needSide 2 none, Cond.classLink RX2 120 "java/lang/IndexOutOfBoundsException", Cond.initialized "java/lang/IndexOutOfBoundsException", Cond.methodLink RX2 89 yX2_needLatch, Cond.instanceMethod yX2_needLatch, Cond.selects RX2 yX2_needLatch yX2_needLatch, Cond.code yX2_needLatch cX2_needLatch 2 none, Cond.fieldLink RX2 47 "SweepEqual" "latchCount" "I", Cond.methodLink RX2 66 yX2_needLiteral, Cond.instanceMethod yX2_needLiteral, Cond.selects RX2 yX2_needLiteral yX2_needLiteral, Cond.code yX2_needLiteral cX2_needLiteral 2 none, Cond.fieldLink RX2 12 "SweepEqual" "nodes" "LSweepEqual$Nodes;"]
def wsL_next_r2 : List Cond := [Cond.fieldLink RX2 169 "SweepEqual$Nodes" "count" "I", Cond.methodLink RX2 69 yX2_needOwn, Cond.instanceMethod yX2_needOwn, Cond.selects RX2 yX2_needOwn yX2_needOwn, Cond.code yX2_needOwn cX2_needOwn 3 none, Cond.classLink RX2 187 "java/lang/IllegalArgumentException", Cond.initialized "java/lang/IllegalArgumentException", Cond.methodLink RX2 194 yX1_isOfOtherSide, Cond.instanceMethod yX1_isOfOtherSide, Cond.selects RX1 yX1_isOfOtherSide yX1_isOfOtherSide, Cond.initialized RX1, Cond.code yX1_isOfOtherSide cX1_isOfOtherSide 4 (some .boolean), Cond.fieldLink RX1 15 "SweepEqual$Nodes" "owners" "[I", Cond.methodLink RX2 77 yX2_designOf, Cond.instanceMethod yX2_designOf, Cond.selects RX2 yX2_designOf yX2_designOf, Cond.code yX2_designOf cX2_designOf 2 (some (.object "SweepEqual$Design")), Cond.fieldLink RX2 19 "SweepEqual" "designA" "LSweepEqual$Design;", Cond.fieldLink RX2 23 "SweepEqual" "designB" "LSweepEqual$Design;"]
def wsL_next : List Cond := .codeWith yL_next cL_next 6 (some .int) [(0, 12, 15, 25), (0, 12, 19, 19)] :: ((wsL_next_r1 ++ wsL_next_r2) ++ wsX00 ++ wsX20 ++ wsX10 ++ (vx_atS RX2 124 "java/lang/IndexOutOfBoundsException" ["java/lang/RuntimeException", "java/lang/Exception"]).filter goodWord ++ (vx_atS RX2 191 "java/lang/IllegalArgumentException" ["java/lang/RuntimeException", "java/lang/Exception"]).filter goodWord)
def wsL_same : List Cond := .codeWith yL_same cL_same 5 (some .int) [(0, 17, 20, 25)] :: ([.classLink RL 25 "java/lang/IndexOutOfBoundsException", .methodLink RL 33 yX2_same, .instanceMethod yX2_same, .selects RX2 yX2_same yX2_same, .initialized RX2, .code yX2_same cX2_same 3 (some .boolean), .fieldLink RX2 12 "SweepEqual" "nodes" "LSweepEqual$Nodes;", .methodLink RX2 66 yX2_needLiteral, .instanceMethod yX2_needLiteral, .selects RX2 yX2_needLiteral yX2_needLiteral, .code yX2_needLiteral cX2_needLiteral 2 none, .classLink RX2 120 "java/lang/IndexOutOfBoundsException", .initialized "java/lang/IndexOutOfBoundsException", .fieldLink RX2 169 "SweepEqual$Nodes" "count" "I", .methodLink RX2 96 yX1_areSame, .instanceMethod yX1_areSame, .selects RX1 yX1_areSame yX1_areSame, .initialized RX1, .code yX1_areSame cX1_areSame 3 (some .boolean), .methodLink RX1 40 yX1_firstOf, .instanceMethod yX1_firstOf, .selects RX1 yX1_firstOf yX1_firstOf, .code yX1_firstOf cX1_firstOf 2 (some .int), .fieldLink RX1 19 "SweepEqual$Nodes" "firsts" "[I"] ++ wsX20 ++ wsX10 ++ (vx_atS RX2 124 "java/lang/IndexOutOfBoundsException" ["java/lang/RuntimeException", "java/lang/Exception"]).filter goodWord)
def wsL_first : List Cond := .codeWith yL_first cL_first 4 (some .int) [(0, 9, 12, 25)] :: ([.classLink RL 25 "java/lang/IndexOutOfBoundsException", .methodLink RL 37 yX2_first, .instanceMethod yX2_first, .selects RX2 yX2_first yX2_first, .initialized RX2, .code yX2_first cX2_first 2 (some .int), .fieldLink RX2 12 "SweepEqual" "nodes" "LSweepEqual$Nodes;", .methodLink RX2 66 yX2_needLiteral, .instanceMethod yX2_needLiteral, .selects RX2 yX2_needLiteral yX2_needLiteral, .code yX2_needLiteral cX2_needLiteral 2 none, .classLink RX2 120 "java/lang/IndexOutOfBoundsException", .initialized "java/lang/IndexOutOfBoundsException", .fieldLink RX2 169 "SweepEqual$Nodes" "count" "I", .methodLink RX2 100 yX1_firstOf, .instanceMethod yX1_firstOf, .selects RX1 yX1_firstOf yX1_firstOf, .initialized RX1, .code yX1_firstOf cX1_firstOf 2 (some .int), .fieldLink RX1 19 "SweepEqual$Nodes" "firsts" "[I"] ++ wsX20 ++ wsX10 ++ (vx_atS RX2 124 "java/lang/IndexOutOfBoundsException" ["java/lang/RuntimeException", "java/lang/Exception"]).filter goodWord)
def wsL_merged_r1 : List Cond := [Cond.classLink RL 25 "java/lang/IndexOutOfBoundsException", Cond.methodLink RL 41 yX2_merged, Cond.instanceMethod yX2_merged, Cond.selects RX2 yX2_merged yX2_merged, Cond.initialized RX2, Cond.code yX2_merged cX2_merged 2 (some .int), Cond.fieldLink RX2 12 "SweepEqual" "nodes" "LSweepEqual$Nodes;", Cond.methodLink RX2 63 yX2_needSide, Cond.instanceMethod yX2_needSide, Cond.selects RX2 yX2_needSide yX2_needSide, Cond.code yX2_needSide cX2_needSide 2 none, Cond.classLink RX2 120 "java/lang/IndexOutOfBoundsException", Cond.initialized "java/lang/IndexOutOfBoundsException", Cond.methodLink RX2 107 yX1_countMerged, Cond.instanceMethod yX1_countMerged, Cond.selects RX1 yX1_countMerged yX1_countMerged, Cond.initialized RX1, Cond.code yX1_countMerged cX1_countMerged 4 (some .int), Cond.fieldLink RX1 11 "SweepEqual$Nodes" "count" "I", Cond.fieldLink RX1 15 "SweepEqual$Nodes" "owners" "[I", Cond.methodLink RX1 43 yX1_isLeast, Cond.instanceMethod yX1_isLeast, Cond.selects RX1 yX1_isLeast yX1_isLeast, Cond.code yX1_isLeast cX1_isLeast 2 (some .boolean)]
def wsL_merged_r2 : List Cond := [Cond.fieldLink RX1 19 "SweepEqual$Nodes" "firsts" "[I"]
def wsL_merged : List Cond := .codeWith yL_merged cL_merged 4 (some .int) [(0, 9, 12, 25)] :: ((wsL_merged_r1 ++ wsL_merged_r2) ++ wsX20 ++ wsX10 ++ (vx_atS RX2 124 "java/lang/IndexOutOfBoundsException" ["java/lang/RuntimeException", "java/lang/Exception"]).filter goodWord)
def wsL_hangs_r1 : List Cond := [Cond.classLink RL 25 "java/lang/IndexOutOfBoundsException", Cond.methodLink RL 44 yX2_hangs, Cond.instanceMethod yX2_hangs, Cond.selects RX2 yX2_hangs yX2_hangs, Cond.initialized RX2, Cond.code yX2_hangs cX2_hangs 2 (some .int), Cond.fieldLink RX2 12 "SweepEqual" "nodes" "LSweepEqual$Nodes;", Cond.methodLink RX2 66 yX2_needLiteral, Cond.instanceMethod yX2_needLiteral, Cond.selects RX2 yX2_needLiteral yX2_needLiteral, Cond.code yX2_needLiteral cX2_needLiteral 2 none, Cond.classLink RX2 120 "java/lang/IndexOutOfBoundsException", Cond.initialized "java/lang/IndexOutOfBoundsException", Cond.fieldLink RX2 169 "SweepEqual$Nodes" "count" "I", Cond.methodLink RX2 110 yX1_supportOf, Cond.instanceMethod yX1_supportOf, Cond.selects RX1 yX1_supportOf yX1_supportOf, Cond.initialized RX1, Cond.code yX1_supportOf cX1_supportOf 4 (some .int), Cond.methodLink RX1 53 yX1_hangsOn, Cond.instanceMethod yX1_hangsOn, Cond.selects RX1 yX1_hangsOn yX1_hangsOn, Cond.code yX1_hangsOn cX1_hangsOn 4 (some .boolean), Cond.methodLink RX1 81 yX1_wordHangsOn]
def wsL_hangs_r2 : List Cond := [Cond.instanceMethod yX1_wordHangsOn, Cond.selects RX1 yX1_wordHangsOn yX1_wordHangsOn, Cond.code yX1_wordHangsOn cX1_wordHangsOn 8 (some .boolean), Cond.fieldLink RX1 85 "SweepEqual$Nodes" "WORD_PATTERNS" "[J", Cond.constantLong RX1 88 (-1), Cond.methodLink RX1 37 yX1_wordOf, Cond.instanceMethod yX1_wordOf, Cond.selects RX1 yX1_wordOf yX1_wordOf, Cond.code yX1_wordOf cX1_wordOf 5 (some .long), Cond.fieldLink RX1 22 "SweepEqual$Nodes" "rows" "[J"]
def wsL_hangs : List Cond := .codeWith yL_hangs cL_hangs 4 (some .int) [(0, 9, 12, 25)] :: ((wsL_hangs_r1 ++ wsL_hangs_r2) ++ wsX20 ++ wsX10 ++ (vx_atS RX2 124 "java/lang/IndexOutOfBoundsException" ["java/lang/RuntimeException", "java/lang/Exception"]).filter goodWord)
def wsL_ones_r1 : List Cond := [Cond.classLink RL 25 "java/lang/IndexOutOfBoundsException", Cond.methodLink RL 47 yX2_ones, Cond.instanceMethod yX2_ones, Cond.selects RX2 yX2_ones yX2_ones, Cond.initialized RX2, Cond.code yX2_ones cX2_ones 2 (some .int), Cond.fieldLink RX2 12 "SweepEqual" "nodes" "LSweepEqual$Nodes;", Cond.fieldLink RX2 30 "SweepEqual" "inputCount" "I", Cond.fieldLink RX2 47 "SweepEqual" "latchCount" "I", Cond.methodLink RX2 66 yX2_needLiteral, Cond.instanceMethod yX2_needLiteral, Cond.selects RX2 yX2_needLiteral yX2_needLiteral, Cond.code yX2_needLiteral cX2_needLiteral 2 none, Cond.classLink RX2 120 "java/lang/IndexOutOfBoundsException", Cond.initialized "java/lang/IndexOutOfBoundsException", Cond.fieldLink RX2 169 "SweepEqual$Nodes" "count" "I", Cond.methodLink RX2 113 yX1_countOnes, Cond.instanceMethod yX1_countOnes, Cond.selects RX1 yX1_countOnes yX1_countOnes, Cond.initialized RX1, Cond.code yX1_countOnes cX1_countOnes 4 (some .int), Cond.methodLink RX1 37 yX1_wordOf, Cond.instanceMethod yX1_wordOf, Cond.selects RX1 yX1_wordOf yX1_wordOf]
def wsL_ones_r2 : List Cond := [Cond.code yX1_wordOf cX1_wordOf 5 (some .long), Cond.fieldLink RX1 22 "SweepEqual$Nodes" "rows" "[J", Cond.constantLong RX1 88 (-1), Cond.methodLink RX1 47 yJ13_bitCount_95d88, Cond.static yJ13_bitCount_95d88, Cond.initialized RJ13, Cond.code yJ13_bitCount_95d88 cJ13_bitCount_95d88 2 (some .int), Cond.constantLong RJ13 314 (6148914691236517205), Cond.constantLong RJ13 316 (3689348814741910323), Cond.constantLong RJ13 318 (1085102592571150095)]
def wsL_ones : List Cond := .codeWith yL_ones cL_ones 4 (some .int) [(0, 9, 12, 25)] :: ((wsL_ones_r1 ++ wsL_ones_r2) ++ wsX20 ++ wsX10 ++ (vx_atS RX2 124 "java/lang/IndexOutOfBoundsException" ["java/lang/RuntimeException", "java/lang/Exception"]).filter goodWord)
def wsL_value_r1 : List Cond := [Cond.classLink RL 25 "java/lang/IndexOutOfBoundsException", Cond.methodLink RL 50 yX2_value, Cond.instanceMethod yX2_value, Cond.selects RX2 yX2_value yX2_value, Cond.initialized RX2, Cond.code yX2_value cX2_value 3 (some .int), Cond.fieldLink RX2 12 "SweepEqual" "nodes" "LSweepEqual$Nodes;", Cond.methodLink RX2 66 yX2_needLiteral, Cond.instanceMethod yX2_needLiteral, Cond.selects RX2 yX2_needLiteral yX2_needLiteral, Cond.code yX2_needLiteral cX2_needLiteral 2 none, Cond.classLink RX2 120 "java/lang/IndexOutOfBoundsException", Cond.initialized "java/lang/IndexOutOfBoundsException", Cond.fieldLink RX2 169 "SweepEqual$Nodes" "count" "I", Cond.methodLink RX2 116 yX1_valueIn, Cond.instanceMethod yX1_valueIn, Cond.selects RX1 yX1_valueIn yX1_valueIn, Cond.initialized RX1, Cond.code yX1_valueIn cX1_valueIn 4 (some .int), Cond.methodLink RX1 37 yX1_wordOf, Cond.instanceMethod yX1_wordOf, Cond.selects RX1 yX1_wordOf yX1_wordOf, Cond.code yX1_wordOf cX1_wordOf 5 (some .long), Cond.fieldLink RX1 22 "SweepEqual$Nodes" "rows" "[J"]
def wsL_value_r2 : List Cond := [Cond.constantLong RX1 88 (-1)]
def wsL_value : List Cond := .codeWith yL_value cL_value 5 (some .int) [(0, 10, 13, 25)] :: ((wsL_value_r1 ++ wsL_value_r2) ++ wsX20 ++ wsX10 ++ (vx_atS RX2 124 "java/lang/IndexOutOfBoundsException" ["java/lang/RuntimeException", "java/lang/Exception"]).filter goodWord)
def wsL_differs_r1 : List Cond := [Cond.classLink RL 25 "java/lang/IndexOutOfBoundsException", Cond.methodLink RL 53 yX2_differs, Cond.instanceMethod yX2_differs, Cond.selects RX2 yX2_differs yX2_differs, Cond.initialized RX2, Cond.code yX2_differs cX2_differs 5 (some .int), Cond.classLink RX2 120 "java/lang/IndexOutOfBoundsException", Cond.initialized "java/lang/IndexOutOfBoundsException", Cond.fieldLink RX2 19 "SweepEqual" "designA" "LSweepEqual$Design;", Cond.fieldLink RX2 128 "SweepEqual$Design" "outputs" "[I", Cond.fieldLink RX2 23 "SweepEqual" "designB" "LSweepEqual$Design;", Cond.fieldLink RX2 92 "SweepEqual$Design" "nexts" "[I", Cond.fieldLink RX2 47 "SweepEqual" "latchCount" "I", Cond.methodLink RX2 125 yX2_sharedOutputs, Cond.instanceMethod yX2_sharedOutputs, Cond.selects RX2 yX2_sharedOutputs yX2_sharedOutputs, Cond.code yX2_sharedOutputs cX2_sharedOutputs 1 (some .int), Cond.fieldLink RX2 81 "SweepEqual$Design" "outputCount" "I", Cond.methodLink RX2 200 Lib.Math.min.name, Cond.static Lib.Math.min.name, Cond.initialized "java/lang/Math", Cond.code Lib.Math.min.name Lib.Math.min.code 2 (some .int), Cond.methodLink RX2 131 yX2_countDifferent, Cond.instanceMethod yX2_countDifferent]
def wsL_differs_r2 : List Cond := [Cond.selects RX2 yX2_countDifferent yX2_countDifferent, Cond.code yX2_countDifferent cX2_countDifferent 6 (some .int), Cond.fieldLink RX2 12 "SweepEqual" "nodes" "LSweepEqual$Nodes;", Cond.methodLink RX2 96 yX1_areSame, Cond.instanceMethod yX1_areSame, Cond.selects RX1 yX1_areSame yX1_areSame, Cond.initialized RX1, Cond.code yX1_areSame cX1_areSame 3 (some .boolean), Cond.methodLink RX1 40 yX1_firstOf, Cond.instanceMethod yX1_firstOf, Cond.selects RX1 yX1_firstOf yX1_firstOf, Cond.code yX1_firstOf cX1_firstOf 2 (some .int), Cond.fieldLink RX1 19 "SweepEqual$Nodes" "firsts" "[I", Cond.methodLink RX2 135 yX2_placeOfDifferent, Cond.instanceMethod yX2_placeOfDifferent, Cond.selects RX2 yX2_placeOfDifferent yX2_placeOfDifferent, Cond.code yX2_placeOfDifferent cX2_placeOfDifferent 7 (some .int), Cond.methodLink RX2 139 yX2_differentStartOrSize, Cond.instanceMethod yX2_differentStartOrSize, Cond.selects RX2 yX2_differentStartOrSize yX2_differentStartOrSize, Cond.code yX2_differentStartOrSize cX2_differentStartOrSize 5 (some .int), Cond.fieldLink RX2 205 "SweepEqual$Design" "starts" "I"]
def wsL_differs : List Cond := .codeWith yL_differs cL_differs 4 (some .int) [(0, 9, 12, 25)] :: ((wsL_differs_r1 ++ wsL_differs_r2) ++ wsX20 ++ wsX00 ++ wsX10 ++ (vx_atS RX2 124 "java/lang/IndexOutOfBoundsException" ["java/lang/RuntimeException", "java/lang/Exception"]).filter goodWord)
def wsL_witness_r1 : List Cond := [Cond.classLink RL 25 "java/lang/IndexOutOfBoundsException", Cond.methodLink RL 56 yX2_witness, Cond.instanceMethod yX2_witness, Cond.selects RX2 yX2_witness yX2_witness, Cond.initialized RX2, Cond.code yX2_witness cX2_witness 3 (some .int), Cond.classLink RX2 120 "java/lang/IndexOutOfBoundsException", Cond.initialized "java/lang/IndexOutOfBoundsException", Cond.fieldLink RX2 12 "SweepEqual" "nodes" "LSweepEqual$Nodes;", Cond.fieldLink RX2 19 "SweepEqual" "designA" "LSweepEqual$Design;", Cond.fieldLink RX2 128 "SweepEqual$Design" "outputs" "[I", Cond.fieldLink RX2 23 "SweepEqual" "designB" "LSweepEqual$Design;", Cond.fieldLink RX2 47 "SweepEqual" "latchCount" "I", Cond.fieldLink RX2 92 "SweepEqual$Design" "nexts" "[I", Cond.methodLink RX2 125 yX2_sharedOutputs, Cond.instanceMethod yX2_sharedOutputs, Cond.selects RX2 yX2_sharedOutputs yX2_sharedOutputs, Cond.code yX2_sharedOutputs cX2_sharedOutputs 1 (some .int), Cond.fieldLink RX2 81 "SweepEqual$Design" "outputCount" "I", Cond.methodLink RX2 200 Lib.Math.min.name, Cond.static Lib.Math.min.name, Cond.initialized "java/lang/Math", Cond.code Lib.Math.min.name Lib.Math.min.code 2 (some .int), Cond.methodLink RX2 142 yX1_leastDifference]
def wsL_witness_r2 : List Cond := [Cond.instanceMethod yX1_leastDifference, Cond.selects RX1 yX1_leastDifference yX1_leastDifference, Cond.initialized RX1, Cond.code yX1_leastDifference cX1_leastDifference 6 (some .int), Cond.methodLink RX1 37 yX1_wordOf, Cond.instanceMethod yX1_wordOf, Cond.selects RX1 yX1_wordOf yX1_wordOf, Cond.code yX1_wordOf cX1_wordOf 5 (some .long), Cond.fieldLink RX1 22 "SweepEqual$Nodes" "rows" "[J", Cond.constantLong RX1 88 (-1), Cond.methodLink RX1 57 yJ13_numberOfTrailingZeros_95d88, Cond.static yJ13_numberOfTrailingZeros_95d88, Cond.initialized RJ13, Cond.code yJ13_numberOfTrailingZeros_95d88 cJ13_numberOfTrailingZeros_95d88 3 (some .int), Cond.methodLink RJ13 311 yJ6_numberOfTrailingZeros_0f7a4, Cond.static yJ6_numberOfTrailingZeros_0f7a4, Cond.initialized RJ6, Cond.code yJ6_numberOfTrailingZeros_0f7a4 cJ6_numberOfTrailingZeros_0f7a4 2 (some .int), Cond.constant RJ6 264 (65536)]
def wsL_witness : List Cond := .codeWith yL_witness cL_witness 4 (some .int) [(0, 9, 12, 25)] :: ((wsL_witness_r1 ++ wsL_witness_r2) ++ wsX20 ++ wsX00 ++ wsX10 ++ (vx_atS RX2 124 "java/lang/IndexOutOfBoundsException" ["java/lang/RuntimeException", "java/lang/Exception"]).filter goodWord)
def wsL_out : List Cond := .codeWith yL_out cL_out 5 (some .int) [(0, 10, 13, 25)] :: ([.classLink RL 25 "java/lang/IndexOutOfBoundsException", .methodLink RL 59 yX2_out, .instanceMethod yX2_out, .selects RX2 yX2_out yX2_out, .initialized RX2, .code yX2_out cX2_out 4 (some .int), .classLink RX2 120 "java/lang/IndexOutOfBoundsException", .initialized "java/lang/IndexOutOfBoundsException", .fieldLink RX2 81 "SweepEqual$Design" "outputCount" "I", .fieldLink RX2 160 "SweepEqual$Design" "shownCount" "I", .fieldLink RX2 163 "SweepEqual$Design" "shown" "[I", .methodLink RX2 63 yX2_needSide, .instanceMethod yX2_needSide, .selects RX2 yX2_needSide yX2_needSide, .code yX2_needSide cX2_needSide 2 none, .methodLink RX2 77 yX2_designOf, .instanceMethod yX2_designOf, .selects RX2 yX2_designOf yX2_designOf, .code yX2_designOf cX2_designOf 2 (some (.object "SweepEqual$Design")), .fieldLink RX2 19 "SweepEqual" "designA" "LSweepEqual$Design;", .fieldLink RX2 23 "SweepEqual" "designB" "LSweepEqual$Design;"] ++ wsX00 ++ wsX20 ++ (vx_atS RX2 124 "java/lang/IndexOutOfBoundsException" ["java/lang/RuntimeException", "java/lang/Exception"]).filter goodWord)
def wsL_state : List Cond := .codeWith yL_state cL_state 5 (some .int) [(0, 10, 13, 25)] :: ([.classLink RL 25 "java/lang/IndexOutOfBoundsException", .methodLink RL 62 yX2_state, .instanceMethod yX2_state, .selects RX2 yX2_state yX2_state, .initialized RX2, .code yX2_state cX2_state 3 (some .int), .fieldLink RX2 166 "SweepEqual$Design" "states" "I", .methodLink RX2 63 yX2_needSide, .instanceMethod yX2_needSide, .selects RX2 yX2_needSide yX2_needSide, .code yX2_needSide cX2_needSide 2 none, .classLink RX2 120 "java/lang/IndexOutOfBoundsException", .initialized "java/lang/IndexOutOfBoundsException", .methodLink RX2 89 yX2_needLatch, .instanceMethod yX2_needLatch, .selects RX2 yX2_needLatch yX2_needLatch, .code yX2_needLatch cX2_needLatch 2 none, .fieldLink RX2 47 "SweepEqual" "latchCount" "I", .methodLink RX2 77 yX2_designOf, .instanceMethod yX2_designOf, .selects RX2 yX2_designOf yX2_designOf, .code yX2_designOf cX2_designOf 2 (some (.object "SweepEqual$Design")), .fieldLink RX2 19 "SweepEqual" "designA" "LSweepEqual$Design;", .fieldLink RX2 23 "SweepEqual" "designB" "LSweepEqual$Design;"] ++ wsX00 ++ wsX20 ++ (vx_atS RX2 124 "java/lang/IndexOutOfBoundsException" ["java/lang/RuntimeException", "java/lang/Exception"]).filter goodWord)
def wsL_count : List Cond := .codeWith yL_count cL_count 4 (some .int) [(0, 9, 12, 25)] :: ([.classLink RL 25 "java/lang/IndexOutOfBoundsException", .methodLink RL 65 yX2_count, .instanceMethod yX2_count, .selects RX2 yX2_count yX2_count, .initialized RX2, .code yX2_count cX2_count 2 (some .int), .classLink RX2 120 "java/lang/IndexOutOfBoundsException", .initialized "java/lang/IndexOutOfBoundsException", .fieldLink RX2 12 "SweepEqual" "nodes" "LSweepEqual$Nodes;", .fieldLink RX2 169 "SweepEqual$Nodes" "count" "I", .fieldLink RX2 30 "SweepEqual" "inputCount" "I", .fieldLink RX2 47 "SweepEqual" "latchCount" "I", .fieldLink RX2 19 "SweepEqual" "designA" "LSweepEqual$Design;", .fieldLink RX2 81 "SweepEqual$Design" "outputCount" "I", .fieldLink RX2 23 "SweepEqual" "designB" "LSweepEqual$Design;", .methodLink RX2 172 yX1_countAnds, .instanceMethod yX1_countAnds, .selects RX1 yX1_countAnds yX1_countAnds, .initialized RX1, .code yX1_countAnds cX1_countAnds 4 (some .int), .fieldLink RX1 11 "SweepEqual$Nodes" "count" "I", .fieldLink RX1 15 "SweepEqual$Nodes" "owners" "[I"] ++ wsX20 ++ wsX10 ++ wsX00 ++ (vx_atS RX2 124 "java/lang/IndexOutOfBoundsException" ["java/lang/RuntimeException", "java/lang/Exception"]).filter goodWord)
def wsL_law0_r1 : List Cond := [Cond.classLink RL 8 RX2, Cond.instantiable RX2 7, Cond.initialized RX2, Cond.classLink RL 69 RX3, Cond.instantiable RX3 16, Cond.initialized RX3, Cond.arrayClass .long, Cond.methodLink RL 68 yX2_init, Cond.instanceMethod yX2_init, Cond.code yX2_init cX2_init 1 none, Cond.methodLink RX2 3 objectInit, Cond.instanceMethod objectInit, Cond.code objectInit ⟨#[0xb1]⟩ 1 none, Cond.classLink RX2 9 RX1, Cond.instantiable RX1 4, Cond.initialized RX1, Cond.fieldLink RX2 12 "SweepEqual" "nodes" "LSweepEqual$Nodes;", Cond.classLink RX2 16 RX0, Cond.instantiable RX0 7, Cond.initialized RX0, Cond.fieldLink RX2 19 "SweepEqual" "designA" "LSweepEqual$Design;", Cond.fieldLink RX2 23 "SweepEqual" "designB" "LSweepEqual$Design;", Cond.fieldLink RX2 26 "SweepEqual" "apartStep" "I", Cond.methodLink RX2 11 yX1_init]
def wsL_law0_r2 : List Cond := [Cond.instanceMethod yX1_init, Cond.code yX1_init cX1_init 1 none, Cond.methodLink RX1 5 objectInit, Cond.fieldLink RX1 11 "SweepEqual$Nodes" "count" "I", Cond.arrayClass .int, Cond.fieldLink RX1 15 "SweepEqual$Nodes" "owners" "[I", Cond.fieldLink RX1 19 "SweepEqual$Nodes" "firsts" "[I", Cond.fieldLink RX1 22 "SweepEqual$Nodes" "rows" "[J", Cond.methodLink RX2 18 yX0_init, Cond.instanceMethod yX0_init, Cond.code yX0_init cX0_init 1 none, Cond.methodLink RX0 3 objectInit, Cond.fieldLink RX0 9 "SweepEqual$Design" "outputs" "[I", Cond.fieldLink RX0 15 "SweepEqual$Design" "nexts" "[I", Cond.fieldLink RX0 18 "SweepEqual$Design" "shown" "[I", Cond.methodLink RL 71 yX3_init, Cond.instanceMethod yX3_init, Cond.code yX3_init cX3_init 1 none, Cond.methodLink RX3 1 objectInit, Cond.fieldLink RX3 7 "SweepEqualModel" "sides" "[I", Cond.fieldLink RX3 13 "SweepEqualModel" "tables" "[J", Cond.fieldLink RX3 17 "SweepEqualModel" "latchNodes" "[I", Cond.fieldLink RX3 20 "SweepEqualModel" "starts" "[I", Cond.fieldLink RX3 23 "SweepEqualModel" "nexts" "[I"]
def wsL_law0_r3 : List Cond := [Cond.fieldLink RX3 26 "SweepEqualModel" "states" "[I", Cond.fieldLink RX3 29 "SweepEqualModel" "outputCounts" "[I", Cond.fieldLink RX3 32 "SweepEqualModel" "outputs" "[I", Cond.fieldLink RX3 35 "SweepEqualModel" "told" "[I", Cond.fieldLink RX3 38 "SweepEqualModel" "toldCounts" "[I", Cond.methodLink RX3 41 yX3_clear, Cond.instanceMethod yX3_clear, Cond.selects RX3 yX3_clear yX3_clear, Cond.code yX3_clear cX3_clear 2 none, Cond.fieldLink RX3 44 "SweepEqualModel" "thrown" "I", Cond.fieldLink RX3 48 "SweepEqualModel" "nodes" "I", Cond.fieldLink RX3 51 "SweepEqualModel" "inputs" "I", Cond.fieldLink RX3 54 "SweepEqualModel" "latches" "I", Cond.methodLink RX3 65 yX3_start, Cond.instanceMethod yX3_start, Cond.selects RX3 yX3_start yX3_start, Cond.code yX3_start cX3_start 2 none, Cond.fieldLink RX3 103 "SweepEqualModel" "steps" "I", Cond.fieldLink RX3 106 "SweepEqualModel" "firstApart" "I", Cond.methodLink RL 72 yL_input, Cond.static yL_input, Cond.initialized RL, Cond.codeWith yL_input cL_input 3 (some .int) [(0, 8, 11, 13)], Cond.classLink RL 13 "java/lang/IllegalStateException"]
def wsL_law0_r4 : List Cond := [Cond.methodLink RL 7 yX2_input, Cond.instanceMethod yX2_input, Cond.selects RX2 yX2_input yX2_input, Cond.code yX2_input cX2_input 2 (some .int), Cond.classLink RX2 33 "java/lang/IllegalStateException", Cond.initialized "java/lang/IllegalStateException", Cond.fieldLink RX2 30 "SweepEqual" "inputCount" "I", Cond.methodLink RX2 40 yX2_needRoomForNode, Cond.instanceMethod yX2_needRoomForNode, Cond.selects RX2 yX2_needRoomForNode yX2_needRoomForNode, Cond.code yX2_needRoomForNode cX2_needRoomForNode 1 none, Cond.fieldLink RX2 169 "SweepEqual$Nodes" "count" "I", Cond.methodLink RX2 43 yX1_addVariable, Cond.instanceMethod yX1_addVariable, Cond.selects RX1 yX1_addVariable yX1_addVariable, Cond.code yX1_addVariable cX1_addVariable 4 (some .int), Cond.methodLink RX1 26 yX1_growRows, Cond.instanceMethod yX1_growRows, Cond.selects RX1 yX1_growRows yX1_growRows, Cond.code yX1_growRows cX1_growRows 1 none, Cond.methodLink RX1 60 Lib.Math.min.name, Cond.static Lib.Math.min.name, Cond.initialized "java/lang/Math", Cond.code Lib.Math.min.name Lib.Math.min.code 2 (some .int)]
def wsL_law0_r5 : List Cond := [Cond.methodLink RX1 66 yJ7_copyOf_c38d5, Cond.static yJ7_copyOf_c38d5, Cond.initialized RJ7, Cond.code yJ7_copyOf_c38d5 cJ7_copyOf_c38d5 3 (some (.array .long)), Cond.methodLink RJ7 319 ⟨"[J", "clone", "()Ljava/lang/Object;"⟩, Cond.sameMethod "[J" "java/lang/Object" "clone" "()Ljava/lang/Object;", Cond.native ⟨"java/lang/Object", "clone", "()Ljava/lang/Object;"⟩, Cond.instanceMethod ⟨"java/lang/Object", "clone", "()Ljava/lang/Object;"⟩, Cond.selects "[J" ⟨"[J", "clone", "()Ljava/lang/Object;"⟩ ⟨"java/lang/Object", "clone", "()Ljava/lang/Object;"⟩, Cond.classLink RJ7 320 "[J", Cond.methodLink RJ7 304 Lib.Math.min.name, Cond.methodLink RJ7 150 arraycopyName, Cond.native arraycopyName, Cond.static arraycopyName, Cond.initialized "java/lang/System", Cond.methodLink RX1 29 yX1_variableWord, Cond.static yX1_variableWord, Cond.code yX1_variableWord cX1_variableWord 2 (some .long), Cond.fieldLink RX1 85 "SweepEqual$Nodes" "WORD_PATTERNS" "[J", Cond.constantLong RX1 88 (-1), Cond.methodLink RX1 33 yX1_settle, Cond.instanceMethod yX1_settle, Cond.selects RX1 yX1_settle yX1_settle, Cond.code yX1_settle cX1_settle 3 (some .int)]
def wsL_law0_r6 : List Cond := [Cond.methodLink RX1 72 yX1_findFirst, Cond.instanceMethod yX1_findFirst, Cond.selects RX1 yX1_findFirst yX1_findFirst, Cond.code yX1_findFirst cX1_findFirst 6 (some .int), Cond.methodLink RX1 75 yX1_valueIn, Cond.instanceMethod yX1_valueIn, Cond.selects RX1 yX1_valueIn yX1_valueIn, Cond.code yX1_valueIn cX1_valueIn 4 (some .int), Cond.methodLink RX1 37 yX1_wordOf, Cond.instanceMethod yX1_wordOf, Cond.selects RX1 yX1_wordOf yX1_wordOf, Cond.code yX1_wordOf cX1_wordOf 5 (some .long), Cond.methodLink RX1 78 yX1_leastDifference, Cond.instanceMethod yX1_leastDifference, Cond.selects RX1 yX1_leastDifference yX1_leastDifference, Cond.code yX1_leastDifference cX1_leastDifference 6 (some .int), Cond.methodLink RX1 57 yJ13_numberOfTrailingZeros_95d88, Cond.static yJ13_numberOfTrailingZeros_95d88, Cond.initialized RJ13, Cond.code yJ13_numberOfTrailingZeros_95d88 cJ13_numberOfTrailingZeros_95d88 3 (some .int), Cond.methodLink RJ13 311 yJ6_numberOfTrailingZeros_0f7a4, Cond.static yJ6_numberOfTrailingZeros_0f7a4, Cond.initialized RJ6, Cond.code yJ6_numberOfTrailingZeros_0f7a4 cJ6_numberOfTrailingZeros_0f7a4 2 (some .int)]
def wsL_law0_r7 : List Cond := [Cond.constant RJ6 264 (65536), Cond.methodLink RL 77 yX3_input, Cond.instanceMethod yX3_input, Cond.selects RX3 yX3_input yX3_input, Cond.code yX3_input cX3_input 1 (some .int), Cond.methodLink RX3 57 yX3_variable, Cond.instanceMethod yX3_variable, Cond.selects RX3 yX3_variable yX3_variable, Cond.code yX3_variable cX3_variable 3 (some .int), Cond.methodLink RL 78 yX3_thrown, Cond.instanceMethod yX3_thrown, Cond.selects RX3 yX3_thrown yX3_thrown, Cond.code yX3_thrown cX3_thrown 1 (some .int), Cond.methodLink RL 81 yL_latch, Cond.static yL_latch, Cond.codeWith yL_latch cL_latch 5 (some .int) [(0, 10, 13, 13), (0, 10, 17, 19)], Cond.classLink RL 19 "java/lang/IllegalArgumentException", Cond.methodLink RL 15 yX2_latch, Cond.instanceMethod yX2_latch, Cond.selects RX2 yX2_latch yX2_latch, Cond.code yX2_latch cX2_latch 4 (some .int), Cond.fieldLink RX2 47 "SweepEqual" "latchCount" "I", Cond.methodLink RX2 52 yX2_needStart, Cond.instanceMethod yX2_needStart]
def wsL_law0_r8 : List Cond := [Cond.selects RX2 yX2_needStart yX2_needStart, Cond.code yX2_needStart cX2_needStart 2 none, Cond.classLink RX2 187 "java/lang/IllegalArgumentException", Cond.initialized "java/lang/IllegalArgumentException", Cond.methodLink RX2 56 yX0_addLatch, Cond.instanceMethod yX0_addLatch, Cond.selects RX0 yX0_addLatch yX0_addLatch, Cond.code yX0_addLatch cX0_addLatch 4 none, Cond.fieldLink RX0 25 "SweepEqual$Design" "starts" "I", Cond.methodLink RX2 60 yX2_backToStarts, Cond.instanceMethod yX2_backToStarts, Cond.selects RX2 yX2_backToStarts yX2_backToStarts, Cond.code yX2_backToStarts cX2_backToStarts 1 none, Cond.fieldLink RX2 155 "SweepEqual" "steps" "I", Cond.methodLink RX2 199 yX0_backToStarts, Cond.instanceMethod yX0_backToStarts, Cond.selects RX0 yX0_backToStarts yX0_backToStarts, Cond.code yX0_backToStarts cX0_backToStarts 1 none, Cond.fieldLink RX0 28 "SweepEqual$Design" "states" "I", Cond.fieldLink RX0 31 "SweepEqual$Design" "shownCount" "I", Cond.methodLink RL 84 yX3_latch, Cond.instanceMethod yX3_latch, Cond.selects RX3 yX3_latch yX3_latch, Cond.code yX3_latch cX3_latch 5 (some .int)]
def wsL_law0_r9 : List Cond := [Cond.methodLink RX3 61 yX3_isSide, Cond.static yX3_isSide, Cond.code yX3_isSide cX3_isSide 1 (some .boolean), Cond.methodLink RL 85 yL_and, Cond.static yL_and, Cond.codeWith yL_and cL_and 6 (some .int) [(0, 12, 15, 25), (0, 12, 19, 13), (0, 12, 23, 19)], Cond.classLink RL 25 "java/lang/IndexOutOfBoundsException", Cond.methodLink RL 21 yX2_and, Cond.instanceMethod yX2_and, Cond.selects RX2 yX2_and yX2_and, Cond.code yX2_and cX2_and 4 (some .int), Cond.methodLink RX2 63 yX2_needSide, Cond.instanceMethod yX2_needSide, Cond.selects RX2 yX2_needSide yX2_needSide, Cond.code yX2_needSide cX2_needSide 2 none, Cond.classLink RX2 120 "java/lang/IndexOutOfBoundsException", Cond.initialized "java/lang/IndexOutOfBoundsException", Cond.methodLink RX2 66 yX2_needLiteral, Cond.instanceMethod yX2_needLiteral, Cond.selects RX2 yX2_needLiteral yX2_needLiteral, Cond.code yX2_needLiteral cX2_needLiteral 2 none, Cond.methodLink RX2 69 yX2_needOwn, Cond.instanceMethod yX2_needOwn, Cond.selects RX2 yX2_needOwn yX2_needOwn]
def wsL_law0_r10 : List Cond := [Cond.code yX2_needOwn cX2_needOwn 3 none, Cond.methodLink RX2 194 yX1_isOfOtherSide, Cond.instanceMethod yX1_isOfOtherSide, Cond.selects RX1 yX1_isOfOtherSide yX1_isOfOtherSide, Cond.code yX1_isOfOtherSide cX1_isOfOtherSide 4 (some .boolean), Cond.methodLink RX2 73 yX1_addAnd, Cond.instanceMethod yX1_addAnd, Cond.selects RX1 yX1_addAnd yX1_addAnd, Cond.code yX1_addAnd cX1_addAnd 6 (some .int), Cond.methodLink RL 88 yX3_and, Cond.instanceMethod yX3_and, Cond.selects RX3 yX3_and yX3_and, Cond.code yX3_and cX3_and 10 (some .int), Cond.constantLong RX3 75 (-1), Cond.methodLink RX3 68 yX3_isLiteral, Cond.instanceMethod yX3_isLiteral, Cond.selects RX3 yX3_isLiteral yX3_isLiteral, Cond.code yX3_isLiteral cX3_isLiteral 2 (some .boolean), Cond.methodLink RX3 71 yX3_isOther, Cond.instanceMethod yX3_isOther, Cond.selects RX3 yX3_isOther yX3_isOther, Cond.code yX3_isOther cX3_isOther 3 (some .boolean), Cond.methodLink RL 89 yL_output, Cond.static yL_output]
def wsL_law0_r11 : List Cond := [Cond.codeWith yL_output cL_output 5 (some .int) [(0, 10, 13, 25), (0, 10, 17, 13), (0, 10, 21, 19)], Cond.methodLink RL 27 yX2_output, Cond.instanceMethod yX2_output, Cond.selects RX2 yX2_output yX2_output, Cond.code yX2_output cX2_output 4 (some .int), Cond.fieldLink RX2 81 "SweepEqual$Design" "outputCount" "I", Cond.methodLink RX2 77 yX2_designOf, Cond.instanceMethod yX2_designOf, Cond.selects RX2 yX2_designOf yX2_designOf, Cond.code yX2_designOf cX2_designOf 2 (some (.object "SweepEqual$Design")), Cond.methodLink RX2 86 yX0_addOutput, Cond.instanceMethod yX0_addOutput, Cond.selects RX0 yX0_addOutput yX0_addOutput, Cond.code yX0_addOutput cX0_addOutput 2 (some .int), Cond.fieldLink RX0 21 "SweepEqual$Design" "outputCount" "I", Cond.methodLink RL 91 yX3_output, Cond.instanceMethod yX3_output, Cond.selects RX3 yX3_output yX3_output, Cond.code yX3_output cX3_output 4 (some .int), Cond.methodLink RL 92 yL_next, Cond.static yL_next, Cond.codeWith yL_next cL_next 6 (some .int) [(0, 12, 15, 25), (0, 12, 19, 19)], Cond.methodLink RL 30 yX2_next, Cond.instanceMethod yX2_next]
def wsL_law0_r12 : List Cond := [Cond.selects RX2 yX2_next yX2_next, Cond.code yX2_next cX2_next 6 (some .int), Cond.fieldLink RX2 92 "SweepEqual$Design" "nexts" "[I", Cond.methodLink RX2 89 yX2_needLatch, Cond.instanceMethod yX2_needLatch, Cond.selects RX2 yX2_needLatch yX2_needLatch, Cond.code yX2_needLatch cX2_needLatch 2 none, Cond.methodLink RL 94 yX3_next, Cond.instanceMethod yX3_next, Cond.selects RX3 yX3_next yX3_next, Cond.code yX3_next cX3_next 6 (some .int), Cond.methodLink RX3 77 yX3_isIn, Cond.static yX3_isIn, Cond.code yX3_isIn cX3_isIn 2 (some .boolean), Cond.methodLink RL 95 yL_same, Cond.static yL_same, Cond.codeWith yL_same cL_same 5 (some .int) [(0, 17, 20, 25)], Cond.methodLink RL 33 yX2_same, Cond.instanceMethod yX2_same, Cond.selects RX2 yX2_same yX2_same, Cond.code yX2_same cX2_same 3 (some .boolean), Cond.methodLink RX2 96 yX1_areSame, Cond.instanceMethod yX1_areSame, Cond.selects RX1 yX1_areSame yX1_areSame]
def wsL_law0_r13 : List Cond := [Cond.code yX1_areSame cX1_areSame 3 (some .boolean), Cond.methodLink RX1 40 yX1_firstOf, Cond.instanceMethod yX1_firstOf, Cond.selects RX1 yX1_firstOf yX1_firstOf, Cond.code yX1_firstOf cX1_firstOf 2 (some .int), Cond.methodLink RL 97 yX3_same, Cond.instanceMethod yX3_same, Cond.selects RX3 yX3_same yX3_same, Cond.code yX3_same cX3_same 3 (some .boolean), Cond.methodLink RX3 80 yX3_areSame, Cond.instanceMethod yX3_areSame, Cond.selects RX3 yX3_areSame yX3_areSame, Cond.code yX3_areSame cX3_areSame 6 (some .boolean), Cond.methodLink RL 98 yL_first, Cond.static yL_first, Cond.codeWith yL_first cL_first 4 (some .int) [(0, 9, 12, 25)], Cond.methodLink RL 37 yX2_first, Cond.instanceMethod yX2_first, Cond.selects RX2 yX2_first yX2_first, Cond.code yX2_first cX2_first 2 (some .int), Cond.methodLink RX2 100 yX1_firstOf, Cond.methodLink RL 101 yX3_first, Cond.instanceMethod yX3_first, Cond.selects RX3 yX3_first yX3_first]
def wsL_law0_r14 : List Cond := [Cond.code yX3_first cX3_first 2 (some .int), Cond.methodLink RX3 83 yX3_firstOf, Cond.instanceMethod yX3_firstOf, Cond.selects RX3 yX3_firstOf yX3_firstOf, Cond.code yX3_firstOf cX3_firstOf 3 (some .int), Cond.methodLink RL 102 yX2_classes, Cond.instanceMethod yX2_classes, Cond.selects RX2 yX2_classes yX2_classes, Cond.code yX2_classes cX2_classes 1 (some .int), Cond.methodLink RX2 103 yX1_countClasses, Cond.instanceMethod yX1_countClasses, Cond.selects RX1 yX1_countClasses yX1_countClasses, Cond.code yX1_countClasses cX1_countClasses 3 (some .int), Cond.methodLink RX1 43 yX1_isLeast, Cond.instanceMethod yX1_isLeast, Cond.selects RX1 yX1_isLeast yX1_isLeast, Cond.code yX1_isLeast cX1_isLeast 2 (some .boolean), Cond.methodLink RL 105 yX3_classes, Cond.instanceMethod yX3_classes, Cond.selects RX3 yX3_classes yX3_classes, Cond.code yX3_classes cX3_classes 3 (some .int), Cond.methodLink RX3 86 yX3_isLeast, Cond.instanceMethod yX3_isLeast, Cond.selects RX3 yX3_isLeast yX3_isLeast]
def wsL_law0_r15 : List Cond := [Cond.code yX3_isLeast cX3_isLeast 3 (some .boolean), Cond.methodLink RL 106 yL_merged, Cond.static yL_merged, Cond.codeWith yL_merged cL_merged 4 (some .int) [(0, 9, 12, 25)], Cond.methodLink RL 41 yX2_merged, Cond.instanceMethod yX2_merged, Cond.selects RX2 yX2_merged yX2_merged, Cond.code yX2_merged cX2_merged 2 (some .int), Cond.methodLink RX2 107 yX1_countMerged, Cond.instanceMethod yX1_countMerged, Cond.selects RX1 yX1_countMerged yX1_countMerged, Cond.code yX1_countMerged cX1_countMerged 4 (some .int), Cond.methodLink RL 108 yX3_merged, Cond.instanceMethod yX3_merged, Cond.selects RX3 yX3_merged yX3_merged, Cond.code yX3_merged cX3_merged 4 (some .int), Cond.methodLink RL 109 yL_hangs, Cond.static yL_hangs, Cond.codeWith yL_hangs cL_hangs 4 (some .int) [(0, 9, 12, 25)], Cond.methodLink RL 44 yX2_hangs, Cond.instanceMethod yX2_hangs, Cond.selects RX2 yX2_hangs yX2_hangs, Cond.code yX2_hangs cX2_hangs 2 (some .int), Cond.methodLink RX2 110 yX1_supportOf]
def wsL_law0_r16 : List Cond := [Cond.instanceMethod yX1_supportOf, Cond.selects RX1 yX1_supportOf yX1_supportOf, Cond.code yX1_supportOf cX1_supportOf 4 (some .int), Cond.methodLink RX1 53 yX1_hangsOn, Cond.instanceMethod yX1_hangsOn, Cond.selects RX1 yX1_hangsOn yX1_hangsOn, Cond.code yX1_hangsOn cX1_hangsOn 4 (some .boolean), Cond.methodLink RX1 81 yX1_wordHangsOn, Cond.instanceMethod yX1_wordHangsOn, Cond.selects RX1 yX1_wordHangsOn yX1_wordHangsOn, Cond.code yX1_wordHangsOn cX1_wordHangsOn 8 (some .boolean), Cond.methodLink RL 111 yX3_hangs, Cond.instanceMethod yX3_hangs, Cond.selects RX3 yX3_hangs yX3_hangs, Cond.code yX3_hangs cX3_hangs 5 (some .int), Cond.methodLink RX3 89 yX3_bit, Cond.instanceMethod yX3_bit, Cond.selects RX3 yX3_bit yX3_bit, Cond.code yX3_bit cX3_bit 5 (some .int), Cond.methodLink RL 112 yL_ones, Cond.static yL_ones, Cond.codeWith yL_ones cL_ones 4 (some .int) [(0, 9, 12, 25)], Cond.methodLink RL 47 yX2_ones, Cond.instanceMethod yX2_ones]
def wsL_law0_r17 : List Cond := [Cond.selects RX2 yX2_ones yX2_ones, Cond.code yX2_ones cX2_ones 2 (some .int), Cond.methodLink RX2 113 yX1_countOnes, Cond.instanceMethod yX1_countOnes, Cond.selects RX1 yX1_countOnes yX1_countOnes, Cond.code yX1_countOnes cX1_countOnes 4 (some .int), Cond.methodLink RX1 47 yJ13_bitCount_95d88, Cond.static yJ13_bitCount_95d88, Cond.code yJ13_bitCount_95d88 cJ13_bitCount_95d88 2 (some .int), Cond.constantLong RJ13 314 (6148914691236517205), Cond.constantLong RJ13 316 (3689348814741910323), Cond.constantLong RJ13 318 (1085102592571150095), Cond.methodLink RL 114 yX3_ones, Cond.instanceMethod yX3_ones, Cond.selects RX3 yX3_ones yX3_ones, Cond.code yX3_ones cX3_ones 4 (some .int), Cond.methodLink RX3 93 yX3_present, Cond.instanceMethod yX3_present, Cond.selects RX3 yX3_present yX3_present, Cond.code yX3_present cX3_present 1 (some .int), Cond.methodLink RL 115 yL_value, Cond.static yL_value, Cond.codeWith yL_value cL_value 5 (some .int) [(0, 10, 13, 25)], Cond.methodLink RL 50 yX2_value]
def wsL_law0_r18 : List Cond := [Cond.instanceMethod yX2_value, Cond.selects RX2 yX2_value yX2_value, Cond.code yX2_value cX2_value 3 (some .int), Cond.methodLink RX2 116 yX1_valueIn, Cond.methodLink RL 117 yX3_value, Cond.instanceMethod yX3_value, Cond.selects RX3 yX3_value yX3_value, Cond.code yX3_value cX3_value 3 (some .int), Cond.methodLink RL 118 yL_differs, Cond.static yL_differs, Cond.codeWith yL_differs cL_differs 4 (some .int) [(0, 9, 12, 25)], Cond.methodLink RL 53 yX2_differs, Cond.instanceMethod yX2_differs, Cond.selects RX2 yX2_differs yX2_differs, Cond.code yX2_differs cX2_differs 5 (some .int), Cond.fieldLink RX2 128 "SweepEqual$Design" "outputs" "[I", Cond.methodLink RX2 125 yX2_sharedOutputs, Cond.instanceMethod yX2_sharedOutputs, Cond.selects RX2 yX2_sharedOutputs yX2_sharedOutputs, Cond.code yX2_sharedOutputs cX2_sharedOutputs 1 (some .int), Cond.methodLink RX2 200 Lib.Math.min.name, Cond.methodLink RX2 131 yX2_countDifferent, Cond.instanceMethod yX2_countDifferent, Cond.selects RX2 yX2_countDifferent yX2_countDifferent]
def wsL_law0_r19 : List Cond := [Cond.code yX2_countDifferent cX2_countDifferent 6 (some .int), Cond.methodLink RX2 135 yX2_placeOfDifferent, Cond.instanceMethod yX2_placeOfDifferent, Cond.selects RX2 yX2_placeOfDifferent yX2_placeOfDifferent, Cond.code yX2_placeOfDifferent cX2_placeOfDifferent 7 (some .int), Cond.methodLink RX2 139 yX2_differentStartOrSize, Cond.instanceMethod yX2_differentStartOrSize, Cond.selects RX2 yX2_differentStartOrSize yX2_differentStartOrSize, Cond.code yX2_differentStartOrSize cX2_differentStartOrSize 5 (some .int), Cond.fieldLink RX2 205 "SweepEqual$Design" "starts" "I", Cond.methodLink RL 120 yX3_differs, Cond.instanceMethod yX3_differs, Cond.selects RX3 yX3_differs yX3_differs, Cond.code yX3_differs cX3_differs 5 (some .int), Cond.methodLink RX3 100 yX3_isApart, Cond.instanceMethod yX3_isApart, Cond.selects RX3 yX3_isApart yX3_isApart, Cond.code yX3_isApart cX3_isApart 2 (some .boolean), Cond.methodLink RX3 97 yX3_both, Cond.instanceMethod yX3_both, Cond.selects RX3 yX3_both yX3_both, Cond.code yX3_both cX3_both 1 (some .int), Cond.methodLink RL 121 yL_witness, Cond.static yL_witness]
def wsL_law0_r20 : List Cond := [Cond.codeWith yL_witness cL_witness 4 (some .int) [(0, 9, 12, 25)], Cond.methodLink RL 56 yX2_witness, Cond.instanceMethod yX2_witness, Cond.selects RX2 yX2_witness yX2_witness, Cond.code yX2_witness cX2_witness 3 (some .int), Cond.methodLink RX2 142 yX1_leastDifference, Cond.methodLink RL 123 yX3_witness, Cond.instanceMethod yX3_witness, Cond.selects RX3 yX3_witness yX3_witness, Cond.code yX3_witness cX3_witness 7 (some .int), Cond.methodLink RL 124 yX2_reset, Cond.instanceMethod yX2_reset, Cond.selects RX2 yX2_reset yX2_reset, Cond.code yX2_reset cX2_reset 1 none, Cond.methodLink RL 127 yX3_reset, Cond.instanceMethod yX3_reset, Cond.selects RX3 yX3_reset yX3_reset, Cond.code yX3_reset cX3_reset 1 none, Cond.methodLink RL 128 yX2_step, Cond.instanceMethod yX2_step, Cond.selects RX2 yX2_step yX2_step, Cond.code yX2_step cX2_step 2 (some .int), Cond.methodLink RX2 147 yX0_runStep, Cond.instanceMethod yX0_runStep]
def wsL_law0_r21 : List Cond := [Cond.selects RX0 yX0_runStep yX0_runStep, Cond.code yX0_runStep cX0_runStep 7 none, Cond.methodLink RX0 34 yX1_valueIn, Cond.methodLink RX2 151 yX2_showApart, Cond.instanceMethod yX2_showApart, Cond.selects RX2 yX2_showApart yX2_showApart, Cond.code yX2_showApart cX2_showApart 3 (some .boolean), Cond.fieldLink RX2 160 "SweepEqual$Design" "shownCount" "I", Cond.fieldLink RX2 163 "SweepEqual$Design" "shown" "[I", Cond.methodLink RL 131 yX3_step, Cond.instanceMethod yX3_step, Cond.selects RX3 yX3_step yX3_step, Cond.code yX3_step cX3_step 5 (some .int), Cond.methodLink RX3 109 yX3_assignment, Cond.instanceMethod yX3_assignment, Cond.selects RX3 yX3_assignment yX3_assignment, Cond.code yX3_assignment cX3_assignment 5 (some .int), Cond.methodLink RL 132 yL_out, Cond.static yL_out, Cond.codeWith yL_out cL_out 5 (some .int) [(0, 10, 13, 25)], Cond.methodLink RL 59 yX2_out, Cond.instanceMethod yX2_out, Cond.selects RX2 yX2_out yX2_out, Cond.code yX2_out cX2_out 4 (some .int)]
def wsL_law0_r22 : List Cond := [Cond.methodLink RL 134 yX3_out, Cond.instanceMethod yX3_out, Cond.selects RX3 yX3_out yX3_out, Cond.code yX3_out cX3_out 3 (some .int), Cond.methodLink RL 135 yL_state, Cond.static yL_state, Cond.codeWith yL_state cL_state 5 (some .int) [(0, 10, 13, 25)], Cond.methodLink RL 62 yX2_state, Cond.instanceMethod yX2_state, Cond.selects RX2 yX2_state yX2_state, Cond.code yX2_state cX2_state 3 (some .int), Cond.fieldLink RX2 166 "SweepEqual$Design" "states" "I", Cond.methodLink RL 137 yX3_state, Cond.instanceMethod yX3_state, Cond.selects RX3 yX3_state yX3_state, Cond.code yX3_state cX3_state 3 (some .int), Cond.methodLink RL 138 yX2_apart, Cond.instanceMethod yX2_apart, Cond.selects RX2 yX2_apart yX2_apart, Cond.code yX2_apart cX2_apart 1 (some .int), Cond.methodLink RL 141 yX3_apart, Cond.instanceMethod yX3_apart, Cond.selects RX3 yX3_apart yX3_apart, Cond.code yX3_apart cX3_apart 1 (some .int)]
def wsL_law0_r23 : List Cond := [Cond.methodLink RL 142 yL_count, Cond.static yL_count, Cond.codeWith yL_count cL_count 4 (some .int) [(0, 9, 12, 25)], Cond.methodLink RL 65 yX2_count, Cond.instanceMethod yX2_count, Cond.selects RX2 yX2_count yX2_count, Cond.code yX2_count cX2_count 2 (some .int), Cond.methodLink RX2 172 yX1_countAnds, Cond.instanceMethod yX1_countAnds, Cond.selects RX1 yX1_countAnds yX1_countAnds, Cond.code yX1_countAnds cX1_countAnds 4 (some .int), Cond.methodLink RL 144 yX3_count, Cond.instanceMethod yX3_count, Cond.selects RX3 yX3_count yX3_count, Cond.code yX3_count cX3_count 2 (some .int), Cond.methodLink RX3 112 yX3_ands, Cond.instanceMethod yX3_ands, Cond.selects RX3 yX3_ands yX3_ands, Cond.code yX3_ands cX3_ands 4 (some .int), Cond.methodLink RL 145 yX2_clear, Cond.instanceMethod yX2_clear, Cond.selects RX2 yX2_clear yX2_clear, Cond.code yX2_clear cX2_clear 1 none, Cond.methodLink RX2 177 yX1_forget]
def wsL_law0_r24 : List Cond := [Cond.instanceMethod yX1_forget, Cond.selects RX1 yX1_forget yX1_forget, Cond.code yX1_forget cX1_forget 1 none, Cond.methodLink RX2 180 yX0_forget, Cond.instanceMethod yX0_forget, Cond.selects RX0 yX0_forget yX0_forget, Cond.code yX0_forget cX0_forget 1 none, Cond.methodLink RL 148 yX3_clear]
def wsL_law0 : List Cond := (wsL_law0_r1 ++ (wsL_law0_r2 ++ (wsL_law0_r3 ++ (wsL_law0_r4 ++ (wsL_law0_r5 ++ (wsL_law0_r6 ++ (wsL_law0_r7 ++ (wsL_law0_r8 ++ (wsL_law0_r9 ++ (wsL_law0_r10 ++ (wsL_law0_r11 ++ (wsL_law0_r12 ++ (wsL_law0_r13 ++ (wsL_law0_r14 ++ (wsL_law0_r15 ++ (wsL_law0_r16 ++ (wsL_law0_r17 ++ (wsL_law0_r18 ++ (wsL_law0_r19 ++ (wsL_law0_r20 ++ (wsL_law0_r21 ++ (wsL_law0_r22 ++ (wsL_law0_r23 ++ wsL_law0_r24))))))))))))))))))))))) ++ wsX20 ++ wsX30 ++ wsX10 ++ wsX00 ++ ([] : List Cond)
def wsL_law : List Cond := wsL_law0 ++ (vx_atS RX2 37 "java/lang/IllegalStateException" ["java/lang/RuntimeException", "java/lang/Exception"]).filter goodWord ++ (vx_atS RX2 191 "java/lang/IllegalArgumentException" ["java/lang/RuntimeException", "java/lang/Exception"]).filter goodWord ++ (vx_atS RX2 124 "java/lang/IndexOutOfBoundsException" ["java/lang/RuntimeException", "java/lang/Exception"]).filter goodWord
set_option maxRecDepth 20000 in
theorem wsL_law_in0 : ∀ w ∈ wsL_law0, w ∈ lw_tbl := fun w h => (goodIn_p wsL_law0 [54, 57, 62, 84, 579, 584, 588, 208, 280, 285, 289, 184, 293, 307, 313, 317, 172, 176, 322, 325, 328, 645, 649, 641, 337, 342, 362, 156, 160, 653, 656, 370, 374, 394, 399, 403, 408, 660, 664, 668, 415, 419, 424, 673, 431, 435, 677, 680, 443, 447, 451, 684, 688, 458, 692, 696, 140, 144, 148, 700, 704, 466, 470, 708, 477, 481, 485, 489, 712, 716, 496, 500, 503, 720, 724, 513, 728, 521, 526, 530, 534, 538, 732, 736, 740, 545, 744, 152, 748, 164, 168, 181, 752, 756, 554, 760, 562, 764, 188, 768, 569, 573, 772, 776, 192, 196, 200] (by decide +kernel) (by decide +kernel) w h).1
theorem wsL_law_x0 : ∀ w ∈ (vx_atS RX2 37 "java/lang/IllegalStateException" ["java/lang/RuntimeException", "java/lang/Exception"]).filter goodWord, w ∈ lw_tbl := by decide +kernel
theorem wsL_law_x1 : ∀ w ∈ (vx_atS RX2 191 "java/lang/IllegalArgumentException" ["java/lang/RuntimeException", "java/lang/Exception"]).filter goodWord, w ∈ lw_tbl := by decide +kernel
theorem wsL_law_x2 : ∀ w ∈ (vx_atS RX2 124 "java/lang/IndexOutOfBoundsException" ["java/lang/RuntimeException", "java/lang/Exception"]).filter goodWord, w ∈ lw_tbl := by decide +kernel
theorem wsL_law_in : ∀ w ∈ wsL_law, w ∈ lw_tbl := fun w h => (List.mem_append.mp h).elim (fun h => (List.mem_append.mp h).elim (fun h => (List.mem_append.mp h).elim (fun h => wsL_law_in0 w h) (fun h => wsL_law_x0 w h)) (fun h => wsL_law_x1 w h)) (fun h => wsL_law_x2 w h)
theorem inlX0 : ∀ w ∈ wsX00, w ∈ wsL_law := fun _ h => List.mem_append_left _ (List.mem_append_left _ (List.mem_append_left _ (List.mem_append_left _ (List.mem_append_right _ h))))
theorem inX0 : ∀ w ∈ wsX00, w ∈ lw_tbl := fun w h => wsL_law_in w (inlX0 w h)
theorem inlX1 : ∀ w ∈ wsX10, w ∈ wsL_law := fun _ h => List.mem_append_left _ (List.mem_append_left _ (List.mem_append_left _ (List.mem_append_left _ (List.mem_append_left _ (List.mem_append_right _ h)))))
theorem inX1 : ∀ w ∈ wsX10, w ∈ lw_tbl := fun w h => wsL_law_in w (inlX1 w h)
theorem inlX2 : ∀ w ∈ wsX20, w ∈ wsL_law := fun _ h => List.mem_append_left _ (List.mem_append_left _ (List.mem_append_left _ (List.mem_append_left _ (List.mem_append_left _ (List.mem_append_left _ (List.mem_append_left _ (List.mem_append_right _ h)))))))
theorem inX2 : ∀ w ∈ wsX20, w ∈ lw_tbl := fun w h => wsL_law_in w (inlX2 w h)
theorem inlX3 : ∀ w ∈ wsX30, w ∈ wsL_law := fun _ h => List.mem_append_left _ (List.mem_append_left _ (List.mem_append_left _ (List.mem_append_left _ (List.mem_append_left _ (List.mem_append_left _ (List.mem_append_right _ h))))))
theorem inX3 : ∀ w ∈ wsX30, w ∈ lw_tbl := fun w h => wsL_law_in w (inlX3 w h)
theorem inJx8e188 : ∀ w ∈ wsJx8e1880, w ∈ lw_tbl := by decide +kernel
theorem inJ6 : ∀ w ∈ wsJ60, w ∈ lw_tbl := by decide +kernel
theorem inJ13 : ∀ w ∈ wsJ130, w ∈ lw_tbl := by decide +kernel
theorem inJ9 : ∀ w ∈ wsJ90, w ∈ lw_tbl := by decide +kernel
theorem inJ0 : ∀ w ∈ wsJ00, w ∈ lw_tbl := by decide +kernel
theorem inJ10 : ∀ w ∈ wsJ100, w ∈ lw_tbl := by decide +kernel
theorem inJ7 : ∀ w ∈ wsJ70, w ∈ lw_tbl := by decide +kernel
set_option maxRecDepth 20000 in
theorem ggX0_runStep_X1_valueIn : GoodIn wsX0_runStep wsX1_valueIn := goodIn_r _ [11, 12, 13, 14, 10, 15, 16, 17, 25, 26, 27, 28] (by decide +kernel) (by decide +kernel)
set_option maxRecDepth 20000 in
theorem gX0_runStep_X1_valueIn : GoodIn wsX0_runStep (wsV RX0 34 RX1 yX1_valueIn wsX1_valueIn) := goodIn_app (goodIn_of _ (by decide +kernel)) ggX0_runStep_X1_valueIn
set_option maxRecDepth 20000 in
theorem ggX1_addVariable_X1_growRows : GoodIn wsX1_addVariable wsX1_growRows := goodIn_r _ [7, 1, 2, 8, 9, 10, 11, 12, 13, 14, 15, 16, 17, 18, 19, 20, 21, 22, 23, 24, 25, 26, 27, 64, 65, 66, 67] (by decide +kernel) (by decide +kernel)
set_option maxRecDepth 20000 in
theorem gX1_addVariable_X1_growRows : GoodIn wsX1_addVariable (wsV RX1 26 RX1 yX1_growRows wsX1_growRows) := goodIn_app (goodIn_of _ (by decide +kernel)) ggX1_addVariable_X1_growRows
set_option maxRecDepth 20000 in
theorem ggX1_addVariable_X1_variableWord : GoodIn wsX1_addVariable wsX1_variableWord := goodIn_r _ [30, 31, 32] (by decide +kernel) (by decide +kernel)
set_option maxRecDepth 20000 in
theorem gX1_addVariable_X1_variableWord : GoodIn wsX1_addVariable (va_wsS RX1 29 yX1_variableWord wsX1_variableWord) := goodIn_app (goodIn_of _ (by decide +kernel)) ggX1_addVariable_X1_variableWord
set_option maxRecDepth 20000 in
theorem ggX1_addVariable_X1_settle : GoodIn wsX1_addVariable wsX1_settle := goodIn_r _ [36, 1, 37, 38, 39, 40, 41, 6, 42, 43, 44, 45, 46, 47, 48, 49, 50, 2, 32, 51, 52, 53, 54, 55, 56, 57, 58, 59, 60, 61, 62, 63, 64, 65, 66, 67] (by decide +kernel) (by decide +kernel)
set_option maxRecDepth 20000 in
theorem gX1_addVariable_X1_settle : GoodIn wsX1_addVariable (wsV RX1 33 RX1 yX1_settle wsX1_settle) := goodIn_app (goodIn_of _ (by decide +kernel)) ggX1_addVariable_X1_settle
set_option maxRecDepth 20000 in
theorem ggX1_addAnd_X1_growRows : GoodIn wsX1_addAnd wsX1_growRows := goodIn_r _ [7, 1, 2, 8, 9, 10, 11, 12, 13, 14, 15, 16, 17, 18, 19, 20, 21, 22, 23, 24, 25, 26, 27, 60, 61, 62, 63] (by decide +kernel) (by decide +kernel)
set_option maxRecDepth 20000 in
theorem gX1_addAnd_X1_growRows : GoodIn wsX1_addAnd (wsV RX1 26 RX1 yX1_growRows wsX1_growRows) := goodIn_app (goodIn_of _ (by decide +kernel)) ggX1_addAnd_X1_growRows
set_option maxRecDepth 20000 in
theorem ggX1_addAnd_X1_wordOf : GoodIn wsX1_addAnd wsX1_wordOf := goodIn_r _ [31, 2, 32, 60, 61, 62, 63] (by decide +kernel) (by decide +kernel)
set_option maxRecDepth 20000 in
theorem gX1_addAnd_X1_wordOf : GoodIn wsX1_addAnd (wsV RX1 37 RX1 yX1_wordOf wsX1_wordOf) := goodIn_app (goodIn_of _ (by decide +kernel)) ggX1_addAnd_X1_wordOf
set_option maxRecDepth 20000 in
theorem ggX1_addAnd_X1_settle : GoodIn wsX1_addAnd wsX1_settle := goodIn_r _ [36, 1, 37, 38, 39, 40, 41, 6, 42, 43, 44, 45, 46, 28, 29, 30, 31, 2, 32, 47, 48, 49, 50, 51, 52, 53, 54, 55, 56, 57, 58, 59, 60, 61, 62, 63] (by decide +kernel) (by decide +kernel)
set_option maxRecDepth 20000 in
theorem gX1_addAnd_X1_settle : GoodIn wsX1_addAnd (wsV RX1 33 RX1 yX1_settle wsX1_settle) := goodIn_app (goodIn_of _ (by decide +kernel)) ggX1_addAnd_X1_settle
set_option maxRecDepth 20000 in
theorem ggX1_areSame_X1_firstOf : GoodIn wsX1_areSame wsX1_firstOf := goodIn_r _ [5, 6, 7, 8, 9, 10] (by decide +kernel) (by decide +kernel)
set_option maxRecDepth 20000 in
theorem gX1_areSame_X1_firstOf : GoodIn wsX1_areSame (wsV RX1 40 RX1 yX1_firstOf wsX1_firstOf) := goodIn_app (goodIn_of _ (by decide +kernel)) ggX1_areSame_X1_firstOf
set_option maxRecDepth 20000 in
theorem ggX1_countClasses_X1_isLeast : GoodIn wsX1_countClasses wsX1_isLeast := goodIn_r _ [6, 7, 8, 9, 10, 11] (by decide +kernel) (by decide +kernel)
set_option maxRecDepth 20000 in
theorem gX1_countClasses_X1_isLeast : GoodIn wsX1_countClasses (wsV RX1 43 RX1 yX1_isLeast wsX1_isLeast) := goodIn_app (goodIn_of _ (by decide +kernel)) ggX1_countClasses_X1_isLeast
set_option maxRecDepth 20000 in
theorem ggX1_countMerged_X1_isLeast : GoodIn wsX1_countMerged wsX1_isLeast := goodIn_r _ [7, 8, 9, 10, 11, 12] (by decide +kernel) (by decide +kernel)
set_option maxRecDepth 20000 in
theorem gX1_countMerged_X1_isLeast : GoodIn wsX1_countMerged (wsV RX1 43 RX1 yX1_isLeast wsX1_isLeast) := goodIn_app (goodIn_of _ (by decide +kernel)) ggX1_countMerged_X1_isLeast
set_option maxRecDepth 20000 in
theorem ggX1_countOnes_X1_wordOf : GoodIn wsX1_countOnes wsX1_wordOf := goodIn_r _ [5, 6, 7, 15, 16, 17, 18] (by decide +kernel) (by decide +kernel)
set_option maxRecDepth 20000 in
theorem gX1_countOnes_X1_wordOf : GoodIn wsX1_countOnes (wsV RX1 37 RX1 yX1_wordOf wsX1_wordOf) := goodIn_app (goodIn_of _ (by decide +kernel)) ggX1_countOnes_X1_wordOf
set_option maxRecDepth 20000 in
theorem ggX1_countOnes_J13_bitCount_95d88 : GoodIn wsX1_countOnes wsJ13_bitCount_95d88 := goodIn_r _ [11, 12, 13, 14] (by decide +kernel) (by decide +kernel)
set_option maxRecDepth 20000 in
theorem gX1_countOnes_J13_bitCount_95d88 : GoodIn wsX1_countOnes (va_wsS RX1 47 yJ13_bitCount_95d88 wsJ13_bitCount_95d88) := goodIn_app (goodIn_of _ (by decide +kernel)) ggX1_countOnes_J13_bitCount_95d88
set_option maxRecDepth 20000 in
theorem ggX1_valueIn_X1_wordOf : GoodIn wsX1_valueIn wsX1_wordOf := goodIn_r _ [5, 6, 7, 8, 9, 10, 11] (by decide +kernel) (by decide +kernel)
set_option maxRecDepth 20000 in
theorem gX1_valueIn_X1_wordOf : GoodIn wsX1_valueIn (wsV RX1 37 RX1 yX1_wordOf wsX1_wordOf) := goodIn_app (goodIn_of _ (by decide +kernel)) ggX1_valueIn_X1_wordOf
set_option maxRecDepth 20000 in
theorem ggX1_supportOf_X1_hangsOn : GoodIn wsX1_supportOf wsX1_hangsOn := goodIn_r _ [5, 6, 7, 8, 4, 9, 10, 11, 12, 13, 14, 15, 16, 17, 18, 19, 20] (by decide +kernel) (by decide +kernel)
set_option maxRecDepth 20000 in
theorem gX1_supportOf_X1_hangsOn : GoodIn wsX1_supportOf (wsV RX1 53 RX1 yX1_hangsOn wsX1_hangsOn) := goodIn_app (goodIn_of _ (by decide +kernel)) ggX1_supportOf_X1_hangsOn
set_option maxRecDepth 20000 in
theorem ggX1_leastDifference_X1_wordOf : GoodIn wsX1_leastDifference wsX1_wordOf := goodIn_r _ [5, 6, 7, 17, 18, 19, 20] (by decide +kernel) (by decide +kernel)
set_option maxRecDepth 20000 in
theorem gX1_leastDifference_X1_wordOf : GoodIn wsX1_leastDifference (wsV RX1 37 RX1 yX1_wordOf wsX1_wordOf) := goodIn_app (goodIn_of _ (by decide +kernel)) ggX1_leastDifference_X1_wordOf
set_option maxRecDepth 20000 in
theorem ggX1_leastDifference_J13_numberOfTrailingZeros_95d88 : GoodIn wsX1_leastDifference wsJ13_numberOfTrailingZeros_95d88 := goodIn_r _ [11, 12, 13, 14, 15, 16] (by decide +kernel) (by decide +kernel)
set_option maxRecDepth 20000 in
theorem gX1_leastDifference_J13_numberOfTrailingZeros_95d88 : GoodIn wsX1_leastDifference (va_wsS RX1 57 yJ13_numberOfTrailingZeros_95d88 wsJ13_numberOfTrailingZeros_95d88) := goodIn_app (goodIn_of _ (by decide +kernel)) ggX1_leastDifference_J13_numberOfTrailingZeros_95d88
set_option maxRecDepth 20000 in
theorem ggX1_growRows_J7_copyOf_c38d5 : GoodIn wsX1_growRows wsJ7_copyOf_c38d5 := goodIn_r _ [10, 11, 12, 13, 14, 15, 16, 17, 18, 4, 5, 6, 19, 20, 21, 22] (by decide +kernel) (by decide +kernel)
set_option maxRecDepth 20000 in
theorem gX1_growRows_J7_copyOf_c38d5 : GoodIn wsX1_growRows (va_wsS RX1 66 yJ7_copyOf_c38d5 wsJ7_copyOf_c38d5) := goodIn_app (goodIn_of _ (by decide +kernel)) ggX1_growRows_J7_copyOf_c38d5
set_option maxRecDepth 20000 in
theorem ggX1_settle_X1_findFirst : GoodIn wsX1_settle wsX1_findFirst := goodIn_r _ [8, 9, 10, 11, 7, 12, 13, 14, 15, 16, 17, 18, 19, 20, 21, 22, 23, 24, 25, 26, 27, 28, 29, 30, 31, 32, 33, 34, 35] (by decide +kernel) (by decide +kernel)
set_option maxRecDepth 20000 in
theorem gX1_settle_X1_findFirst : GoodIn wsX1_settle (wsV RX1 72 RX1 yX1_findFirst wsX1_findFirst) := goodIn_app (goodIn_of _ (by decide +kernel)) ggX1_settle_X1_findFirst
set_option maxRecDepth 20000 in
theorem ggX1_findFirst_X1_valueIn : GoodIn wsX1_findFirst wsX1_valueIn := goodIn_r _ [5, 6, 7, 8, 4, 9, 10, 11, 25, 26, 27, 28] (by decide +kernel) (by decide +kernel)
set_option maxRecDepth 20000 in
theorem gX1_findFirst_X1_valueIn : GoodIn wsX1_findFirst (wsV RX1 75 RX1 yX1_valueIn wsX1_valueIn) := goodIn_app (goodIn_of _ (by decide +kernel)) ggX1_findFirst_X1_valueIn
set_option maxRecDepth 20000 in
theorem ggX1_findFirst_X1_leastDifference : GoodIn wsX1_findFirst wsX1_leastDifference := goodIn_r _ [15, 6, 7, 8, 4, 9, 10, 11, 16, 17, 18, 19, 20, 21, 22, 23, 24, 25, 26, 27, 28] (by decide +kernel) (by decide +kernel)
set_option maxRecDepth 20000 in
theorem gX1_findFirst_X1_leastDifference : GoodIn wsX1_findFirst (wsV RX1 78 RX1 yX1_leastDifference wsX1_leastDifference) := goodIn_app (goodIn_of _ (by decide +kernel)) ggX1_findFirst_X1_leastDifference
set_option maxRecDepth 20000 in
theorem ggX1_hangsOn_X1_wordHangsOn : GoodIn wsX1_hangsOn wsX1_wordHangsOn := goodIn_r _ [5, 6, 7, 8, 9, 10, 4, 11, 12, 13, 14, 15, 16] (by decide +kernel) (by decide +kernel)
set_option maxRecDepth 20000 in
theorem gX1_hangsOn_X1_wordHangsOn : GoodIn wsX1_hangsOn (wsV RX1 81 RX1 yX1_wordHangsOn wsX1_wordHangsOn) := goodIn_app (goodIn_of _ (by decide +kernel)) ggX1_hangsOn_X1_wordHangsOn
set_option maxRecDepth 20000 in
theorem ggX1_wordHangsOn_X1_wordOf : GoodIn wsX1_wordHangsOn wsX1_wordOf := goodIn_r _ [7, 8, 2, 9, 10, 11, 12] (by decide +kernel) (by decide +kernel)
set_option maxRecDepth 20000 in
theorem gX1_wordHangsOn_X1_wordOf : GoodIn wsX1_wordHangsOn (wsV RX1 37 RX1 yX1_wordOf wsX1_wordOf) := goodIn_app (goodIn_of _ (by decide +kernel)) ggX1_wordHangsOn_X1_wordOf
set_option maxRecDepth 20000 in
theorem ggX2_init_X1_init : GoodIn wsX2_init wsX1_init := goodIn_r _ [16, 17, 2, 3, 18, 19, 20, 21, 22, 23, 31, 32, 33, 34] (by decide +kernel) (by decide +kernel)
set_option maxRecDepth 20000 in
theorem gX2_init_X1_init : GoodIn wsX2_init (wsX1_init) := ggX2_init_X1_init
set_option maxRecDepth 20000 in
theorem ggX2_init_X0_init : GoodIn wsX2_init wsX0_init := goodIn_r _ [26, 27, 2, 3, 19, 28, 29, 30, 42, 43, 44, 45, 46, 47, 48] (by decide +kernel) (by decide +kernel)
set_option maxRecDepth 20000 in
theorem gX2_init_X0_init : GoodIn wsX2_init (wsX0_init) := ggX2_init_X0_init
set_option maxRecDepth 20000 in
theorem ggX2_input_X2_needRoomForNode : GoodIn wsX2_input wsX2_needRoomForNode := goodIn_ca (goodIn_r _ [9, 1, 2, 4, 10, 78, 79, 80, 81, 82, 83, 84, 85, 86, 87, 88] (by decide +kernel) (by decide +kernel)) (goodIn_sub (fun _ h => List.mem_cons_of_mem _ (List.mem_append_right _ h)) (by decide +kernel))
set_option maxRecDepth 20000 in
theorem gX2_input_X2_needRoomForNode : GoodIn wsX2_input (wsV RX2 40 RX2 yX2_needRoomForNode wsX2_needRoomForNode) := goodIn_app (goodIn_of _ (by decide +kernel)) ggX2_input_X2_needRoomForNode
set_option maxRecDepth 20000 in
theorem ggX2_input_X1_addVariable : GoodIn wsX2_input wsX1_addVariable := goodIn_r _ [15, 16, 17, 18, 19, 20, 14, 21, 22, 23, 24, 25, 26, 27, 28, 29, 30, 31, 32, 33, 34, 35, 36, 37, 38, 39, 40, 41, 42, 43, 44, 45, 46, 47, 48, 49, 50, 51, 52, 53, 54, 55, 56, 57, 58, 59, 60, 61, 62, 63, 64, 65, 66, 67, 68, 69, 70, 71, 72, 73, 74, 75, 76, 77, 85, 86, 87, 88] (by decide +kernel) (by decide +kernel)
set_option maxRecDepth 20000 in
theorem gX2_input_X1_addVariable : GoodIn wsX2_input (wsV RX2 43 RX1 yX1_addVariable wsX1_addVariable) := goodIn_app (goodIn_of _ (by decide +kernel)) ggX2_input_X1_addVariable
set_option maxRecDepth 20000 in
theorem ggX2_latch_X2_needRoomForNode : GoodIn wsX2_latch wsX2_needRoomForNode := goodIn_ca (goodIn_r _ [11, 1, 2, 4, 12, 105, 106, 107, 108, 109, 110, 111, 112, 113, 114, 115] (by decide +kernel) (by decide +kernel)) (goodIn_sub (fun _ h => List.mem_cons_of_mem _ (List.mem_append_left _ (List.mem_append_right _ h))) (by decide +kernel))
set_option maxRecDepth 20000 in
theorem gX2_latch_X2_needRoomForNode : GoodIn wsX2_latch (wsV RX2 40 RX2 yX2_needRoomForNode wsX2_needRoomForNode) := goodIn_app (goodIn_of _ (by decide +kernel)) ggX2_latch_X2_needRoomForNode
set_option maxRecDepth 20000 in
theorem ggX2_latch_X2_needStart : GoodIn wsX2_latch wsX2_needStart := goodIn_ca (goodIn_r _ [16, 17, 18] (by decide +kernel) (by decide +kernel)) (goodIn_sub (fun _ h => List.mem_cons_of_mem _ (List.mem_append_right _ h)) (by decide +kernel))
set_option maxRecDepth 20000 in
theorem gX2_latch_X2_needStart : GoodIn wsX2_latch (wsV RX2 52 RX2 yX2_needStart wsX2_needStart) := goodIn_app (goodIn_of _ (by decide +kernel)) ggX2_latch_X2_needStart
set_option maxRecDepth 20000 in
theorem ggX2_latch_X1_addVariable : GoodIn wsX2_latch wsX1_addVariable := goodIn_r _ [23, 24, 25, 26, 27, 28, 22, 29, 30, 31, 32, 33, 34, 35, 36, 37, 38, 39, 40, 41, 42, 43, 44, 45, 46, 47, 48, 49, 50, 51, 52, 53, 54, 55, 56, 57, 58, 59, 60, 61, 62, 63, 64, 65, 66, 67, 68, 69, 70, 71, 72, 73, 74, 75, 76, 77, 78, 79, 80, 81, 82, 83, 84, 85, 112, 113, 114, 115] (by decide +kernel) (by decide +kernel)
set_option maxRecDepth 20000 in
theorem gX2_latch_X1_addVariable : GoodIn wsX2_latch (wsV RX2 43 RX1 yX1_addVariable wsX1_addVariable) := goodIn_app (goodIn_of _ (by decide +kernel)) ggX2_latch_X1_addVariable
set_option maxRecDepth 20000 in
theorem ggX2_latch_X0_addLatch : GoodIn wsX2_latch wsX0_addLatch := goodIn_r _ [90, 91, 92, 116, 117, 118, 119, 120, 121, 122] (by decide +kernel) (by decide +kernel)
set_option maxRecDepth 20000 in
theorem gX2_latch_X0_addLatch : GoodIn wsX2_latch (wsV RX2 56 RX0 yX0_addLatch wsX0_addLatch) := goodIn_app (goodIn_of _ (by decide +kernel)) ggX2_latch_X0_addLatch
set_option maxRecDepth 20000 in
theorem ggX2_latch_X2_backToStarts : GoodIn wsX2_latch wsX2_backToStarts := goodIn_r _ [96, 5, 6, 97, 98, 99, 100, 101, 89, 102, 91, 103, 104, 105, 106, 107, 108, 109, 110, 111, 116, 117, 118, 119, 120, 121, 122] (by decide +kernel) (by decide +kernel)
set_option maxRecDepth 20000 in
theorem gX2_latch_X2_backToStarts : GoodIn wsX2_latch (wsV RX2 60 RX2 yX2_backToStarts wsX2_backToStarts) := goodIn_app (goodIn_of _ (by decide +kernel)) ggX2_latch_X2_backToStarts
set_option maxRecDepth 20000 in
theorem ggX2_and_X2_needSide : GoodIn wsX2_and wsX2_needSide := goodIn_ca (goodIn_r _ [6, 7, 8] (by decide +kernel) (by decide +kernel)) (goodIn_sub (fun _ h => List.mem_cons_of_mem _ (List.mem_append_left _ (List.mem_append_left _ (List.mem_append_right _ h)))) (by decide +kernel))
set_option maxRecDepth 20000 in
theorem gX2_and_X2_needSide : GoodIn wsX2_and (wsV RX2 63 RX2 yX2_needSide wsX2_needSide) := goodIn_app (goodIn_of _ (by decide +kernel)) ggX2_and_X2_needSide
set_option maxRecDepth 20000 in
theorem ggX2_and_X2_needLiteral : GoodIn wsX2_and wsX2_needLiteral := goodIn_ca (goodIn_r _ [12, 7, 8, 1, 13, 93, 94, 95, 96, 97, 98, 99, 100, 101, 102, 103] (by decide +kernel) (by decide +kernel)) (goodIn_sub (fun _ h => List.mem_cons_of_mem _ (List.mem_append_left _ (List.mem_append_left _ (List.mem_append_right _ h)))) (by decide +kernel))
set_option maxRecDepth 20000 in
theorem gX2_and_X2_needLiteral : GoodIn wsX2_and (wsV RX2 66 RX2 yX2_needLiteral wsX2_needLiteral) := goodIn_app (goodIn_of _ (by decide +kernel)) ggX2_and_X2_needLiteral
set_option maxRecDepth 20000 in
theorem ggX2_and_X2_needRoomForNode : GoodIn wsX2_and wsX2_needRoomForNode := goodIn_ca (goodIn_r _ [17, 18, 19, 1, 13, 93, 94, 95, 96, 97, 98, 99, 100, 101, 102, 103] (by decide +kernel) (by decide +kernel)) (goodIn_sub (fun _ h => List.mem_cons_of_mem _ (List.mem_append_left _ (List.mem_append_right _ h))) (by decide +kernel))
set_option maxRecDepth 20000 in
theorem gX2_and_X2_needRoomForNode : GoodIn wsX2_and (wsV RX2 40 RX2 yX2_needRoomForNode wsX2_needRoomForNode) := goodIn_app (goodIn_of _ (by decide +kernel)) ggX2_and_X2_needRoomForNode
set_option maxRecDepth 20000 in
theorem ggX2_and_X2_needOwn : GoodIn wsX2_and wsX2_needOwn := goodIn_ca (goodIn_r _ [23, 24, 25, 1, 26, 27, 28, 29, 30, 31, 93, 94, 95, 96, 97, 98, 99, 100, 101, 102, 103] (by decide +kernel) (by decide +kernel)) (goodIn_sub (fun _ h => List.mem_cons_of_mem _ (List.mem_append_right _ h)) (by decide +kernel))
set_option maxRecDepth 20000 in
theorem gX2_and_X2_needOwn : GoodIn wsX2_and (wsV RX2 69 RX2 yX2_needOwn wsX2_needOwn) := goodIn_app (goodIn_of _ (by decide +kernel)) ggX2_and_X2_needOwn
set_option maxRecDepth 20000 in
theorem ggX2_and_X1_addAnd : GoodIn wsX2_and wsX1_addAnd := goodIn_r _ [35, 36, 37, 38, 39, 40, 29, 41, 42, 43, 44, 45, 46, 47, 48, 49, 50, 51, 52, 53, 54, 55, 56, 57, 58, 59, 60, 61, 62, 63, 64, 65, 66, 67, 68, 69, 70, 31, 71, 72, 73, 74, 75, 76, 77, 78, 79, 80, 81, 82, 83, 84, 85, 86, 87, 88, 89, 90, 91, 92, 100, 101, 102, 103] (by decide +kernel) (by decide +kernel)
set_option maxRecDepth 20000 in
theorem gX2_and_X1_addAnd : GoodIn wsX2_and (wsV RX2 73 RX1 yX1_addAnd wsX1_addAnd) := goodIn_app (goodIn_of _ (by decide +kernel)) ggX2_and_X1_addAnd
set_option maxRecDepth 20000 in
theorem ggX2_output_X2_needSide : GoodIn wsX2_output wsX2_needSide := goodIn_ca (goodIn_r _ [8, 9, 10] (by decide +kernel) (by decide +kernel)) (goodIn_sub (fun _ h => List.mem_cons_of_mem _ (List.mem_append_left _ (List.mem_append_right _ h))) (by decide +kernel))
set_option maxRecDepth 20000 in
theorem gX2_output_X2_needSide : GoodIn wsX2_output (wsV RX2 63 RX2 yX2_needSide wsX2_needSide) := goodIn_app (goodIn_of _ (by decide +kernel)) ggX2_output_X2_needSide
set_option maxRecDepth 20000 in
theorem ggX2_output_X2_needLiteral : GoodIn wsX2_output wsX2_needLiteral := goodIn_ca (goodIn_r _ [14, 9, 10, 15, 16, 49, 50, 51, 52, 53, 54, 55, 56, 57, 58, 59] (by decide +kernel) (by decide +kernel)) (goodIn_sub (fun _ h => List.mem_cons_of_mem _ (List.mem_append_left _ (List.mem_append_right _ h))) (by decide +kernel))
set_option maxRecDepth 20000 in
theorem gX2_output_X2_needLiteral : GoodIn wsX2_output (wsV RX2 66 RX2 yX2_needLiteral wsX2_needLiteral) := goodIn_app (goodIn_of _ (by decide +kernel)) ggX2_output_X2_needLiteral
set_option maxRecDepth 20000 in
theorem ggX2_output_X2_designOf : GoodIn wsX2_output wsX2_designOf := goodIn_r _ [20, 21, 22, 49, 50, 51, 52, 53, 54, 55] (by decide +kernel) (by decide +kernel)
set_option maxRecDepth 20000 in
theorem gX2_output_X2_designOf : GoodIn wsX2_output (wsV RX2 77 RX2 yX2_designOf wsX2_designOf) := goodIn_app (goodIn_of _ (by decide +kernel)) ggX2_output_X2_designOf
set_option maxRecDepth 20000 in
theorem ggX2_output_X2_needOwn : GoodIn wsX2_output wsX2_needOwn := goodIn_ca (goodIn_r _ [26, 27, 28, 15, 29, 30, 31, 32, 33, 34, 49, 50, 51, 52, 53, 54, 55, 56, 57, 58, 59] (by decide +kernel) (by decide +kernel)) (goodIn_sub (fun _ h => List.mem_cons_of_mem _ (List.mem_append_right _ h)) (by decide +kernel))
set_option maxRecDepth 20000 in
theorem gX2_output_X2_needOwn : GoodIn wsX2_output (wsV RX2 69 RX2 yX2_needOwn wsX2_needOwn) := goodIn_app (goodIn_of _ (by decide +kernel)) ggX2_output_X2_needOwn
set_option maxRecDepth 20000 in
theorem ggX2_output_X0_addOutput : GoodIn wsX2_output wsX0_addOutput := goodIn_r _ [39, 40, 41, 42, 43, 44, 45, 46, 47, 48] (by decide +kernel) (by decide +kernel)
set_option maxRecDepth 20000 in
theorem gX2_output_X0_addOutput : GoodIn wsX2_output (wsV RX2 86 RX0 yX0_addOutput wsX0_addOutput) := goodIn_app (goodIn_of _ (by decide +kernel)) ggX2_output_X0_addOutput
set_option maxRecDepth 20000 in
theorem ggX2_next_X2_needSide : GoodIn wsX2_next wsX2_needSide := goodIn_ca (goodIn_r _ [6, 7, 8] (by decide +kernel) (by decide +kernel)) (goodIn_sub (fun _ h => List.mem_cons_of_mem _ (List.mem_append_left _ (List.mem_append_right _ h))) (by decide +kernel))
set_option maxRecDepth 20000 in
theorem gX2_next_X2_needSide : GoodIn wsX2_next (wsV RX2 63 RX2 yX2_needSide wsX2_needSide) := goodIn_app (goodIn_of _ (by decide +kernel)) ggX2_next_X2_needSide
set_option maxRecDepth 20000 in
theorem ggX2_next_X2_needLatch : GoodIn wsX2_next wsX2_needLatch := goodIn_ca (goodIn_r _ [12, 7, 8, 13, 45, 46, 47, 48, 49, 50, 51] (by decide +kernel) (by decide +kernel)) (goodIn_sub (fun _ h => List.mem_cons_of_mem _ (List.mem_append_left _ (List.mem_append_right _ h))) (by decide +kernel))
set_option maxRecDepth 20000 in
theorem gX2_next_X2_needLatch : GoodIn wsX2_next (wsV RX2 89 RX2 yX2_needLatch wsX2_needLatch) := goodIn_app (goodIn_of _ (by decide +kernel)) ggX2_next_X2_needLatch
set_option maxRecDepth 20000 in
theorem ggX2_next_X2_needLiteral : GoodIn wsX2_next wsX2_needLiteral := goodIn_ca (goodIn_r _ [17, 7, 8, 18, 19, 45, 46, 47, 48, 49, 50, 51, 52, 53, 54, 55] (by decide +kernel) (by decide +kernel)) (goodIn_sub (fun _ h => List.mem_cons_of_mem _ (List.mem_append_left _ (List.mem_append_right _ h))) (by decide +kernel))
set_option maxRecDepth 20000 in
theorem gX2_next_X2_needLiteral : GoodIn wsX2_next (wsV RX2 66 RX2 yX2_needLiteral wsX2_needLiteral) := goodIn_app (goodIn_of _ (by decide +kernel)) ggX2_next_X2_needLiteral
set_option maxRecDepth 20000 in
theorem ggX2_next_X2_needOwn : GoodIn wsX2_next wsX2_needOwn := goodIn_ca (goodIn_r _ [23, 24, 25, 18, 26, 27, 28, 29, 30, 31, 45, 46, 47, 48, 49, 50, 51, 52, 53, 54, 55] (by decide +kernel) (by decide +kernel)) (goodIn_sub (fun _ h => List.mem_cons_of_mem _ (List.mem_append_right _ h)) (by decide +kernel))
set_option maxRecDepth 20000 in
theorem gX2_next_X2_needOwn : GoodIn wsX2_next (wsV RX2 69 RX2 yX2_needOwn wsX2_needOwn) := goodIn_app (goodIn_of _ (by decide +kernel)) ggX2_next_X2_needOwn
set_option maxRecDepth 20000 in
theorem ggX2_next_X2_designOf : GoodIn wsX2_next wsX2_designOf := goodIn_r _ [35, 36, 37, 45, 46, 47, 48, 49, 50, 51] (by decide +kernel) (by decide +kernel)
set_option maxRecDepth 20000 in
theorem gX2_next_X2_designOf : GoodIn wsX2_next (wsV RX2 77 RX2 yX2_designOf wsX2_designOf) := goodIn_app (goodIn_of _ (by decide +kernel)) ggX2_next_X2_designOf
set_option maxRecDepth 20000 in
theorem ggX2_same_X2_needLiteral : GoodIn wsX2_same wsX2_needLiteral := goodIn_ca (goodIn_r _ [6, 7, 8, 1, 9, 20, 21, 22, 23, 24, 25, 26, 27, 28, 29, 30] (by decide +kernel) (by decide +kernel)) (goodIn_sub (fun _ h => List.mem_cons_of_mem _ (List.mem_append_right _ h)) (by decide +kernel))
set_option maxRecDepth 20000 in
theorem gX2_same_X2_needLiteral : GoodIn wsX2_same (wsV RX2 66 RX2 yX2_needLiteral wsX2_needLiteral) := goodIn_app (goodIn_of _ (by decide +kernel)) ggX2_same_X2_needLiteral
set_option maxRecDepth 20000 in
theorem ggX2_same_X1_areSame : GoodIn wsX2_same wsX1_areSame := goodIn_r _ [14, 15, 16, 17, 13, 18, 19, 27, 28, 29, 30] (by decide +kernel) (by decide +kernel)
set_option maxRecDepth 20000 in
theorem gX2_same_X1_areSame : GoodIn wsX2_same (wsV RX2 96 RX1 yX1_areSame wsX1_areSame) := goodIn_app (goodIn_of _ (by decide +kernel)) ggX2_same_X1_areSame
set_option maxRecDepth 20000 in
theorem ggX2_first_X2_needLiteral : GoodIn wsX2_first wsX2_needLiteral := goodIn_ca (goodIn_r _ [6, 7, 8, 1, 9, 16, 17, 18, 19, 20, 21, 22, 23, 24, 25, 26] (by decide +kernel) (by decide +kernel)) (goodIn_sub (fun _ h => List.mem_cons_of_mem _ (List.mem_append_right _ h)) (by decide +kernel))
set_option maxRecDepth 20000 in
theorem gX2_first_X2_needLiteral : GoodIn wsX2_first (wsV RX2 66 RX2 yX2_needLiteral wsX2_needLiteral) := goodIn_app (goodIn_of _ (by decide +kernel)) ggX2_first_X2_needLiteral
set_option maxRecDepth 20000 in
theorem ggX2_first_X1_firstOf : GoodIn wsX2_first wsX1_firstOf := goodIn_r _ [14, 15, 23, 24, 25, 26] (by decide +kernel) (by decide +kernel)
set_option maxRecDepth 20000 in
theorem gX2_first_X1_firstOf : GoodIn wsX2_first (wsV RX2 100 RX1 yX1_firstOf wsX1_firstOf) := goodIn_app (goodIn_of _ (by decide +kernel)) ggX2_first_X1_firstOf
set_option maxRecDepth 20000 in
theorem ggX2_classes_X1_countClasses : GoodIn wsX2_classes wsX1_countClasses := goodIn_r _ [6, 7, 8, 9, 10, 5, 11, 12, 20, 21, 22, 23] (by decide +kernel) (by decide +kernel)
set_option maxRecDepth 20000 in
theorem gX2_classes_X1_countClasses : GoodIn wsX2_classes (wsV RX2 103 RX1 yX1_countClasses wsX1_countClasses) := goodIn_app (goodIn_of _ (by decide +kernel)) ggX2_classes_X1_countClasses
set_option maxRecDepth 20000 in
theorem ggX2_merged_X2_needSide : GoodIn wsX2_merged wsX2_needSide := goodIn_ca (goodIn_r _ [6, 7, 8] (by decide +kernel) (by decide +kernel)) (goodIn_sub (fun _ h => List.mem_cons_of_mem _ (List.mem_append_right _ h)) (by decide +kernel))
set_option maxRecDepth 20000 in
theorem gX2_merged_X2_needSide : GoodIn wsX2_merged (wsV RX2 63 RX2 yX2_needSide wsX2_needSide) := goodIn_app (goodIn_of _ (by decide +kernel)) ggX2_merged_X2_needSide
set_option maxRecDepth 20000 in
theorem ggX2_merged_X1_countMerged : GoodIn wsX2_merged wsX1_countMerged := goodIn_r _ [13, 14, 15, 16, 17, 18, 12, 19, 20, 28, 29, 30, 31] (by decide +kernel) (by decide +kernel)
set_option maxRecDepth 20000 in
theorem gX2_merged_X1_countMerged : GoodIn wsX2_merged (wsV RX2 107 RX1 yX1_countMerged wsX1_countMerged) := goodIn_app (goodIn_of _ (by decide +kernel)) ggX2_merged_X1_countMerged
set_option maxRecDepth 20000 in
theorem ggX2_hangs_X2_needLiteral : GoodIn wsX2_hangs wsX2_needLiteral := goodIn_ca (goodIn_r _ [6, 7, 8, 1, 9, 30, 31, 32, 33, 34, 35, 36, 37, 38, 39, 40] (by decide +kernel) (by decide +kernel)) (goodIn_sub (fun _ h => List.mem_cons_of_mem _ (List.mem_append_right _ h)) (by decide +kernel))
set_option maxRecDepth 20000 in
theorem gX2_hangs_X2_needLiteral : GoodIn wsX2_hangs (wsV RX2 66 RX2 yX2_needLiteral wsX2_needLiteral) := goodIn_app (goodIn_of _ (by decide +kernel)) ggX2_hangs_X2_needLiteral
set_option maxRecDepth 20000 in
theorem ggX2_hangs_X1_supportOf : GoodIn wsX2_hangs wsX1_supportOf := goodIn_r _ [14, 15, 16, 17, 13, 18, 19, 20, 21, 22, 23, 24, 25, 26, 27, 28, 29, 37, 38, 39, 40] (by decide +kernel) (by decide +kernel)
set_option maxRecDepth 20000 in
theorem gX2_hangs_X1_supportOf : GoodIn wsX2_hangs (wsV RX2 110 RX1 yX1_supportOf wsX1_supportOf) := goodIn_app (goodIn_of _ (by decide +kernel)) ggX2_hangs_X1_supportOf
set_option maxRecDepth 20000 in
theorem ggX2_ones_X2_needLiteral : GoodIn wsX2_ones wsX2_needLiteral := goodIn_ca (goodIn_r _ [8, 9, 10, 1, 11, 30, 31, 32, 33, 34, 35, 36, 37, 38, 39, 40] (by decide +kernel) (by decide +kernel)) (goodIn_sub (fun _ h => List.mem_cons_of_mem _ (List.mem_append_right _ h)) (by decide +kernel))
set_option maxRecDepth 20000 in
theorem gX2_ones_X2_needLiteral : GoodIn wsX2_ones (wsV RX2 66 RX2 yX2_needLiteral wsX2_needLiteral) := goodIn_app (goodIn_of _ (by decide +kernel)) ggX2_ones_X2_needLiteral
set_option maxRecDepth 20000 in
theorem ggX2_ones_X1_countOnes : GoodIn wsX2_ones wsX1_countOnes := goodIn_r _ [16, 17, 18, 19, 15, 20, 21, 22, 23, 24, 25, 26, 27, 28, 29, 37, 38, 39, 40] (by decide +kernel) (by decide +kernel)
set_option maxRecDepth 20000 in
theorem gX2_ones_X1_countOnes : GoodIn wsX2_ones (wsV RX2 113 RX1 yX1_countOnes wsX1_countOnes) := goodIn_app (goodIn_of _ (by decide +kernel)) ggX2_ones_X1_countOnes
set_option maxRecDepth 20000 in
theorem ggX2_value_X2_needLiteral : GoodIn wsX2_value wsX2_needLiteral := goodIn_ca (goodIn_r _ [6, 7, 8, 1, 9, 21, 22, 23, 24, 25, 26, 27, 28, 29, 30, 31] (by decide +kernel) (by decide +kernel)) (goodIn_sub (fun _ h => List.mem_cons_of_mem _ (List.mem_append_right _ h)) (by decide +kernel))
set_option maxRecDepth 20000 in
theorem gX2_value_X2_needLiteral : GoodIn wsX2_value (wsV RX2 66 RX2 yX2_needLiteral wsX2_needLiteral) := goodIn_app (goodIn_of _ (by decide +kernel)) ggX2_value_X2_needLiteral
set_option maxRecDepth 20000 in
theorem ggX2_value_X1_valueIn : GoodIn wsX2_value wsX1_valueIn := goodIn_r _ [14, 15, 16, 17, 13, 18, 19, 20, 28, 29, 30, 31] (by decide +kernel) (by decide +kernel)
set_option maxRecDepth 20000 in
theorem gX2_value_X1_valueIn : GoodIn wsX2_value (wsV RX2 116 RX1 yX1_valueIn wsX1_valueIn) := goodIn_app (goodIn_of _ (by decide +kernel)) ggX2_value_X1_valueIn
set_option maxRecDepth 20000 in
theorem ggX2_differs_X2_sharedOutputs : GoodIn wsX2_differs wsX2_sharedOutputs := goodIn_r _ [12, 3, 13, 5, 14, 15, 16, 17, 42, 43, 44, 45, 46, 47, 48, 49, 50, 51, 52, 53, 54, 55] (by decide +kernel) (by decide +kernel)
set_option maxRecDepth 20000 in
theorem gX2_differs_X2_sharedOutputs : GoodIn wsX2_differs (wsV RX2 125 RX2 yX2_sharedOutputs wsX2_sharedOutputs) := goodIn_app (goodIn_of _ (by decide +kernel)) ggX2_differs_X2_sharedOutputs
set_option maxRecDepth 20000 in
theorem ggX2_differs_X2_countDifferent : GoodIn wsX2_differs wsX2_countDifferent := goodIn_r _ [21, 22, 23, 24, 25, 26, 27, 28, 29, 30, 31, 32, 42, 43, 44, 45, 46, 47, 48, 56, 57, 58, 59] (by decide +kernel) (by decide +kernel)
set_option maxRecDepth 20000 in
theorem gX2_differs_X2_countDifferent : GoodIn wsX2_differs (wsV RX2 131 RX2 yX2_countDifferent wsX2_countDifferent) := goodIn_app (goodIn_of _ (by decide +kernel)) ggX2_differs_X2_countDifferent
set_option maxRecDepth 20000 in
theorem ggX2_differs_X2_placeOfDifferent : GoodIn wsX2_differs wsX2_placeOfDifferent := goodIn_r _ [36, 22, 23, 24, 25, 26, 27, 28, 29, 30, 31, 32, 42, 43, 44, 45, 46, 47, 48, 56, 57, 58, 59] (by decide +kernel) (by decide +kernel)
set_option maxRecDepth 20000 in
theorem gX2_differs_X2_placeOfDifferent : GoodIn wsX2_differs (wsV RX2 135 RX2 yX2_placeOfDifferent wsX2_placeOfDifferent) := goodIn_app (goodIn_of _ (by decide +kernel)) ggX2_differs_X2_placeOfDifferent
set_option maxRecDepth 20000 in
theorem ggX2_differs_X2_differentStartOrSize : GoodIn wsX2_differs wsX2_differentStartOrSize := goodIn_r _ [40, 3, 41, 5, 7, 13, 42, 43, 44, 45, 46, 47, 48, 49, 50, 51, 52, 53, 54, 55] (by decide +kernel) (by decide +kernel)
set_option maxRecDepth 20000 in
theorem gX2_differs_X2_differentStartOrSize : GoodIn wsX2_differs (wsV RX2 139 RX2 yX2_differentStartOrSize wsX2_differentStartOrSize) := goodIn_app (goodIn_of _ (by decide +kernel)) ggX2_differs_X2_differentStartOrSize
set_option maxRecDepth 20000 in
theorem ggX2_witness_X2_sharedOutputs : GoodIn wsX2_witness wsX2_sharedOutputs := goodIn_r _ [13, 4, 14, 6, 15, 16, 17, 18, 39, 40, 41, 42, 43, 44, 45, 46, 47, 48, 49, 50, 51, 52] (by decide +kernel) (by decide +kernel)
set_option maxRecDepth 20000 in
theorem gX2_witness_X2_sharedOutputs : GoodIn wsX2_witness (wsV RX2 125 RX2 yX2_sharedOutputs wsX2_sharedOutputs) := goodIn_app (goodIn_of _ (by decide +kernel)) ggX2_witness_X2_sharedOutputs
set_option maxRecDepth 20000 in
theorem ggX2_witness_X1_leastDifference : GoodIn wsX2_witness wsX1_leastDifference := goodIn_r _ [23, 24, 25, 26, 22, 27, 28, 29, 30, 31, 32, 33, 34, 35, 36, 37, 38, 53, 54, 55, 56] (by decide +kernel) (by decide +kernel)
set_option maxRecDepth 20000 in
theorem gX2_witness_X1_leastDifference : GoodIn wsX2_witness (wsV RX2 142 RX1 yX1_leastDifference wsX1_leastDifference) := goodIn_app (goodIn_of _ (by decide +kernel)) ggX2_witness_X1_leastDifference
set_option maxRecDepth 20000 in
theorem ggX2_reset_X2_backToStarts : GoodIn wsX2_reset wsX2_backToStarts := goodIn_r _ [5, 6, 7, 8, 9, 10, 11, 12, 13, 14, 15, 16, 17, 18, 19, 20, 21, 22, 23, 24, 25, 26, 27, 28, 29, 30, 31] (by decide +kernel) (by decide +kernel)
set_option maxRecDepth 20000 in
theorem gX2_reset_X2_backToStarts : GoodIn wsX2_reset (wsV RX2 60 RX2 yX2_backToStarts wsX2_backToStarts) := goodIn_app (goodIn_of _ (by decide +kernel)) ggX2_reset_X2_backToStarts
set_option maxRecDepth 20000 in
theorem ggX2_step_X0_runStep : GoodIn wsX2_step wsX0_runStep := goodIn_r _ [11, 12, 13, 14, 15, 16, 17, 18, 19, 20, 21, 22, 23, 24, 25, 26, 27, 28, 47, 48, 49, 50, 51, 52, 53, 54, 55, 56, 57] (by decide +kernel) (by decide +kernel)
set_option maxRecDepth 20000 in
theorem gX2_step_X0_runStep : GoodIn wsX2_step (wsV RX2 147 RX0 yX0_runStep wsX0_runStep) := goodIn_app (goodIn_of _ (by decide +kernel)) ggX2_step_X0_runStep
set_option maxRecDepth 20000 in
theorem ggX2_step_X2_showApart : GoodIn wsX2_step wsX2_showApart := goodIn_r _ [33, 1, 34, 4, 35, 36, 37, 38, 39, 40, 41, 42, 43, 44, 45, 46, 47, 48, 49, 50, 51, 52, 53] (by decide +kernel) (by decide +kernel)
set_option maxRecDepth 20000 in
theorem gX2_step_X2_showApart : GoodIn wsX2_step (wsV RX2 151 RX2 yX2_showApart wsX2_showApart) := goodIn_app (goodIn_of _ (by decide +kernel)) ggX2_step_X2_showApart
set_option maxRecDepth 20000 in
theorem ggX2_out_X2_needSide : GoodIn wsX2_out wsX2_needSide := goodIn_ca (goodIn_r _ [10, 1, 2] (by decide +kernel) (by decide +kernel)) (goodIn_sub (fun _ h => List.mem_cons_of_mem _ (List.mem_append_right _ h)) (by decide +kernel))
set_option maxRecDepth 20000 in
theorem gX2_out_X2_needSide : GoodIn wsX2_out (wsV RX2 63 RX2 yX2_needSide wsX2_needSide) := goodIn_app (goodIn_of _ (by decide +kernel)) ggX2_out_X2_needSide
set_option maxRecDepth 20000 in
theorem ggX2_out_X2_designOf : GoodIn wsX2_out wsX2_designOf := goodIn_r _ [14, 15, 16, 24, 25, 26, 27, 28, 29, 30] (by decide +kernel) (by decide +kernel)
set_option maxRecDepth 20000 in
theorem gX2_out_X2_designOf : GoodIn wsX2_out (wsV RX2 77 RX2 yX2_designOf wsX2_designOf) := goodIn_app (goodIn_of _ (by decide +kernel)) ggX2_out_X2_designOf
set_option maxRecDepth 20000 in
theorem ggX2_state_X2_needSide : GoodIn wsX2_state wsX2_needSide := goodIn_ca (goodIn_r _ [6, 7, 8] (by decide +kernel) (by decide +kernel)) (goodIn_sub (fun _ h => List.mem_cons_of_mem _ (List.mem_append_right _ h)) (by decide +kernel))
set_option maxRecDepth 20000 in
theorem gX2_state_X2_needSide : GoodIn wsX2_state (wsV RX2 63 RX2 yX2_needSide wsX2_needSide) := goodIn_app (goodIn_of _ (by decide +kernel)) ggX2_state_X2_needSide
set_option maxRecDepth 20000 in
theorem ggX2_state_X2_needLatch : GoodIn wsX2_state wsX2_needLatch := goodIn_ca (goodIn_r _ [12, 7, 8, 13, 27, 28, 29, 30, 31, 32, 33] (by decide +kernel) (by decide +kernel)) (goodIn_sub (fun _ h => List.mem_cons_of_mem _ (List.mem_append_right _ h)) (by decide +kernel))
set_option maxRecDepth 20000 in
theorem gX2_state_X2_needLatch : GoodIn wsX2_state (wsV RX2 89 RX2 yX2_needLatch wsX2_needLatch) := goodIn_app (goodIn_of _ (by decide +kernel)) ggX2_state_X2_needLatch
set_option maxRecDepth 20000 in
theorem ggX2_state_X2_designOf : GoodIn wsX2_state wsX2_designOf := goodIn_r _ [17, 18, 19, 27, 28, 29, 30, 31, 32, 33] (by decide +kernel) (by decide +kernel)
set_option maxRecDepth 20000 in
theorem gX2_state_X2_designOf : GoodIn wsX2_state (wsV RX2 77 RX2 yX2_designOf wsX2_designOf) := goodIn_app (goodIn_of _ (by decide +kernel)) ggX2_state_X2_designOf
set_option maxRecDepth 20000 in
theorem ggX2_count_X1_countAnds : GoodIn wsX2_count wsX1_countAnds := goodIn_r _ [14, 15, 16, 24, 25, 26, 27] (by decide +kernel) (by decide +kernel)
set_option maxRecDepth 20000 in
theorem gX2_count_X1_countAnds : GoodIn wsX2_count (wsV RX2 172 RX1 yX1_countAnds wsX1_countAnds) := goodIn_app (goodIn_of _ (by decide +kernel)) ggX2_count_X1_countAnds
set_option maxRecDepth 20000 in
theorem ggX2_clear_X1_forget : GoodIn wsX2_clear wsX1_forget := goodIn_r _ [10, 11, 39, 40, 41, 42] (by decide +kernel) (by decide +kernel)
set_option maxRecDepth 20000 in
theorem gX2_clear_X1_forget : GoodIn wsX2_clear (wsV RX2 177 RX1 yX1_forget wsX1_forget) := goodIn_app (goodIn_of _ (by decide +kernel)) ggX2_clear_X1_forget
set_option maxRecDepth 20000 in
theorem ggX2_clear_X0_forget : GoodIn wsX2_clear wsX0_forget := goodIn_r _ [16, 17, 18, 43, 44, 45, 46, 47, 48, 49] (by decide +kernel) (by decide +kernel)
set_option maxRecDepth 20000 in
theorem gX2_clear_X0_forget : GoodIn wsX2_clear (wsV RX2 180 RX0 yX0_forget wsX0_forget) := goodIn_app (goodIn_of _ (by decide +kernel)) ggX2_clear_X0_forget
set_option maxRecDepth 20000 in
theorem ggX2_clear_X2_backToStarts : GoodIn wsX2_clear wsX2_backToStarts := goodIn_r _ [23, 2, 3, 24, 25, 26, 27, 28, 15, 29, 18, 30, 31, 32, 33, 34, 35, 36, 37, 38, 43, 44, 45, 46, 47, 48, 49] (by decide +kernel) (by decide +kernel)
set_option maxRecDepth 20000 in
theorem gX2_clear_X2_backToStarts : GoodIn wsX2_clear (wsV RX2 60 RX2 yX2_backToStarts wsX2_backToStarts) := goodIn_app (goodIn_of _ (by decide +kernel)) ggX2_clear_X2_backToStarts
set_option maxRecDepth 20000 in
theorem ggX2_needOwn_X1_isOfOtherSide : GoodIn wsX2_needOwn wsX1_isOfOtherSide := goodIn_r _ [8, 9, 17, 18, 19, 20] (by decide +kernel) (by decide +kernel)
set_option maxRecDepth 20000 in
theorem gX2_needOwn_X1_isOfOtherSide : GoodIn wsX2_needOwn (wsV RX2 194 RX1 yX1_isOfOtherSide wsX1_isOfOtherSide) := goodIn_app (goodIn_of _ (by decide +kernel)) ggX2_needOwn_X1_isOfOtherSide
set_option maxRecDepth 20000 in
theorem ggX2_backToStarts_X0_backToStarts : GoodIn wsX2_backToStarts wsX0_backToStarts := goodIn_r _ [9, 10, 11, 12, 20, 21, 22, 23, 24, 25, 26] (by decide +kernel) (by decide +kernel)
set_option maxRecDepth 20000 in
theorem gX2_backToStarts_X0_backToStarts : GoodIn wsX2_backToStarts (wsV RX2 199 RX0 yX0_backToStarts wsX0_backToStarts) := goodIn_app (goodIn_of _ (by decide +kernel)) ggX2_backToStarts_X0_backToStarts
set_option maxRecDepth 20000 in
theorem ggX2_countDifferent_X1_areSame : GoodIn wsX2_countDifferent wsX1_areSame := goodIn_r _ [6, 7, 8, 9, 5, 10, 11, 19, 20, 21, 22] (by decide +kernel) (by decide +kernel)
set_option maxRecDepth 20000 in
theorem gX2_countDifferent_X1_areSame : GoodIn wsX2_countDifferent (wsV RX2 96 RX1 yX1_areSame wsX1_areSame) := goodIn_app (goodIn_of _ (by decide +kernel)) ggX2_countDifferent_X1_areSame
set_option maxRecDepth 20000 in
theorem ggX2_placeOfDifferent_X1_areSame : GoodIn wsX2_placeOfDifferent wsX1_areSame := goodIn_r _ [6, 7, 8, 9, 5, 10, 11, 19, 20, 21, 22] (by decide +kernel) (by decide +kernel)
set_option maxRecDepth 20000 in
theorem gX2_placeOfDifferent_X1_areSame : GoodIn wsX2_placeOfDifferent (wsV RX2 96 RX1 yX1_areSame wsX1_areSame) := goodIn_app (goodIn_of _ (by decide +kernel)) ggX2_placeOfDifferent_X1_areSame
set_option maxRecDepth 20000 in
theorem ggX3_init_X3_clear : GoodIn wsX3_init wsX3_clear := goodIn_r _ [20, 21, 22, 5, 7, 23, 24, 12, 25, 26, 27, 19, 28, 11, 9, 29, 30, 15, 31, 32, 33, 34, 35, 36, 37, 38, 39, 40, 41, 42, 43, 44, 45, 46] (by decide +kernel) (by decide +kernel)
set_option maxRecDepth 20000 in
theorem gX3_init_X3_clear : GoodIn wsX3_init (wsV RX3 41 RX3 yX3_clear wsX3_clear) := goodIn_app (goodIn_of _ (by decide +kernel)) ggX3_init_X3_clear
set_option maxRecDepth 20000 in
theorem ggX3_input_X3_variable : GoodIn wsX3_input wsX3_variable := goodIn_r _ [8, 9, 2, 10, 11, 12, 13, 14, 15, 16, 17, 18, 19, 20, 21, 22, 23, 24, 25, 26] (by decide +kernel) (by decide +kernel)
set_option maxRecDepth 20000 in
theorem gX3_input_X3_variable : GoodIn wsX3_input (wsV RX3 57 RX3 yX3_variable wsX3_variable) := goodIn_app (goodIn_of _ (by decide +kernel)) ggX3_input_X3_variable
set_option maxRecDepth 20000 in
theorem ggX3_latch_X3_isSide : GoodIn wsX3_latch wsX3_isSide := goodIn_r _ [10] (by decide +kernel) (by decide +kernel)
set_option maxRecDepth 20000 in
theorem gX3_latch_X3_isSide : GoodIn wsX3_latch (va_wsS RX3 61 yX3_isSide wsX3_isSide) := goodIn_app (goodIn_of _ (by decide +kernel)) ggX3_latch_X3_isSide
set_option maxRecDepth 20000 in
theorem ggX3_latch_X3_variable : GoodIn wsX3_latch wsX3_variable := goodIn_r _ [14, 15, 2, 16, 25, 26, 27, 28, 29, 30, 31, 32, 33, 34, 35, 36, 37, 38, 39, 40] (by decide +kernel) (by decide +kernel)
set_option maxRecDepth 20000 in
theorem gX3_latch_X3_variable : GoodIn wsX3_latch (wsV RX3 57 RX3 yX3_variable wsX3_variable) := goodIn_app (goodIn_of _ (by decide +kernel)) ggX3_latch_X3_variable
set_option maxRecDepth 20000 in
theorem ggX3_latch_X3_start : GoodIn wsX3_latch wsX3_start := goodIn_r _ [20, 21, 5, 22, 23, 24, 25, 26, 27, 28, 29, 30, 31, 32, 33, 34, 35, 36, 37, 38, 39, 40] (by decide +kernel) (by decide +kernel)
set_option maxRecDepth 20000 in
theorem gX3_latch_X3_start : GoodIn wsX3_latch (wsV RX3 65 RX3 yX3_start wsX3_start) := goodIn_app (goodIn_of _ (by decide +kernel)) ggX3_latch_X3_start
set_option maxRecDepth 20000 in
theorem ggX3_and_X3_isSide : GoodIn wsX3_and wsX3_isSide := goodIn_r _ [9] (by decide +kernel) (by decide +kernel)
set_option maxRecDepth 20000 in
theorem gX3_and_X3_isSide : GoodIn wsX3_and (va_wsS RX3 61 yX3_isSide wsX3_isSide) := goodIn_app (goodIn_of _ (by decide +kernel)) ggX3_and_X3_isSide
set_option maxRecDepth 20000 in
theorem ggX3_and_X3_isLiteral : GoodIn wsX3_and wsX3_isLiteral := goodIn_r _ [13, 1, 18, 19, 20, 21, 22, 23, 24, 25, 26, 27, 28, 29, 30, 31, 32, 33] (by decide +kernel) (by decide +kernel)
set_option maxRecDepth 20000 in
theorem gX3_and_X3_isLiteral : GoodIn wsX3_and (wsV RX3 68 RX3 yX3_isLiteral wsX3_isLiteral) := goodIn_app (goodIn_of _ (by decide +kernel)) ggX3_and_X3_isLiteral
set_option maxRecDepth 20000 in
theorem ggX3_and_X3_isOther : GoodIn wsX3_and wsX3_isOther := goodIn_r _ [17, 5, 18, 19, 20, 21, 22, 23, 24, 25, 26, 27, 28, 29, 30, 31, 32, 33] (by decide +kernel) (by decide +kernel)
set_option maxRecDepth 20000 in
theorem gX3_and_X3_isOther : GoodIn wsX3_and (wsV RX3 71 RX3 yX3_isOther wsX3_isOther) := goodIn_app (goodIn_of _ (by decide +kernel)) ggX3_and_X3_isOther
set_option maxRecDepth 20000 in
theorem ggX3_output_X3_isSide : GoodIn wsX3_output wsX3_isSide := goodIn_r _ [7] (by decide +kernel) (by decide +kernel)
set_option maxRecDepth 20000 in
theorem gX3_output_X3_isSide : GoodIn wsX3_output (va_wsS RX3 61 yX3_isSide wsX3_isSide) := goodIn_app (goodIn_of _ (by decide +kernel)) ggX3_output_X3_isSide
set_option maxRecDepth 20000 in
theorem ggX3_output_X3_isLiteral : GoodIn wsX3_output wsX3_isLiteral := goodIn_r _ [11, 12, 18, 19, 20, 21, 22, 23, 24, 25, 26, 27, 28, 29, 30, 31, 32, 33] (by decide +kernel) (by decide +kernel)
set_option maxRecDepth 20000 in
theorem gX3_output_X3_isLiteral : GoodIn wsX3_output (wsV RX3 68 RX3 yX3_isLiteral wsX3_isLiteral) := goodIn_app (goodIn_of _ (by decide +kernel)) ggX3_output_X3_isLiteral
set_option maxRecDepth 20000 in
theorem ggX3_output_X3_isOther : GoodIn wsX3_output wsX3_isOther := goodIn_r _ [16, 17, 18, 19, 20, 21, 22, 23, 24, 25, 26, 27, 28, 29, 30, 31, 32, 33] (by decide +kernel) (by decide +kernel)
set_option maxRecDepth 20000 in
theorem gX3_output_X3_isOther : GoodIn wsX3_output (wsV RX3 71 RX3 yX3_isOther wsX3_isOther) := goodIn_app (goodIn_of _ (by decide +kernel)) ggX3_output_X3_isOther
set_option maxRecDepth 20000 in
theorem ggX3_next_X3_isSide : GoodIn wsX3_next wsX3_isSide := goodIn_r _ [7] (by decide +kernel) (by decide +kernel)
set_option maxRecDepth 20000 in
theorem gX3_next_X3_isSide : GoodIn wsX3_next (va_wsS RX3 61 yX3_isSide wsX3_isSide) := goodIn_app (goodIn_of _ (by decide +kernel)) ggX3_next_X3_isSide
set_option maxRecDepth 20000 in
theorem ggX3_next_X3_isIn : GoodIn wsX3_next wsX3_isIn := goodIn_r _ [10] (by decide +kernel) (by decide +kernel)
set_option maxRecDepth 20000 in
theorem gX3_next_X3_isIn : GoodIn wsX3_next (va_wsS RX3 77 yX3_isIn wsX3_isIn) := goodIn_app (goodIn_of _ (by decide +kernel)) ggX3_next_X3_isIn
set_option maxRecDepth 20000 in
theorem ggX3_next_X3_isLiteral : GoodIn wsX3_next wsX3_isLiteral := goodIn_r _ [14, 15, 21, 22, 23, 24, 25, 26, 27, 28, 29, 30, 31, 32, 33, 34, 35, 36] (by decide +kernel) (by decide +kernel)
set_option maxRecDepth 20000 in
theorem gX3_next_X3_isLiteral : GoodIn wsX3_next (wsV RX3 68 RX3 yX3_isLiteral wsX3_isLiteral) := goodIn_app (goodIn_of _ (by decide +kernel)) ggX3_next_X3_isLiteral
set_option maxRecDepth 20000 in
theorem ggX3_next_X3_isOther : GoodIn wsX3_next wsX3_isOther := goodIn_r _ [19, 20, 21, 22, 23, 24, 25, 26, 27, 28, 29, 30, 31, 32, 33, 34, 35, 36] (by decide +kernel) (by decide +kernel)
set_option maxRecDepth 20000 in
theorem gX3_next_X3_isOther : GoodIn wsX3_next (wsV RX3 71 RX3 yX3_isOther wsX3_isOther) := goodIn_app (goodIn_of _ (by decide +kernel)) ggX3_next_X3_isOther
set_option maxRecDepth 20000 in
theorem ggX3_same_X3_isLiteral : GoodIn wsX3_same wsX3_isLiteral := goodIn_r _ [6, 7, 14, 15, 16, 17, 18, 19, 20, 21, 22, 23, 24, 25, 26, 27, 28, 29] (by decide +kernel) (by decide +kernel)
set_option maxRecDepth 20000 in
theorem gX3_same_X3_isLiteral : GoodIn wsX3_same (wsV RX3 68 RX3 yX3_isLiteral wsX3_isLiteral) := goodIn_app (goodIn_of _ (by decide +kernel)) ggX3_same_X3_isLiteral
set_option maxRecDepth 20000 in
theorem ggX3_same_X3_areSame : GoodIn wsX3_same wsX3_areSame := goodIn_r _ [11, 12, 13, 14, 15, 16, 17, 18, 19, 20, 21, 22, 23, 24, 25, 26, 27, 28, 29] (by decide +kernel) (by decide +kernel)
set_option maxRecDepth 20000 in
theorem gX3_same_X3_areSame : GoodIn wsX3_same (wsV RX3 80 RX3 yX3_areSame wsX3_areSame) := goodIn_app (goodIn_of _ (by decide +kernel)) ggX3_same_X3_areSame
set_option maxRecDepth 20000 in
theorem ggX3_firstOf_X3_areSame : GoodIn wsX3_firstOf wsX3_areSame := goodIn_r _ [5, 6, 7, 8, 9, 10, 11, 12, 13, 14, 15, 16, 17, 18, 19, 20, 21, 22, 23] (by decide +kernel) (by decide +kernel)
set_option maxRecDepth 20000 in
theorem gX3_firstOf_X3_areSame : GoodIn wsX3_firstOf (wsV RX3 80 RX3 yX3_areSame wsX3_areSame) := goodIn_app (goodIn_of _ (by decide +kernel)) ggX3_firstOf_X3_areSame
set_option maxRecDepth 20000 in
theorem ggX3_first_X3_isLiteral : GoodIn wsX3_first wsX3_isLiteral := goodIn_r _ [6, 7, 18, 19, 20, 21, 22, 23, 24, 25, 26, 27, 28, 29, 30, 31, 32, 33] (by decide +kernel) (by decide +kernel)
set_option maxRecDepth 20000 in
theorem gX3_first_X3_isLiteral : GoodIn wsX3_first (wsV RX3 68 RX3 yX3_isLiteral wsX3_isLiteral) := goodIn_app (goodIn_of _ (by decide +kernel)) ggX3_first_X3_isLiteral
set_option maxRecDepth 20000 in
theorem ggX3_first_X3_firstOf : GoodIn wsX3_first wsX3_firstOf := goodIn_r _ [11, 12, 13, 14, 5, 15, 16, 17, 18, 19, 20, 21, 22, 23, 24, 25, 26, 27, 28, 29, 30, 31, 32, 33] (by decide +kernel) (by decide +kernel)
set_option maxRecDepth 20000 in
theorem gX3_first_X3_firstOf : GoodIn wsX3_first (wsV RX3 83 RX3 yX3_firstOf wsX3_firstOf) := goodIn_app (goodIn_of _ (by decide +kernel)) ggX3_first_X3_firstOf
set_option maxRecDepth 20000 in
theorem ggX3_isLeast_X3_areSame : GoodIn wsX3_isLeast wsX3_areSame := goodIn_r _ [5, 6, 7, 8, 9, 10, 11, 12, 13, 14, 15, 16, 17, 18, 19, 20, 21, 22, 23] (by decide +kernel) (by decide +kernel)
set_option maxRecDepth 20000 in
theorem gX3_isLeast_X3_areSame : GoodIn wsX3_isLeast (wsV RX3 80 RX3 yX3_areSame wsX3_areSame) := goodIn_app (goodIn_of _ (by decide +kernel)) ggX3_isLeast_X3_areSame
set_option maxRecDepth 20000 in
theorem ggX3_classes_X3_isLeast : GoodIn wsX3_classes wsX3_isLeast := goodIn_r _ [7, 8, 9, 10, 6, 11, 12, 13, 14, 15, 16, 17, 18, 19, 20, 21, 22, 23, 24, 25, 26, 27, 28, 29] (by decide +kernel) (by decide +kernel)
set_option maxRecDepth 20000 in
theorem gX3_classes_X3_isLeast : GoodIn wsX3_classes (wsV RX3 86 RX3 yX3_isLeast wsX3_isLeast) := goodIn_app (goodIn_of _ (by decide +kernel)) ggX3_classes_X3_isLeast
set_option maxRecDepth 20000 in
theorem ggX3_merged_X3_isSide : GoodIn wsX3_merged wsX3_isSide := goodIn_r _ [7] (by decide +kernel) (by decide +kernel)
set_option maxRecDepth 20000 in
theorem gX3_merged_X3_isSide : GoodIn wsX3_merged (va_wsS RX3 61 yX3_isSide wsX3_isSide) := goodIn_app (goodIn_of _ (by decide +kernel)) ggX3_merged_X3_isSide
set_option maxRecDepth 20000 in
theorem ggX3_merged_X3_isLeast : GoodIn wsX3_merged wsX3_isLeast := goodIn_r _ [11, 12, 13, 14, 6, 15, 16, 17, 18, 19, 20, 21, 22, 23, 24, 25, 26, 27, 28, 29, 30, 31, 32, 33] (by decide +kernel) (by decide +kernel)
set_option maxRecDepth 20000 in
theorem gX3_merged_X3_isLeast : GoodIn wsX3_merged (wsV RX3 86 RX3 yX3_isLeast wsX3_isLeast) := goodIn_app (goodIn_of _ (by decide +kernel)) ggX3_merged_X3_isLeast
set_option maxRecDepth 20000 in
theorem ggX3_hangs_X3_isLiteral : GoodIn wsX3_hangs wsX3_isLiteral := goodIn_r _ [6, 7, 13, 14, 15, 16, 17, 18, 19, 20, 21, 22, 23, 24, 25, 26, 27, 28] (by decide +kernel) (by decide +kernel)
set_option maxRecDepth 20000 in
theorem gX3_hangs_X3_isLiteral : GoodIn wsX3_hangs (wsV RX3 68 RX3 yX3_isLiteral wsX3_isLiteral) := goodIn_app (goodIn_of _ (by decide +kernel)) ggX3_hangs_X3_isLiteral
set_option maxRecDepth 20000 in
theorem ggX3_hangs_X3_bit : GoodIn wsX3_hangs wsX3_bit := goodIn_r _ [11, 12, 13, 14, 15, 16, 17, 18, 19, 20, 21, 22, 23, 24, 25, 26, 27, 28] (by decide +kernel) (by decide +kernel)
set_option maxRecDepth 20000 in
theorem gX3_hangs_X3_bit : GoodIn wsX3_hangs (wsV RX3 89 RX3 yX3_bit wsX3_bit) := goodIn_app (goodIn_of _ (by decide +kernel)) ggX3_hangs_X3_bit
set_option maxRecDepth 20000 in
theorem ggX3_ones_X3_isLiteral : GoodIn wsX3_ones wsX3_isLiteral := goodIn_r _ [6, 7, 19, 20, 21, 22, 23, 24, 25, 26, 27, 28, 29, 30, 31, 32, 33, 34] (by decide +kernel) (by decide +kernel)
set_option maxRecDepth 20000 in
theorem gX3_ones_X3_isLiteral : GoodIn wsX3_ones (wsV RX3 68 RX3 yX3_isLiteral wsX3_isLiteral) := goodIn_app (goodIn_of _ (by decide +kernel)) ggX3_ones_X3_isLiteral
set_option maxRecDepth 20000 in
theorem ggX3_ones_X3_present : GoodIn wsX3_ones wsX3_present := goodIn_r _ [11, 12, 13, 19, 20, 21, 22, 23, 24, 25, 26, 27, 28, 29, 30, 31, 32, 33, 34] (by decide +kernel) (by decide +kernel)
set_option maxRecDepth 20000 in
theorem gX3_ones_X3_present : GoodIn wsX3_ones (wsV RX3 93 RX3 yX3_present wsX3_present) := goodIn_app (goodIn_of _ (by decide +kernel)) ggX3_ones_X3_present
set_option maxRecDepth 20000 in
theorem ggX3_ones_X3_bit : GoodIn wsX3_ones wsX3_bit := goodIn_r _ [17, 18, 19, 20, 21, 22, 23, 24, 25, 26, 27, 28, 29, 30, 31, 32, 33, 34] (by decide +kernel) (by decide +kernel)
set_option maxRecDepth 20000 in
theorem gX3_ones_X3_bit : GoodIn wsX3_ones (wsV RX3 89 RX3 yX3_bit wsX3_bit) := goodIn_app (goodIn_of _ (by decide +kernel)) ggX3_ones_X3_bit
set_option maxRecDepth 20000 in
theorem ggX3_value_X3_isLiteral : GoodIn wsX3_value wsX3_isLiteral := goodIn_r _ [6, 7, 19, 20, 21, 22, 23, 24, 25, 26, 27, 28, 29, 30, 31, 32, 33, 34] (by decide +kernel) (by decide +kernel)
set_option maxRecDepth 20000 in
theorem gX3_value_X3_isLiteral : GoodIn wsX3_value (wsV RX3 68 RX3 yX3_isLiteral wsX3_isLiteral) := goodIn_app (goodIn_of _ (by decide +kernel)) ggX3_value_X3_isLiteral
set_option maxRecDepth 20000 in
theorem ggX3_value_X3_present : GoodIn wsX3_value wsX3_present := goodIn_r _ [11, 12, 13, 19, 20, 21, 22, 23, 24, 25, 26, 27, 28, 29, 30, 31, 32, 33, 34] (by decide +kernel) (by decide +kernel)
set_option maxRecDepth 20000 in
theorem gX3_value_X3_present : GoodIn wsX3_value (wsV RX3 93 RX3 yX3_present wsX3_present) := goodIn_app (goodIn_of _ (by decide +kernel)) ggX3_value_X3_present
set_option maxRecDepth 20000 in
theorem ggX3_value_X3_bit : GoodIn wsX3_value wsX3_bit := goodIn_r _ [17, 18, 19, 20, 21, 22, 23, 24, 25, 26, 27, 28, 29, 30, 31, 32, 33, 34] (by decide +kernel) (by decide +kernel)
set_option maxRecDepth 20000 in
theorem gX3_value_X3_bit : GoodIn wsX3_value (wsV RX3 89 RX3 yX3_bit wsX3_bit) := goodIn_app (goodIn_of _ (by decide +kernel)) ggX3_value_X3_bit
set_option maxRecDepth 20000 in
theorem ggX3_isApart_X3_both : GoodIn wsX3_isApart wsX3_both := goodIn_r _ [10, 5, 17, 18, 19, 20, 21, 22, 23, 24, 25, 26, 27, 28, 29, 30, 31, 32] (by decide +kernel) (by decide +kernel)
set_option maxRecDepth 20000 in
theorem gX3_isApart_X3_both : GoodIn wsX3_isApart (wsV RX3 97 RX3 yX3_both wsX3_both) := goodIn_app (goodIn_of _ (by decide +kernel)) ggX3_isApart_X3_both
set_option maxRecDepth 20000 in
theorem ggX3_isApart_X3_areSame : GoodIn wsX3_isApart wsX3_areSame := goodIn_r _ [14, 15, 16, 17, 18, 19, 20, 21, 22, 23, 24, 25, 26, 27, 28, 29, 30, 31, 32] (by decide +kernel) (by decide +kernel)
set_option maxRecDepth 20000 in
theorem gX3_isApart_X3_areSame : GoodIn wsX3_isApart (wsV RX3 80 RX3 yX3_areSame wsX3_areSame) := goodIn_app (goodIn_of _ (by decide +kernel)) ggX3_isApart_X3_areSame
set_option maxRecDepth 20000 in
theorem ggX3_differs_X3_isApart : GoodIn wsX3_differs wsX3_isApart := goodIn_r _ [6, 7, 8, 9, 10, 11, 12, 13, 14, 5, 15, 16, 17, 18, 19, 20, 21, 22, 23, 24, 25, 26, 27, 28, 29, 30, 31, 32, 33, 34, 35, 36, 37] (by decide +kernel) (by decide +kernel)
set_option maxRecDepth 20000 in
theorem gX3_differs_X3_isApart : GoodIn wsX3_differs (wsV RX3 100 RX3 yX3_isApart wsX3_isApart) := goodIn_app (goodIn_of _ (by decide +kernel)) ggX3_differs_X3_isApart
set_option maxRecDepth 20000 in
theorem ggX3_witness_X3_both : GoodIn wsX3_witness wsX3_both := goodIn_r _ [9, 10, 19, 20, 21, 22, 23, 24, 25, 26, 27, 28, 29, 30, 31, 32, 33, 34] (by decide +kernel) (by decide +kernel)
set_option maxRecDepth 20000 in
theorem gX3_witness_X3_both : GoodIn wsX3_witness (wsV RX3 97 RX3 yX3_both wsX3_both) := goodIn_app (goodIn_of _ (by decide +kernel)) ggX3_witness_X3_both
set_option maxRecDepth 20000 in
theorem ggX3_witness_X3_isIn : GoodIn wsX3_witness wsX3_isIn := goodIn_r _ [13] (by decide +kernel) (by decide +kernel)
set_option maxRecDepth 20000 in
theorem gX3_witness_X3_isIn : GoodIn wsX3_witness (va_wsS RX3 77 yX3_isIn wsX3_isIn) := goodIn_app (goodIn_of _ (by decide +kernel)) ggX3_witness_X3_isIn
set_option maxRecDepth 20000 in
theorem ggX3_witness_X3_bit : GoodIn wsX3_witness wsX3_bit := goodIn_r _ [17, 18, 19, 20, 21, 22, 23, 24, 25, 26, 27, 28, 29, 30, 31, 32, 33, 34] (by decide +kernel) (by decide +kernel)
set_option maxRecDepth 20000 in
theorem gX3_witness_X3_bit : GoodIn wsX3_witness (wsV RX3 89 RX3 yX3_bit wsX3_bit) := goodIn_app (goodIn_of _ (by decide +kernel)) ggX3_witness_X3_bit
set_option maxRecDepth 20000 in
theorem ggX3_reset_X3_start : GoodIn wsX3_reset wsX3_start := goodIn_r _ [6, 7, 8, 9, 10, 11, 12, 13, 14, 15, 16, 17, 18, 19, 20, 21, 22, 23, 24, 25, 26, 27] (by decide +kernel) (by decide +kernel)
set_option maxRecDepth 20000 in
theorem gX3_reset_X3_start : GoodIn wsX3_reset (wsV RX3 65 RX3 yX3_start wsX3_start) := goodIn_app (goodIn_of _ (by decide +kernel)) ggX3_reset_X3_start
set_option maxRecDepth 20000 in
theorem ggX3_step_X3_assignment : GoodIn wsX3_step wsX3_assignment := goodIn_r _ [15, 16, 6, 7, 26, 27, 28, 29, 30, 31, 32, 33, 34, 35, 36, 37, 38, 39, 40, 41] (by decide +kernel) (by decide +kernel)
set_option maxRecDepth 20000 in
theorem gX3_step_X3_assignment : GoodIn wsX3_step (wsV RX3 109 RX3 yX3_assignment wsX3_assignment) := goodIn_app (goodIn_of _ (by decide +kernel)) ggX3_step_X3_assignment
set_option maxRecDepth 20000 in
theorem ggX3_step_X3_bit : GoodIn wsX3_step wsX3_bit := goodIn_r _ [20, 21, 26, 27, 28, 29, 30, 31, 32, 33, 34, 35, 36, 37, 38, 39, 40, 41] (by decide +kernel) (by decide +kernel)
set_option maxRecDepth 20000 in
theorem gX3_step_X3_bit : GoodIn wsX3_step (wsV RX3 89 RX3 yX3_bit wsX3_bit) := goodIn_app (goodIn_of _ (by decide +kernel)) ggX3_step_X3_bit
set_option maxRecDepth 20000 in
theorem ggX3_step_X3_both : GoodIn wsX3_step wsX3_both := goodIn_r _ [25, 2, 26, 27, 28, 29, 30, 31, 32, 33, 34, 35, 36, 37, 38, 39, 40, 41] (by decide +kernel) (by decide +kernel)
set_option maxRecDepth 20000 in
theorem gX3_step_X3_both : GoodIn wsX3_step (wsV RX3 97 RX3 yX3_both wsX3_both) := goodIn_app (goodIn_of _ (by decide +kernel)) ggX3_step_X3_both
set_option maxRecDepth 20000 in
theorem ggX3_out_X3_isSide : GoodIn wsX3_out wsX3_isSide := goodIn_r _ [8] (by decide +kernel) (by decide +kernel)
set_option maxRecDepth 20000 in
theorem gX3_out_X3_isSide : GoodIn wsX3_out (va_wsS RX3 61 yX3_isSide wsX3_isSide) := goodIn_app (goodIn_of _ (by decide +kernel)) ggX3_out_X3_isSide
set_option maxRecDepth 20000 in
theorem ggX3_out_X3_isIn : GoodIn wsX3_out wsX3_isIn := goodIn_r _ [11] (by decide +kernel) (by decide +kernel)
set_option maxRecDepth 20000 in
theorem gX3_out_X3_isIn : GoodIn wsX3_out (va_wsS RX3 77 yX3_isIn wsX3_isIn) := goodIn_app (goodIn_of _ (by decide +kernel)) ggX3_out_X3_isIn
set_option maxRecDepth 20000 in
theorem ggX3_state_X3_isSide : GoodIn wsX3_state wsX3_isSide := goodIn_r _ [7] (by decide +kernel) (by decide +kernel)
set_option maxRecDepth 20000 in
theorem gX3_state_X3_isSide : GoodIn wsX3_state (va_wsS RX3 61 yX3_isSide wsX3_isSide) := goodIn_app (goodIn_of _ (by decide +kernel)) ggX3_state_X3_isSide
set_option maxRecDepth 20000 in
theorem ggX3_state_X3_isIn : GoodIn wsX3_state wsX3_isIn := goodIn_r _ [10] (by decide +kernel) (by decide +kernel)
set_option maxRecDepth 20000 in
theorem gX3_state_X3_isIn : GoodIn wsX3_state (va_wsS RX3 77 yX3_isIn wsX3_isIn) := goodIn_app (goodIn_of _ (by decide +kernel)) ggX3_state_X3_isIn
set_option maxRecDepth 20000 in
theorem ggX3_count_X3_isIn : GoodIn wsX3_count wsX3_isIn := goodIn_r _ [9] (by decide +kernel) (by decide +kernel)
set_option maxRecDepth 20000 in
theorem gX3_count_X3_isIn : GoodIn wsX3_count (va_wsS RX3 77 yX3_isIn wsX3_isIn) := goodIn_app (goodIn_of _ (by decide +kernel)) ggX3_count_X3_isIn
set_option maxRecDepth 20000 in
theorem ggX3_count_X3_ands : GoodIn wsX3_count wsX3_ands := goodIn_r _ [13, 2, 14, 15, 16, 17, 18, 19, 20, 21, 22, 23, 24, 25, 26, 27, 28, 29, 30] (by decide +kernel) (by decide +kernel)
set_option maxRecDepth 20000 in
theorem gX3_count_X3_ands : GoodIn wsX3_count (wsV RX3 112 RX3 yX3_ands wsX3_ands) := goodIn_app (goodIn_of _ (by decide +kernel)) ggX3_count_X3_ands
set_option maxRecDepth 20000 in
theorem ggX3_clear_X3_start : GoodIn wsX3_clear wsX3_start := goodIn_r _ [12, 13, 14, 15, 16, 17, 18, 19, 20, 21, 22, 23, 24, 25, 26, 27, 28, 29, 30, 31, 32, 33] (by decide +kernel) (by decide +kernel)
set_option maxRecDepth 20000 in
theorem gX3_clear_X3_start : GoodIn wsX3_clear (wsV RX3 65 RX3 yX3_start wsX3_start) := goodIn_app (goodIn_of _ (by decide +kernel)) ggX3_clear_X3_start
set_option maxRecDepth 20000 in
theorem ggJ13_numberOfTrailingZeros_95d88_J6_numberOfTrailingZeros_0f7a4 : GoodIn wsJ13_numberOfTrailingZeros_95d88 wsJ6_numberOfTrailingZeros_0f7a4 := goodIn_r _ [4, 5] (by decide +kernel) (by decide +kernel)
set_option maxRecDepth 20000 in
theorem gJ13_numberOfTrailingZeros_95d88_J6_numberOfTrailingZeros_0f7a4 : GoodIn wsJ13_numberOfTrailingZeros_95d88 (va_wsS RJ13 311 yJ6_numberOfTrailingZeros_0f7a4 wsJ6_numberOfTrailingZeros_0f7a4) := goodIn_app (goodIn_of _ (by decide +kernel)) ggJ13_numberOfTrailingZeros_95d88_J6_numberOfTrailingZeros_0f7a4
set_option maxRecDepth 20000 in
theorem ggL_input_X2_input : GoodIn wsL_input wsX2_input := goodIn_ca (goodIn_r _ [6, 7, 8, 9, 10, 11, 12, 13, 5, 14, 15, 16, 17, 18, 19, 20, 21, 22, 23, 24, 25, 26, 27, 28, 29, 30, 31, 32, 33, 34, 35, 36, 37, 38, 39, 40, 41, 42, 43, 44, 45, 46, 47, 48, 49, 50, 51, 52, 53, 54, 55, 56, 57, 58, 59, 60, 61, 62, 63, 64, 65, 66, 67, 68, 69, 70, 71, 72, 73, 74, 75, 76, 77, 78, 79, 80, 81, 82, 83, 84, 85, 86, 87, 88, 89, 90, 91, 92, 93] (by decide +kernel) (by decide +kernel)) (goodIn_sub (fun _ h => List.mem_cons_of_mem _ (List.mem_append_right _ h)) (by decide +kernel))
set_option maxRecDepth 20000 in
theorem gL_input_X2_input : GoodIn wsL_input (wsV RL 7 RX2 yX2_input wsX2_input) := goodIn_app (goodIn_of _ (by decide +kernel)) ggL_input_X2_input
set_option maxRecDepth 20000 in
theorem ggL_latch_X2_latch : GoodIn wsL_latch wsX2_latch := goodIn_ca (goodIn_ca (goodIn_r _ [7, 8, 9, 10, 11, 12, 13, 14, 15, 16, 6, 17, 18, 19, 20, 21, 22, 23, 24, 25, 26, 27, 28, 29, 30, 31, 32, 33, 34, 35, 36, 37, 38, 39, 40, 41, 42, 43, 44, 45, 46, 47, 48, 49, 50, 51, 52, 53, 54, 55, 56, 57, 58, 59, 60, 61, 62, 63, 64, 65, 66, 67, 68, 69, 70, 71, 72, 73, 74, 75, 76, 77, 78, 79, 80, 81, 82, 83, 84, 85, 86, 87, 88, 89, 90, 91, 92, 93, 94, 95, 96, 97, 98, 99, 100, 101, 102, 103, 104, 105, 106, 107, 108, 109, 110, 111, 112, 113, 114, 115, 116, 117, 118, 119, 120, 121, 122, 123, 124, 125, 126, 127, 128] (by decide +kernel) (by decide +kernel)) (goodIn_sub (fun _ h => List.mem_cons_of_mem _ (List.mem_append_left _ (List.mem_append_right _ h))) (by decide +kernel))) (goodIn_sub (fun _ h => List.mem_cons_of_mem _ (List.mem_append_right _ h)) (by decide +kernel))
set_option maxRecDepth 20000 in
theorem gL_latch_X2_latch : GoodIn wsL_latch (wsV RL 15 RX2 yX2_latch wsX2_latch) := goodIn_app (goodIn_of _ (by decide +kernel)) ggL_latch_X2_latch
set_option maxRecDepth 20000 in
theorem ggL_and_X2_and : GoodIn wsL_and wsX2_and := goodIn_ca (goodIn_ca (goodIn_ca (goodIn_r _ [8, 9, 10, 11, 12, 7, 13, 14, 15, 16, 17, 18, 19, 20, 21, 22, 23, 24, 25, 26, 27, 28, 29, 30, 31, 32, 33, 34, 35, 36, 37, 38, 39, 40, 41, 42, 43, 44, 45, 46, 47, 48, 49, 50, 51, 52, 53, 54, 55, 56, 57, 58, 59, 60, 61, 62, 63, 64, 65, 66, 67, 68, 69, 70, 71, 72, 73, 74, 75, 76, 77, 78, 79, 80, 81, 82, 83, 84, 85, 86, 87, 88, 89, 90, 91, 92, 93, 94, 95, 96, 97, 98, 99, 100, 101, 102, 103, 104, 105, 106, 107, 108, 109, 110] (by decide +kernel) (by decide +kernel)) (goodIn_sub (fun _ h => List.mem_cons_of_mem _ (List.mem_append_left _ (List.mem_append_left _ (List.mem_append_right _ h)))) (by decide +kernel))) (goodIn_sub (fun _ h => List.mem_cons_of_mem _ (List.mem_append_left _ (List.mem_append_right _ h))) (by decide +kernel))) (goodIn_sub (fun _ h => List.mem_cons_of_mem _ (List.mem_append_right _ h)) (by decide +kernel))
set_option maxRecDepth 20000 in
theorem gL_and_X2_and : GoodIn wsL_and (wsV RL 21 RX2 yX2_and wsX2_and) := goodIn_app (goodIn_of _ (by decide +kernel)) ggL_and_X2_and
set_option maxRecDepth 20000 in
theorem ggL_output_X2_output : GoodIn wsL_output wsX2_output := goodIn_ca (goodIn_ca (goodIn_ca (goodIn_r _ [8, 9, 10, 11, 12, 13, 14, 7, 15, 16, 17, 18, 19, 20, 21, 22, 23, 24, 25, 26, 27, 28, 29, 30, 31, 32, 33, 34, 35, 36, 37, 38, 39, 40, 41, 42, 43, 44, 45, 46, 47, 48, 49, 50, 51, 52, 53, 54, 55, 56, 57, 58, 59, 60, 61, 62, 63, 64, 65, 66] (by decide +kernel) (by decide +kernel)) (goodIn_sub (fun _ h => List.mem_cons_of_mem _ (List.mem_append_left _ (List.mem_append_left _ (List.mem_append_right _ h)))) (by decide +kernel))) (goodIn_sub (fun _ h => List.mem_cons_of_mem _ (List.mem_append_left _ (List.mem_append_right _ h))) (by decide +kernel))) (goodIn_sub (fun _ h => List.mem_cons_of_mem _ (List.mem_append_right _ h)) (by decide +kernel))
set_option maxRecDepth 20000 in
theorem gL_output_X2_output : GoodIn wsL_output (wsV RL 27 RX2 yX2_output wsX2_output) := goodIn_app (goodIn_of _ (by decide +kernel)) ggL_output_X2_output
set_option maxRecDepth 20000 in
theorem ggL_next_X2_next : GoodIn wsL_next wsX2_next := goodIn_ca (goodIn_ca (goodIn_r _ [7, 8, 9, 10, 11, 6, 12, 13, 14, 15, 16, 17, 18, 19, 20, 21, 22, 23, 24, 25, 26, 27, 28, 29, 30, 31, 32, 33, 34, 35, 36, 37, 38, 39, 40, 41, 42, 43, 44, 45, 46, 47, 48, 49, 50, 51, 52, 53, 54, 55, 56, 57, 58, 59, 60, 61] (by decide +kernel) (by decide +kernel)) (goodIn_sub (fun _ h => List.mem_cons_of_mem _ (List.mem_append_left _ (List.mem_append_right _ h))) (by decide +kernel))) (goodIn_sub (fun _ h => List.mem_cons_of_mem _ (List.mem_append_right _ h)) (by decide +kernel))
set_option maxRecDepth 20000 in
theorem gL_next_X2_next : GoodIn wsL_next (wsV RL 30 RX2 yX2_next wsX2_next) := goodIn_app (goodIn_of _ (by decide +kernel)) ggL_next_X2_next
set_option maxRecDepth 20000 in
theorem ggL_same_X2_same : GoodIn wsL_same wsX2_same := goodIn_ca (goodIn_r _ [6, 7, 8, 9, 10, 5, 11, 12, 13, 14, 15, 16, 17, 18, 19, 20, 21, 22, 23, 24, 25, 26, 27, 28, 29, 30, 31, 32, 33, 34, 35] (by decide +kernel) (by decide +kernel)) (goodIn_sub (fun _ h => List.mem_cons_of_mem _ (List.mem_append_right _ h)) (by decide +kernel))
set_option maxRecDepth 20000 in
theorem gL_same_X2_same : GoodIn wsL_same (wsV RL 33 RX2 yX2_same wsX2_same) := goodIn_app (goodIn_of _ (by decide +kernel)) ggL_same_X2_same
set_option maxRecDepth 20000 in
theorem ggL_first_X2_first : GoodIn wsL_first wsX2_first := goodIn_ca (goodIn_r _ [6, 7, 8, 9, 10, 5, 11, 12, 13, 14, 15, 16, 17, 18, 19, 20, 21, 22, 23, 24, 25, 26, 27, 28, 29, 30, 31] (by decide +kernel) (by decide +kernel)) (goodIn_sub (fun _ h => List.mem_cons_of_mem _ (List.mem_append_right _ h)) (by decide +kernel))
set_option maxRecDepth 20000 in
theorem gL_first_X2_first : GoodIn wsL_first (wsV RL 37 RX2 yX2_first wsX2_first) := goodIn_app (goodIn_of _ (by decide +kernel)) ggL_first_X2_first
set_option maxRecDepth 20000 in
theorem ggL_merged_X2_merged : GoodIn wsL_merged wsX2_merged := goodIn_ca (goodIn_r _ [6, 7, 8, 9, 10, 5, 11, 12, 13, 14, 15, 16, 17, 18, 19, 20, 21, 22, 23, 24, 25, 26, 27, 28, 29, 30, 31, 32, 33, 34, 35, 36] (by decide +kernel) (by decide +kernel)) (goodIn_sub (fun _ h => List.mem_cons_of_mem _ (List.mem_append_right _ h)) (by decide +kernel))
set_option maxRecDepth 20000 in
theorem gL_merged_X2_merged : GoodIn wsL_merged (wsV RL 41 RX2 yX2_merged wsX2_merged) := goodIn_app (goodIn_of _ (by decide +kernel)) ggL_merged_X2_merged
set_option maxRecDepth 20000 in
theorem ggL_hangs_X2_hangs : GoodIn wsL_hangs wsX2_hangs := goodIn_ca (goodIn_r _ [6, 7, 8, 9, 10, 5, 11, 12, 13, 14, 15, 16, 17, 18, 19, 20, 21, 22, 23, 24, 25, 26, 27, 28, 29, 30, 31, 32, 33, 34, 35, 36, 37, 38, 39, 40, 41, 42, 43, 44, 45] (by decide +kernel) (by decide +kernel)) (goodIn_sub (fun _ h => List.mem_cons_of_mem _ (List.mem_append_right _ h)) (by decide +kernel))
set_option maxRecDepth 20000 in
theorem gL_hangs_X2_hangs : GoodIn wsL_hangs (wsV RL 44 RX2 yX2_hangs wsX2_hangs) := goodIn_app (goodIn_of _ (by decide +kernel)) ggL_hangs_X2_hangs
set_option maxRecDepth 20000 in
theorem ggL_ones_X2_ones : GoodIn wsL_ones wsX2_ones := goodIn_ca (goodIn_r _ [6, 7, 8, 9, 10, 11, 12, 5, 13, 14, 15, 16, 17, 18, 19, 20, 21, 22, 23, 24, 25, 26, 27, 28, 29, 30, 31, 32, 33, 34, 35, 36, 37, 38, 39, 40, 41, 42, 43, 44, 45] (by decide +kernel) (by decide +kernel)) (goodIn_sub (fun _ h => List.mem_cons_of_mem _ (List.mem_append_right _ h)) (by decide +kernel))
set_option maxRecDepth 20000 in
theorem gL_ones_X2_ones : GoodIn wsL_ones (wsV RL 47 RX2 yX2_ones wsX2_ones) := goodIn_app (goodIn_of _ (by decide +kernel)) ggL_ones_X2_ones
set_option maxRecDepth 20000 in
theorem ggL_value_X2_value : GoodIn wsL_value wsX2_value := goodIn_ca (goodIn_r _ [6, 7, 8, 9, 10, 5, 11, 12, 13, 14, 15, 16, 17, 18, 19, 20, 21, 22, 23, 24, 25, 26, 27, 28, 29, 30, 31, 32, 33, 34, 35, 36] (by decide +kernel) (by decide +kernel)) (goodIn_sub (fun _ h => List.mem_cons_of_mem _ (List.mem_append_right _ h)) (by decide +kernel))
set_option maxRecDepth 20000 in
theorem gL_value_X2_value : GoodIn wsL_value (wsV RL 50 RX2 yX2_value wsX2_value) := goodIn_app (goodIn_of _ (by decide +kernel)) ggL_value_X2_value
set_option maxRecDepth 20000 in
theorem ggL_differs_X2_differs : GoodIn wsL_differs wsX2_differs := goodIn_ca (goodIn_r _ [6, 7, 8, 9, 10, 11, 12, 13, 14, 15, 16, 5, 17, 18, 19, 20, 21, 22, 23, 24, 25, 26, 27, 28, 29, 30, 31, 32, 33, 34, 35, 36, 37, 38, 39, 40, 41, 42, 43, 44, 45, 46, 47, 48, 49, 50, 51, 52, 53, 54, 55, 56, 57, 58, 59, 60, 61, 62, 63, 64] (by decide +kernel) (by decide +kernel)) (goodIn_sub (fun _ h => List.mem_cons_of_mem _ (List.mem_append_right _ h)) (by decide +kernel))
set_option maxRecDepth 20000 in
theorem gL_differs_X2_differs : GoodIn wsL_differs (wsV RL 53 RX2 yX2_differs wsX2_differs) := goodIn_app (goodIn_of _ (by decide +kernel)) ggL_differs_X2_differs
set_option maxRecDepth 20000 in
theorem ggL_witness_X2_witness : GoodIn wsL_witness wsX2_witness := goodIn_ca (goodIn_r _ [6, 7, 8, 9, 10, 11, 12, 13, 14, 15, 16, 17, 5, 18, 19, 20, 21, 22, 23, 24, 25, 26, 27, 28, 29, 30, 31, 32, 33, 34, 35, 36, 37, 38, 39, 40, 41, 42, 43, 44, 45, 46, 47, 48, 49, 50, 51, 52, 53, 54, 55, 56, 57, 58, 59, 60, 61] (by decide +kernel) (by decide +kernel)) (goodIn_sub (fun _ h => List.mem_cons_of_mem _ (List.mem_append_right _ h)) (by decide +kernel))
set_option maxRecDepth 20000 in
theorem gL_witness_X2_witness : GoodIn wsL_witness (wsV RL 56 RX2 yX2_witness wsX2_witness) := goodIn_app (goodIn_of _ (by decide +kernel)) ggL_witness_X2_witness
set_option maxRecDepth 20000 in
theorem ggL_out_X2_out : GoodIn wsL_out wsX2_out := goodIn_ca (goodIn_r _ [6, 7, 8, 9, 10, 11, 12, 13, 14, 5, 15, 16, 17, 18, 19, 20, 21, 22, 23, 24, 25, 26, 27, 28, 29, 30, 31, 32, 33, 34, 35] (by decide +kernel) (by decide +kernel)) (goodIn_sub (fun _ h => List.mem_cons_of_mem _ (List.mem_append_right _ h)) (by decide +kernel))
set_option maxRecDepth 20000 in
theorem gL_out_X2_out : GoodIn wsL_out (wsV RL 59 RX2 yX2_out wsX2_out) := goodIn_app (goodIn_of _ (by decide +kernel)) ggL_out_X2_out
set_option maxRecDepth 20000 in
theorem ggL_state_X2_state : GoodIn wsL_state wsX2_state := goodIn_ca (goodIn_r _ [6, 7, 8, 9, 10, 5, 11, 12, 13, 14, 15, 16, 17, 18, 19, 20, 21, 22, 23, 24, 25, 26, 27, 28, 29, 30, 31, 32, 33, 34, 35, 36, 37, 38] (by decide +kernel) (by decide +kernel)) (goodIn_sub (fun _ h => List.mem_cons_of_mem _ (List.mem_append_right _ h)) (by decide +kernel))
set_option maxRecDepth 20000 in
theorem gL_state_X2_state : GoodIn wsL_state (wsV RL 62 RX2 yX2_state wsX2_state) := goodIn_app (goodIn_of _ (by decide +kernel)) ggL_state_X2_state
set_option maxRecDepth 20000 in
theorem ggL_count_X2_count : GoodIn wsL_count wsX2_count := goodIn_ca (goodIn_r _ [6, 7, 8, 9, 10, 11, 12, 13, 14, 15, 16, 17, 18, 19, 20, 21, 22, 23, 24, 25, 26, 27, 28, 29, 30, 31, 32, 33, 34, 35, 36, 37, 38, 39, 40] (by decide +kernel) (by decide +kernel)) (goodIn_sub (fun _ h => List.mem_cons_of_mem _ (List.mem_append_right _ h)) (by decide +kernel))
set_option maxRecDepth 20000 in
theorem gL_count_X2_count : GoodIn wsL_count (wsV RL 65 RX2 yX2_count wsX2_count) := goodIn_app (goodIn_of _ (by decide +kernel)) ggL_count_X2_count
set_option maxRecDepth 20000 in
theorem ggL_law_X2_init : GoodIn wsL_law wsX2_init := goodIn_r _ [9, 10, 11, 12, 13, 14, 15, 16, 17, 18, 19, 20, 21, 22, 23, 24, 25, 26, 27, 28, 29, 30, 6, 31, 32, 33, 34, 35, 36, 37, 38, 583, 584, 585, 586, 560, 561, 562, 563, 564, 565, 566, 587, 588, 589, 590, 591, 592, 593] (by decide +kernel) (by decide +kernel)
set_option maxRecDepth 20000 in
theorem gL_law_X2_init : GoodIn wsL_law (wsX2_init) := ggL_law_X2_init
set_option maxRecDepth 20000 in
theorem ggL_law_X3_init : GoodIn wsL_law wsX3_init := goodIn_r _ [41, 42, 11, 12, 28, 43, 6, 44, 45, 46, 47, 48, 49, 50, 51, 52, 53, 54, 55, 5, 56, 57, 58, 59, 60, 61, 62, 63, 64, 65, 66, 567, 568, 569, 570, 571, 572, 573, 574, 575, 576, 577, 578, 579, 580, 581, 582] (by decide +kernel) (by decide +kernel)
set_option maxRecDepth 20000 in
theorem gL_law_X3_init : GoodIn wsL_law (wsX3_init) := ggL_law_X3_init
set_option maxRecDepth 20000 in
theorem ggL_law_L_input : GoodIn wsL_law wsL_input := goodIn_ca (goodIn_r _ [70, 71, 72, 73, 74, 2, 75, 76, 77, 78, 16, 79, 80, 81, 82, 83, 84, 85, 86, 15, 87, 27, 31, 88, 89, 90, 91, 92, 93, 94, 95, 96, 97, 98, 99, 100, 101, 102, 103, 104, 105, 6, 106, 107, 108, 109, 110, 111, 112, 113, 114, 115, 116, 117, 118, 119, 29, 30, 120, 121, 122, 123, 124, 125, 126, 127, 128, 129, 130, 131, 132, 133, 134, 135, 136, 137, 138, 139, 140, 141, 142, 143, 144, 560, 561, 562, 563, 564, 565, 566, 583, 584, 585, 586] (by decide +kernel) (by decide +kernel)) (goodIn_sub (fun _ h => List.mem_append_left _ (List.mem_append_left _ (List.mem_append_right _ h))) (by decide +kernel))
set_option maxRecDepth 20000 in
theorem gL_law_L_input : GoodIn wsL_law (va_wsS RL 72 yL_input wsL_input) := goodIn_app (goodIn_of _ (by decide +kernel)) ggL_law_L_input
set_option maxRecDepth 20000 in
theorem ggL_law_X3_input : GoodIn wsL_law wsX3_input := goodIn_r _ [148, 59, 58, 57, 149, 150, 151, 5, 152, 44, 43, 567, 568, 569, 570, 571, 572, 573, 574, 575, 576, 577, 578, 579, 580, 581, 582] (by decide +kernel) (by decide +kernel)
set_option maxRecDepth 20000 in
theorem gL_law_X3_input : GoodIn wsL_law (wsV RL 77 RX3 yX3_input wsX3_input) := goodIn_app (goodIn_of _ (by decide +kernel)) ggL_law_X3_input
set_option maxRecDepth 20000 in
theorem ggL_law_X3_thrown : GoodIn wsL_law wsX3_thrown := goodIn_r _ [156, 57, 567, 568, 569, 570, 571, 572, 573, 574, 575, 576, 577, 578, 579, 580, 581, 582] (by decide +kernel) (by decide +kernel)
set_option maxRecDepth 20000 in
theorem gL_law_X3_thrown : GoodIn wsL_law (wsV RL 78 RX3 yX3_thrown wsX3_thrown) := goodIn_app (goodIn_of _ (by decide +kernel)) ggL_law_X3_thrown
set_option maxRecDepth 20000 in
theorem ggL_law_L_latch : GoodIn wsL_law wsL_latch := goodIn_ca (goodIn_ca (goodIn_r _ [159, 71, 160, 161, 162, 163, 2, 164, 76, 77, 165, 16, 20, 21, 79, 80, 81, 82, 83, 166, 167, 168, 169, 170, 171, 84, 85, 86, 15, 87, 27, 31, 88, 89, 90, 91, 92, 93, 94, 95, 96, 97, 98, 99, 100, 101, 102, 103, 104, 105, 6, 106, 107, 108, 109, 110, 111, 112, 113, 114, 115, 116, 117, 118, 119, 29, 30, 120, 121, 122, 123, 124, 125, 126, 127, 128, 129, 130, 131, 132, 133, 134, 135, 136, 137, 138, 139, 140, 141, 142, 143, 144, 172, 173, 174, 19, 175, 176, 37, 177, 178, 179, 180, 181, 22, 182, 183, 184, 185, 186, 187, 560, 561, 562, 563, 564, 565, 566, 583, 584, 585, 586, 587, 588, 589, 590, 591, 592, 593] (by decide +kernel) (by decide +kernel)) (goodIn_sub (fun _ h => List.mem_append_left _ (List.mem_append_left _ (List.mem_append_right _ h))) (by decide +kernel))) (goodIn_sub (fun _ h => List.mem_append_left _ (List.mem_append_right _ h)) (by decide +kernel))
set_option maxRecDepth 20000 in
theorem gL_law_L_latch : GoodIn wsL_law (va_wsS RL 81 yL_latch wsL_latch) := goodIn_app (goodIn_of _ (by decide +kernel)) ggL_law_L_latch
set_option maxRecDepth 20000 in
theorem ggL_law_X3_latch : GoodIn wsL_law wsX3_latch := goodIn_r _ [191, 60, 58, 57, 45, 46, 47, 192, 193, 5, 194, 149, 150, 151, 152, 44, 43, 61, 62, 63, 64, 48, 65, 66, 52, 567, 568, 569, 570, 571, 572, 573, 574, 575, 576, 577, 578, 579, 580, 581, 582] (by decide +kernel) (by decide +kernel)
set_option maxRecDepth 20000 in
theorem gL_law_X3_latch : GoodIn wsL_law (wsV RL 84 RX3 yX3_latch wsX3_latch) := goodIn_app (goodIn_of _ (by decide +kernel)) ggL_law_X3_latch
set_option maxRecDepth 20000 in
theorem ggL_law_L_and : GoodIn wsL_law wsL_and := goodIn_ca (goodIn_ca (goodIn_ca (goodIn_r _ [197, 198, 71, 160, 199, 200, 201, 2, 202, 16, 203, 204, 205, 206, 207, 208, 209, 210, 211, 212, 83, 79, 80, 81, 82, 76, 77, 213, 214, 215, 216, 170, 171, 217, 218, 219, 15, 220, 29, 221, 222, 223, 224, 27, 31, 88, 89, 90, 91, 92, 93, 94, 95, 96, 97, 98, 99, 100, 101, 102, 103, 104, 105, 6, 106, 107, 108, 109, 110, 128, 129, 130, 131, 115, 116, 117, 118, 119, 30, 120, 121, 122, 123, 124, 125, 126, 127, 132, 133, 134, 135, 136, 137, 138, 139, 140, 141, 142, 143, 144, 560, 561, 562, 563, 564, 565, 566, 583, 584, 585, 586] (by decide +kernel) (by decide +kernel)) (goodIn_sub (fun _ h => List.mem_append_right _ h) (by decide +kernel))) (goodIn_sub (fun _ h => List.mem_append_left _ (List.mem_append_left _ (List.mem_append_right _ h))) (by decide +kernel))) (goodIn_sub (fun _ h => List.mem_append_left _ (List.mem_append_right _ h)) (by decide +kernel))
set_option maxRecDepth 20000 in
theorem gL_law_L_and : GoodIn wsL_law (va_wsS RL 85 yL_and wsL_and) := goodIn_app (goodIn_of _ (by decide +kernel)) ggL_law_L_and
set_option maxRecDepth 20000 in
theorem ggL_law_X3_and : GoodIn wsL_law wsX3_and := goodIn_r _ [228, 58, 57, 229, 44, 43, 192, 193, 5, 194, 230, 231, 232, 233, 234, 235, 236, 237, 567, 568, 569, 570, 571, 572, 573, 574, 575, 576, 577, 578, 579, 580, 581, 582] (by decide +kernel) (by decide +kernel)
set_option maxRecDepth 20000 in
theorem gL_law_X3_and : GoodIn wsL_law (wsV RL 88 RX3 yX3_and wsX3_and) := goodIn_app (goodIn_of _ (by decide +kernel)) ggL_law_X3_and
set_option maxRecDepth 20000 in
theorem ggL_law_L_output : GoodIn wsL_law wsL_output := goodIn_ca (goodIn_ca (goodIn_ca (goodIn_r _ [240, 198, 71, 160, 241, 242, 243, 2, 244, 76, 77, 245, 203, 204, 205, 206, 207, 208, 209, 210, 211, 212, 16, 83, 246, 247, 248, 249, 20, 21, 213, 214, 215, 216, 170, 171, 217, 218, 219, 15, 220, 29, 250, 251, 252, 19, 253, 36, 254, 587, 588, 589, 590, 591, 592, 593, 560, 561, 562, 563, 564, 565, 566, 583, 584, 585, 586] (by decide +kernel) (by decide +kernel)) (goodIn_sub (fun _ h => List.mem_append_left _ (List.mem_append_left _ (List.mem_append_right _ h))) (by decide +kernel))) (goodIn_sub (fun _ h => List.mem_append_right _ h) (by decide +kernel))) (goodIn_sub (fun _ h => List.mem_append_left _ (List.mem_append_right _ h)) (by decide +kernel))
set_option maxRecDepth 20000 in
theorem gL_law_L_output : GoodIn wsL_law (va_wsS RL 89 yL_output wsL_output) := goodIn_app (goodIn_of _ (by decide +kernel)) ggL_law_L_output
set_option maxRecDepth 20000 in
theorem ggL_law_X3_output : GoodIn wsL_law wsX3_output := goodIn_r _ [258, 49, 57, 50, 192, 193, 5, 194, 230, 231, 232, 233, 58, 234, 235, 236, 237, 43, 567, 568, 569, 570, 571, 572, 573, 574, 575, 576, 577, 578, 579, 580, 581, 582] (by decide +kernel) (by decide +kernel)
set_option maxRecDepth 20000 in
theorem gL_law_X3_output : GoodIn wsL_law (wsV RL 91 RX3 yX3_output wsX3_output) := goodIn_app (goodIn_of _ (by decide +kernel)) ggL_law_X3_output
set_option maxRecDepth 20000 in
theorem ggL_law_L_next : GoodIn wsL_law wsL_next := goodIn_ca (goodIn_ca (goodIn_r _ [261, 198, 160, 262, 263, 264, 2, 265, 266, 203, 204, 205, 206, 207, 208, 267, 268, 269, 270, 165, 209, 210, 211, 212, 16, 83, 213, 214, 215, 216, 170, 171, 217, 218, 219, 15, 220, 29, 246, 247, 248, 249, 20, 21, 587, 588, 589, 590, 591, 592, 593, 560, 561, 562, 563, 564, 565, 566, 583, 584, 585, 586] (by decide +kernel) (by decide +kernel)) (goodIn_sub (fun _ h => List.mem_append_right _ h) (by decide +kernel))) (goodIn_sub (fun _ h => List.mem_append_left _ (List.mem_append_right _ h)) (by decide +kernel))
set_option maxRecDepth 20000 in
theorem gL_law_L_next : GoodIn wsL_law (va_wsS RL 92 yL_next wsL_next) := goodIn_app (goodIn_of _ (by decide +kernel)) ggL_law_L_next
set_option maxRecDepth 20000 in
theorem ggL_law_X3_next : GoodIn wsL_law wsX3_next := goodIn_r _ [274, 60, 57, 47, 192, 193, 5, 194, 275, 276, 277, 230, 231, 232, 233, 58, 234, 235, 236, 237, 43, 567, 568, 569, 570, 571, 572, 573, 574, 575, 576, 577, 578, 579, 580, 581, 582] (by decide +kernel) (by decide +kernel)
set_option maxRecDepth 20000 in
theorem gL_law_X3_next : GoodIn wsL_law (wsV RL 94 RX3 yX3_next wsX3_next) := goodIn_app (goodIn_of _ (by decide +kernel)) ggL_law_X3_next
set_option maxRecDepth 20000 in
theorem ggL_law_L_same : GoodIn wsL_law wsL_same := goodIn_ca (goodIn_r _ [280, 198, 281, 282, 283, 2, 284, 16, 209, 210, 211, 212, 207, 208, 83, 285, 286, 287, 15, 288, 289, 290, 291, 292, 30, 560, 561, 562, 563, 564, 565, 566, 583, 584, 585, 586] (by decide +kernel) (by decide +kernel)) (goodIn_sub (fun _ h => List.mem_append_right _ h) (by decide +kernel))
set_option maxRecDepth 20000 in
theorem gL_law_L_same : GoodIn wsL_law (va_wsS RL 95 yL_same wsL_same) := goodIn_app (goodIn_of _ (by decide +kernel)) ggL_law_L_same
set_option maxRecDepth 20000 in
theorem ggL_law_X3_same : GoodIn wsL_law wsX3_same := goodIn_r _ [296, 57, 230, 231, 232, 5, 233, 58, 297, 298, 299, 300, 229, 44, 567, 568, 569, 570, 571, 572, 573, 574, 575, 576, 577, 578, 579, 580, 581, 582] (by decide +kernel) (by decide +kernel)
set_option maxRecDepth 20000 in
theorem gL_law_X3_same : GoodIn wsL_law (wsV RL 97 RX3 yX3_same wsX3_same) := goodIn_app (goodIn_of _ (by decide +kernel)) ggL_law_X3_same
set_option maxRecDepth 20000 in
theorem ggL_law_L_first : GoodIn wsL_law wsL_first := goodIn_ca (goodIn_r _ [303, 198, 304, 305, 306, 2, 307, 16, 209, 210, 211, 212, 207, 208, 83, 308, 290, 291, 15, 292, 30, 560, 561, 562, 563, 564, 565, 566, 583, 584, 585, 586] (by decide +kernel) (by decide +kernel)) (goodIn_sub (fun _ h => List.mem_append_right _ h) (by decide +kernel))
set_option maxRecDepth 20000 in
theorem gL_law_L_first : GoodIn wsL_law (va_wsS RL 98 yL_first wsL_first) := goodIn_app (goodIn_of _ (by decide +kernel)) ggL_law_L_first
set_option maxRecDepth 20000 in
theorem ggL_law_X3_first : GoodIn wsL_law wsX3_first := goodIn_r _ [312, 57, 230, 231, 232, 5, 233, 58, 313, 314, 315, 316, 297, 298, 299, 300, 229, 44, 567, 568, 569, 570, 571, 572, 573, 574, 575, 576, 577, 578, 579, 580, 581, 582] (by decide +kernel) (by decide +kernel)
set_option maxRecDepth 20000 in
theorem gL_law_X3_first : GoodIn wsL_law (wsV RL 101 RX3 yX3_first wsX3_first) := goodIn_app (goodIn_of _ (by decide +kernel)) ggL_law_X3_first
set_option maxRecDepth 20000 in
theorem ggL_law_X2_classes : GoodIn wsL_law wsX2_classes := goodIn_r _ [320, 16, 321, 322, 323, 15, 324, 27, 325, 326, 327, 328, 30, 560, 561, 562, 563, 564, 565, 566, 583, 584, 585, 586] (by decide +kernel) (by decide +kernel)
set_option maxRecDepth 20000 in
theorem gL_law_X2_classes : GoodIn wsL_law (wsV RL 102 RX2 yX2_classes wsX2_classes) := goodIn_app (goodIn_of _ (by decide +kernel)) ggL_law_X2_classes
set_option maxRecDepth 20000 in
theorem ggL_law_X3_classes : GoodIn wsL_law wsX3_classes := goodIn_r _ [332, 57, 58, 333, 334, 335, 5, 336, 297, 298, 299, 300, 229, 44, 567, 568, 569, 570, 571, 572, 573, 574, 575, 576, 577, 578, 579, 580, 581, 582] (by decide +kernel) (by decide +kernel)
set_option maxRecDepth 20000 in
theorem gL_law_X3_classes : GoodIn wsL_law (wsV RL 105 RX3 yX3_classes wsX3_classes) := goodIn_app (goodIn_of _ (by decide +kernel)) ggL_law_X3_classes
set_option maxRecDepth 20000 in
theorem ggL_law_L_merged : GoodIn wsL_law wsL_merged := goodIn_ca (goodIn_r _ [339, 198, 340, 341, 342, 2, 343, 16, 203, 204, 205, 206, 207, 208, 344, 345, 346, 15, 347, 27, 29, 325, 326, 327, 328, 30, 560, 561, 562, 563, 564, 565, 566, 583, 584, 585, 586] (by decide +kernel) (by decide +kernel)) (goodIn_sub (fun _ h => List.mem_append_right _ h) (by decide +kernel))
set_option maxRecDepth 20000 in
theorem gL_law_L_merged : GoodIn wsL_law (va_wsS RL 106 yL_merged wsL_merged) := goodIn_app (goodIn_of _ (by decide +kernel)) ggL_law_L_merged
set_option maxRecDepth 20000 in
theorem ggL_law_X3_merged : GoodIn wsL_law wsX3_merged := goodIn_r _ [351, 57, 58, 43, 192, 193, 5, 194, 333, 334, 335, 336, 297, 298, 299, 300, 229, 44, 567, 568, 569, 570, 571, 572, 573, 574, 575, 576, 577, 578, 579, 580, 581, 582] (by decide +kernel) (by decide +kernel)
set_option maxRecDepth 20000 in
theorem gL_law_X3_merged : GoodIn wsL_law (wsV RL 108 RX3 yX3_merged wsX3_merged) := goodIn_app (goodIn_of _ (by decide +kernel)) ggL_law_X3_merged
set_option maxRecDepth 20000 in
theorem ggL_law_L_hangs : GoodIn wsL_law wsL_hangs := goodIn_ca (goodIn_r _ [354, 198, 355, 356, 357, 2, 358, 16, 209, 210, 211, 212, 207, 208, 83, 359, 360, 361, 15, 362, 363, 364, 365, 366, 367, 368, 369, 370, 114, 115, 128, 129, 130, 131, 31, 560, 561, 562, 563, 564, 565, 566, 583, 584, 585, 586] (by decide +kernel) (by decide +kernel)) (goodIn_sub (fun _ h => List.mem_append_right _ h) (by decide +kernel))
set_option maxRecDepth 20000 in
theorem gL_law_L_hangs : GoodIn wsL_law (va_wsS RL 109 yL_hangs wsL_hangs) := goodIn_app (goodIn_of _ (by decide +kernel)) ggL_law_L_hangs
set_option maxRecDepth 20000 in
theorem ggL_law_X3_hangs : GoodIn wsL_law wsX3_hangs := goodIn_r _ [374, 57, 230, 231, 232, 5, 233, 58, 375, 376, 377, 378, 44, 567, 568, 569, 570, 571, 572, 573, 574, 575, 576, 577, 578, 579, 580, 581, 582] (by decide +kernel) (by decide +kernel)
set_option maxRecDepth 20000 in
theorem gL_law_X3_hangs : GoodIn wsL_law (wsV RL 111 RX3 yX3_hangs wsX3_hangs) := goodIn_app (goodIn_of _ (by decide +kernel)) ggL_law_X3_hangs
set_option maxRecDepth 20000 in
theorem ggL_law_L_ones : GoodIn wsL_law wsL_ones := goodIn_ca (goodIn_r _ [381, 198, 382, 383, 384, 2, 385, 16, 78, 165, 209, 210, 211, 212, 207, 208, 83, 386, 387, 388, 15, 389, 128, 129, 130, 131, 31, 115, 390, 391, 138, 392, 393, 394, 395, 560, 561, 562, 563, 564, 565, 566, 583, 584, 585, 586] (by decide +kernel) (by decide +kernel)) (goodIn_sub (fun _ h => List.mem_append_right _ h) (by decide +kernel))
set_option maxRecDepth 20000 in
theorem gL_law_L_ones : GoodIn wsL_law (va_wsS RL 112 yL_ones wsL_ones) := goodIn_app (goodIn_of _ (by decide +kernel)) ggL_law_L_ones
set_option maxRecDepth 20000 in
theorem ggL_law_X3_ones : GoodIn wsL_law wsX3_ones := goodIn_r _ [399, 57, 230, 231, 232, 5, 233, 58, 400, 401, 402, 403, 59, 60, 375, 376, 377, 378, 44, 567, 568, 569, 570, 571, 572, 573, 574, 575, 576, 577, 578, 579, 580, 581, 582] (by decide +kernel) (by decide +kernel)
set_option maxRecDepth 20000 in
theorem gL_law_X3_ones : GoodIn wsL_law (wsV RL 114 RX3 yX3_ones wsX3_ones) := goodIn_app (goodIn_of _ (by decide +kernel)) ggL_law_X3_ones
set_option maxRecDepth 20000 in
theorem ggL_law_L_value : GoodIn wsL_law wsL_value := goodIn_ca (goodIn_r _ [406, 198, 407, 408, 409, 2, 410, 16, 209, 210, 211, 212, 207, 208, 83, 411, 125, 126, 15, 127, 128, 129, 130, 131, 31, 115, 560, 561, 562, 563, 564, 565, 566, 583, 584, 585, 586] (by decide +kernel) (by decide +kernel)) (goodIn_sub (fun _ h => List.mem_append_right _ h) (by decide +kernel))
set_option maxRecDepth 20000 in
theorem gL_law_L_value : GoodIn wsL_law (va_wsS RL 115 yL_value wsL_value) := goodIn_app (goodIn_of _ (by decide +kernel)) ggL_law_L_value
set_option maxRecDepth 20000 in
theorem ggL_law_X3_value : GoodIn wsL_law wsX3_value := goodIn_r _ [415, 57, 230, 231, 232, 5, 233, 58, 400, 401, 402, 403, 59, 60, 375, 376, 377, 378, 44, 567, 568, 569, 570, 571, 572, 573, 574, 575, 576, 577, 578, 579, 580, 581, 582] (by decide +kernel) (by decide +kernel)
set_option maxRecDepth 20000 in
theorem gL_law_X3_value : GoodIn wsL_law (wsV RL 117 RX3 yX3_value wsX3_value) := goodIn_app (goodIn_of _ (by decide +kernel)) ggL_law_X3_value
set_option maxRecDepth 20000 in
theorem ggL_law_L_differs : GoodIn wsL_law wsL_differs := goodIn_ca (goodIn_r _ [418, 198, 419, 420, 421, 2, 422, 207, 208, 20, 423, 21, 266, 165, 424, 425, 426, 427, 245, 428, 93, 94, 95, 429, 430, 431, 432, 16, 285, 286, 287, 15, 288, 289, 290, 291, 292, 30, 433, 434, 435, 436, 437, 438, 439, 440, 441, 560, 561, 562, 563, 564, 565, 566, 587, 588, 589, 590, 591, 592, 593, 583, 584, 585, 586] (by decide +kernel) (by decide +kernel)) (goodIn_sub (fun _ h => List.mem_append_right _ h) (by decide +kernel))
set_option maxRecDepth 20000 in
theorem gL_law_L_differs : GoodIn wsL_law (va_wsS RL 118 yL_differs wsL_differs) := goodIn_app (goodIn_of _ (by decide +kernel)) ggL_law_L_differs
set_option maxRecDepth 20000 in
theorem ggL_law_X3_differs : GoodIn wsL_law wsX3_differs := goodIn_r _ [445, 57, 446, 447, 448, 5, 449, 50, 60, 47, 46, 49, 450, 451, 452, 453, 297, 298, 299, 300, 229, 44, 567, 568, 569, 570, 571, 572, 573, 574, 575, 576, 577, 578, 579, 580, 581, 582] (by decide +kernel) (by decide +kernel)
set_option maxRecDepth 20000 in
theorem gL_law_X3_differs : GoodIn wsL_law (wsV RL 120 RX3 yX3_differs wsX3_differs) := goodIn_app (goodIn_of _ (by decide +kernel)) ggL_law_X3_differs
set_option maxRecDepth 20000 in
theorem ggL_law_L_witness : GoodIn wsL_law wsL_witness := goodIn_ca (goodIn_r _ [456, 198, 457, 458, 459, 2, 460, 207, 208, 16, 20, 423, 21, 165, 266, 424, 425, 426, 427, 245, 428, 93, 94, 95, 461, 133, 134, 15, 135, 128, 129, 130, 131, 31, 115, 136, 137, 138, 139, 140, 141, 142, 143, 144, 560, 561, 562, 563, 564, 565, 566, 587, 588, 589, 590, 591, 592, 593, 583, 584, 585, 586] (by decide +kernel) (by decide +kernel)) (goodIn_sub (fun _ h => List.mem_append_right _ h) (by decide +kernel))
set_option maxRecDepth 20000 in
theorem gL_law_L_witness : GoodIn wsL_law (va_wsS RL 121 yL_witness wsL_witness) := goodIn_app (goodIn_of _ (by decide +kernel)) ggL_law_L_witness
set_option maxRecDepth 20000 in
theorem ggL_law_X3_witness : GoodIn wsL_law wsX3_witness := goodIn_r _ [465, 60, 57, 50, 47, 450, 451, 452, 5, 453, 49, 275, 276, 277, 375, 376, 377, 378, 44, 567, 568, 569, 570, 571, 572, 573, 574, 575, 576, 577, 578, 579, 580, 581, 582] (by decide +kernel) (by decide +kernel)
set_option maxRecDepth 20000 in
theorem gL_law_X3_witness : GoodIn wsL_law (wsV RL 123 RX3 yX3_witness wsX3_witness) := goodIn_app (goodIn_of _ (by decide +kernel)) ggL_law_X3_witness
set_option maxRecDepth 20000 in
theorem ggL_law_X2_reset : GoodIn wsL_law wsX2_reset := goodIn_r _ [469, 177, 178, 179, 2, 180, 20, 21, 181, 22, 182, 183, 184, 19, 185, 176, 186, 187, 560, 561, 562, 563, 564, 565, 566, 587, 588, 589, 590, 591, 592, 593] (by decide +kernel) (by decide +kernel)
set_option maxRecDepth 20000 in
theorem gL_law_X2_reset : GoodIn wsL_law (wsV RL 124 RX2 yX2_reset wsX2_reset) := goodIn_app (goodIn_of _ (by decide +kernel)) ggL_law_X2_reset
set_option maxRecDepth 20000 in
theorem ggL_law_X3_reset : GoodIn wsL_law wsX3_reset := goodIn_r _ [473, 57, 61, 62, 63, 5, 64, 48, 46, 65, 66, 52, 567, 568, 569, 570, 571, 572, 573, 574, 575, 576, 577, 578, 579, 580, 581, 582] (by decide +kernel) (by decide +kernel)
set_option maxRecDepth 20000 in
theorem gL_law_X3_reset : GoodIn wsL_law (wsV RL 127 RX3 yX3_reset wsX3_reset) := goodIn_app (goodIn_of _ (by decide +kernel)) ggL_law_X3_reset
set_option maxRecDepth 20000 in
theorem ggL_law_X2_step : GoodIn wsL_law wsX2_step := goodIn_r _ [477, 20, 16, 165, 21, 22, 181, 478, 479, 480, 19, 481, 186, 254, 38, 36, 187, 37, 482, 125, 126, 15, 127, 128, 129, 130, 131, 31, 115, 483, 484, 485, 2, 486, 487, 428, 93, 94, 95, 488, 560, 561, 562, 563, 564, 565, 566, 587, 588, 589, 590, 591, 592, 593, 583, 584, 585, 586] (by decide +kernel) (by decide +kernel)
set_option maxRecDepth 20000 in
theorem gL_law_X2_step : GoodIn wsL_law (wsV RL 128 RX2 yX2_step wsX2_step) := goodIn_app (goodIn_of _ (by decide +kernel)) ggL_law_X2_step
set_option maxRecDepth 20000 in
theorem ggL_law_X3_step : GoodIn wsL_law wsX3_step := goodIn_r _ [492, 57, 49, 51, 50, 52, 60, 48, 47, 66, 65, 493, 494, 495, 5, 496, 59, 375, 376, 377, 378, 44, 450, 451, 452, 453, 567, 568, 569, 570, 571, 572, 573, 574, 575, 576, 577, 578, 579, 580, 581, 582] (by decide +kernel) (by decide +kernel)
set_option maxRecDepth 20000 in
theorem gL_law_X3_step : GoodIn wsL_law (wsV RL 131 RX3 yX3_step wsX3_step) := goodIn_app (goodIn_of _ (by decide +kernel)) ggL_law_X3_step
set_option maxRecDepth 20000 in
theorem ggL_law_L_out : GoodIn wsL_law wsL_out := goodIn_ca (goodIn_r _ [499, 198, 500, 501, 502, 2, 503, 207, 208, 245, 487, 488, 203, 204, 205, 206, 246, 247, 248, 249, 20, 21, 587, 588, 589, 590, 591, 592, 593, 560, 561, 562, 563, 564, 565, 566] (by decide +kernel) (by decide +kernel)) (goodIn_sub (fun _ h => List.mem_append_right _ h) (by decide +kernel))
set_option maxRecDepth 20000 in
theorem gL_law_L_out : GoodIn wsL_law (va_wsS RL 132 yL_out wsL_out) := goodIn_app (goodIn_of _ (by decide +kernel)) ggL_law_L_out
set_option maxRecDepth 20000 in
theorem ggL_law_X3_out : GoodIn wsL_law wsX3_out := goodIn_r _ [507, 49, 57, 52, 51, 192, 193, 5, 194, 275, 276, 277, 567, 568, 569, 570, 571, 572, 573, 574, 575, 576, 577, 578, 579, 580, 581, 582] (by decide +kernel) (by decide +kernel)
set_option maxRecDepth 20000 in
theorem gL_law_X3_out : GoodIn wsL_law (wsV RL 134 RX3 yX3_out wsX3_out) := goodIn_app (goodIn_of _ (by decide +kernel)) ggL_law_X3_out
set_option maxRecDepth 20000 in
theorem ggL_law_L_state : GoodIn wsL_law wsL_state := goodIn_ca (goodIn_r _ [510, 198, 511, 512, 513, 2, 514, 515, 203, 204, 205, 206, 207, 208, 267, 268, 269, 270, 165, 246, 247, 248, 249, 20, 21, 587, 588, 589, 590, 591, 592, 593, 560, 561, 562, 563, 564, 565, 566] (by decide +kernel) (by decide +kernel)) (goodIn_sub (fun _ h => List.mem_append_right _ h) (by decide +kernel))
set_option maxRecDepth 20000 in
theorem gL_law_L_state : GoodIn wsL_law (va_wsS RL 135 yL_state wsL_state) := goodIn_app (goodIn_of _ (by decide +kernel)) ggL_law_L_state
set_option maxRecDepth 20000 in
theorem ggL_law_X3_state : GoodIn wsL_law wsX3_state := goodIn_r _ [519, 60, 57, 48, 192, 193, 5, 194, 275, 276, 277, 567, 568, 569, 570, 571, 572, 573, 574, 575, 576, 577, 578, 579, 580, 581, 582] (by decide +kernel) (by decide +kernel)
set_option maxRecDepth 20000 in
theorem gL_law_X3_state : GoodIn wsL_law (wsV RL 137 RX3 yX3_state wsX3_state) := goodIn_app (goodIn_of _ (by decide +kernel)) ggL_law_X3_state
set_option maxRecDepth 20000 in
theorem ggL_law_X2_apart : GoodIn wsL_law wsX2_apart := goodIn_r _ [523, 22, 560, 561, 562, 563, 564, 565, 566] (by decide +kernel) (by decide +kernel)
set_option maxRecDepth 20000 in
theorem gL_law_X2_apart : GoodIn wsL_law (wsV RL 138 RX2 yX2_apart wsX2_apart) := goodIn_app (goodIn_of _ (by decide +kernel)) ggL_law_X2_apart
set_option maxRecDepth 20000 in
theorem ggL_law_X3_apart : GoodIn wsL_law wsX3_apart := goodIn_r _ [527, 57, 66, 567, 568, 569, 570, 571, 572, 573, 574, 575, 576, 577, 578, 579, 580, 581, 582] (by decide +kernel) (by decide +kernel)
set_option maxRecDepth 20000 in
theorem gL_law_X3_apart : GoodIn wsL_law (wsV RL 141 RX3 yX3_apart wsX3_apart) := goodIn_app (goodIn_of _ (by decide +kernel)) ggL_law_X3_apart
set_option maxRecDepth 20000 in
theorem ggL_law_L_count : GoodIn wsL_law wsL_count := goodIn_ca (goodIn_r _ [530, 198, 531, 532, 533, 2, 534, 207, 208, 16, 83, 78, 165, 20, 245, 21, 535, 536, 537, 15, 538, 27, 29, 560, 561, 562, 563, 564, 565, 566, 583, 584, 585, 586, 587, 588, 589, 590, 591, 592, 593] (by decide +kernel) (by decide +kernel)) (goodIn_sub (fun _ h => List.mem_append_right _ h) (by decide +kernel))
set_option maxRecDepth 20000 in
theorem gL_law_L_count : GoodIn wsL_law (va_wsS RL 142 yL_count wsL_count) := goodIn_app (goodIn_of _ (by decide +kernel)) ggL_law_L_count
set_option maxRecDepth 20000 in
theorem ggL_law_X3_count : GoodIn wsL_law wsX3_count := goodIn_r _ [542, 57, 58, 59, 60, 49, 275, 276, 5, 277, 543, 544, 545, 546, 43, 567, 568, 569, 570, 571, 572, 573, 574, 575, 576, 577, 578, 579, 580, 581, 582] (by decide +kernel) (by decide +kernel)
set_option maxRecDepth 20000 in
theorem gL_law_X3_count : GoodIn wsL_law (wsV RL 144 RX3 yX3_count wsX3_count) := goodIn_app (goodIn_of _ (by decide +kernel)) ggL_law_X3_count
set_option maxRecDepth 20000 in
theorem ggL_law_X2_clear : GoodIn wsL_law wsX2_clear := goodIn_r _ [550, 16, 20, 21, 78, 165, 551, 552, 553, 15, 554, 27, 555, 556, 557, 19, 558, 254, 176, 177, 178, 179, 2, 180, 181, 22, 182, 183, 184, 185, 186, 187, 560, 561, 562, 563, 564, 565, 566, 583, 584, 585, 586, 587, 588, 589, 590, 591, 592, 593] (by decide +kernel) (by decide +kernel)
set_option maxRecDepth 20000 in
theorem gL_law_X2_clear : GoodIn wsL_law (wsV RL 145 RX2 yX2_clear wsX2_clear) := goodIn_app (goodIn_of _ (by decide +kernel)) ggL_law_X2_clear
set_option maxRecDepth 20000 in
theorem ggL_law_X3_clear : GoodIn wsL_law wsX3_clear := goodIn_r _ [56, 57, 58, 43, 44, 59, 60, 49, 61, 62, 63, 5, 64, 48, 46, 65, 66, 52, 567, 568, 569, 570, 571, 572, 573, 574, 575, 576, 577, 578, 579, 580, 581, 582] (by decide +kernel) (by decide +kernel)
set_option maxRecDepth 20000 in
theorem gL_law_X3_clear : GoodIn wsL_law (wsV RL 148 RX3 yX3_clear wsX3_clear) := goodIn_app (goodIn_of _ (by decide +kernel)) ggL_law_X3_clear
abbrev vwCl : List vw_C := [(RX0, TX0, 7), (RX1, TX1, 4), (RX2, TX2, 7), (RX3, TX3, 16)]
