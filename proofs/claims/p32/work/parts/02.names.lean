/-! names, fields, codes: printed of the program by TURN -/
def RX0 : String := "OctavianDesk$Calculator"
def TX0 : u_T := fun k => match k with
  | 0 => ("OctavianDesk$Calculator", "text", "LOctavianDesk$Text;", true)
  | 1 => ("OctavianDesk$Calculator", "sums", "[[J", true)
  | 2 => ("OctavianDesk$Calculator", "terms", "[[J", true)
  | 3 => ("OctavianDesk$Calculator", "factors", "[[J", true)
  | 4 => ("OctavianDesk$Calculator", "product", "[J", true)
  | 5 => ("OctavianDesk$Calculator", "cursor", "I", false)
  | _ => ("OctavianDesk$Calculator", "products", "I", false)
def tyX0 : Nat → FieldType := fun k => match k with
  | 0 => .object "OctavianDesk$Text"
  | 1 => .array (.array .long)
  | 2 => .array (.array .long)
  | 3 => .array (.array .long)
  | 4 => .array .long
  | 5 => .int
  | _ => .int
abbrev wsX00 : List Cond := u_ws RX0 TX0 7
theorem nmX0 : ∀ a, a < 7 → ∀ b, b < 7 → a ≠ b → (TX0 a).2.1 ≠ (TX0 b).2.1 := by decide +kernel
theorem tyX0_ok : ∀ k, k < 7 → parseFieldDescriptor (TX0 k).2.2.1 = some (tyX0 k) := by decide +kernel
abbrev cX0_init : ByteArray := prog_2_method_1_code
def yX0_init : MethodName := ⟨RX0, "<init>", "(LOctavianDesk$Text;)V"⟩
def RX1 : String := "OctavianDesk$Division"
def TX1 : u_T := fun k => match k with
  | 0 => ("OctavianDesk$Division", "quotient", "[J", true)
  | 1 => ("OctavianDesk$Division", "remainder", "[J", true)
  | 2 => ("OctavianDesk$Division", "dividend", "[J", true)
  | 3 => ("OctavianDesk$Division", "divisor", "[J", true)
  | 4 => ("OctavianDesk$Division", "product", "[J", true)
  | 5 => ("OctavianDesk$Division", "mirrored", "[J", true)
  | 6 => ("OctavianDesk$Division", "trial", "[J", true)
  | 7 => ("OctavianDesk$Division", "nearest", "[[J", true)
  | _ => ("OctavianDesk$Division", "distance", "[[J", true)
def tyX1 : Nat → FieldType := fun k => match k with
  | 0 => .array .long
  | 1 => .array .long
  | 2 => .array .long
  | 3 => .array .long
  | 4 => .array .long
  | 5 => .array .long
  | 6 => .array .long
  | 7 => .array (.array .long)
  | _ => .array (.array .long)
abbrev wsX10 : List Cond := u_ws RX1 TX1 9
theorem nmX1 : ∀ a, a < 9 → ∀ b, b < 9 → a ≠ b → (TX1 a).2.1 ≠ (TX1 b).2.1 := by decide +kernel
theorem tyX1_ok : ∀ k, k < 9 → parseFieldDescriptor (TX1 k).2.2.1 = some (tyX1 k) := by decide +kernel
abbrev cX1_init : ByteArray := prog_3_method_1_code
def yX1_init : MethodName := ⟨RX1, "<init>", "()V"⟩
abbrev cX1_work : ByteArray := prog_3_method_2_code
def yX1_work : MethodName := ⟨RX1, "work", "([J[JI)V"⟩
abbrev cX1_findNearest : ByteArray := prog_3_method_3_code
def yX1_findNearest : MethodName := ⟨RX1, "findNearest", "(J)V"⟩
abbrev cX1_chooseQuotient : ByteArray := prog_3_method_4_code
def yX1_chooseQuotient : MethodName := ⟨RX1, "chooseQuotient", "(I)V"⟩
abbrev cX1_comesFirst : ByteArray := prog_3_method_5_code
def yX1_comesFirst : MethodName := ⟨RX1, "comesFirst", "([J[J)Z"⟩
def RX2 : String := "OctavianDesk$Orders"
def TX2 : u_T := fun k => match k with
  | _ => ("", "", "", false)
def tyX2 : Nat → FieldType := fun k => match k with
  | _ => .int
abbrev wsX20 : List Cond := u_ws RX2 TX2 0
theorem nmX2 : ∀ a, a < 0 → ∀ b, b < 0 → a ≠ b → (TX2 a).2.1 ≠ (TX2 b).2.1 := by decide +kernel
theorem tyX2_ok : ∀ k, k < 0 → parseFieldDescriptor (TX2 k).2.2.1 = some (tyX2 k) := by decide +kernel
abbrev cX2_sets : ByteArray := prog_4_method_2_code
def yX2_sets : MethodName := ⟨RX2, "sets", "(I)I"⟩
abbrev cX2_oddSet : ByteArray := prog_4_method_3_code
def yX2_oddSet : MethodName := ⟨RX2, "oddSet", "(II)I"⟩
abbrev cX2_exchanged : ByteArray := prog_4_method_4_code
def yX2_exchanged : MethodName := ⟨RX2, "exchanged", "(II)I"⟩
abbrev cX2_allows : ByteArray := prog_4_method_5_code
def yX2_allows : MethodName := ⟨RX2, "allows", "(II)Z"⟩
def RX3 : String := "OctavianDesk$Rows"
def TX3 : u_T := fun k => match k with
  | _ => ("", "", "", false)
def tyX3 : Nat → FieldType := fun k => match k with
  | _ => .int
abbrev wsX30 : List Cond := u_ws RX3 TX3 0
theorem nmX3 : ∀ a, a < 0 → ∀ b, b < 0 → a ≠ b → (TX3 a).2.1 ≠ (TX3 b).2.1 := by decide +kernel
theorem tyX3_ok : ∀ k, k < 0 → parseFieldDescriptor (TX3 k).2.2.1 = some (tyX3 k) := by decide +kernel
abbrev cX3_product : ByteArray := prog_5_method_2_code
def yX3_product : MethodName := ⟨RX3, "product", "([J[J[J)V"⟩
abbrev cX3_total : ByteArray := prog_5_method_3_code
def yX3_total : MethodName := ⟨RX3, "total", "([J[JZ[J)V"⟩
abbrev cX3_mirror : ByteArray := prog_5_method_4_code
def yX3_mirror : MethodName := ⟨RX3, "mirror", "([J)V"⟩
abbrev cX3_copy : ByteArray := prog_5_method_6_code
def yX3_copy : MethodName := ⟨RX3, "copy", "([J[J)V"⟩
abbrev cX3_clear : ByteArray := prog_5_method_7_code
def yX3_clear : MethodName := ⟨RX3, "clear", "([J)V"⟩
abbrev cX3_fit : ByteArray := prog_5_method_8_code
def yX3_fit : MethodName := ⟨RX3, "fit", "([JI)Z"⟩
abbrev cX3_inner : ByteArray := prog_5_method_9_code
def yX3_inner : MethodName := ⟨RX3, "inner", "([J[J)J"⟩
abbrev cX3_quarters : ByteArray := prog_5_method_10_code
def yX3_quarters : MethodName := ⟨RX3, "quarters", "([J)J"⟩
abbrev cX3_isZero : ByteArray := prog_5_method_11_code
def yX3_isZero : MethodName := ⟨RX3, "isZero", "([J)Z"⟩
abbrev cX3_oddSet : ByteArray := prog_5_method_12_code
def yX3_oddSet : MethodName := ⟨RX3, "oddSet", "([J)I"⟩
def RX4 : String := "OctavianDesk$State"
def TX4 : u_T := fun k => match k with
  | 0 => ("OctavianDesk$State", "registers", "[[J", true)
  | 1 => ("OctavianDesk$State", "order", "I", false)
  | 2 => ("OctavianDesk$State", "multiplications", "I", false)
  | _ => ("OctavianDesk$State", "divisions", "I", false)
def tyX4 : Nat → FieldType := fun k => match k with
  | 0 => .array (.array .long)
  | 1 => .int
  | 2 => .int
  | _ => .int
abbrev wsX40 : List Cond := u_ws RX4 TX4 4
theorem nmX4 : ∀ a, a < 4 → ∀ b, b < 4 → a ≠ b → (TX4 a).2.1 ≠ (TX4 b).2.1 := by decide +kernel
theorem tyX4_ok : ∀ k, k < 4 → parseFieldDescriptor (TX4 k).2.2.1 = some (tyX4 k) := by decide +kernel
abbrev cX4_init : ByteArray := prog_6_method_1_code
def yX4_init : MethodName := ⟨RX4, "<init>", "()V"⟩
abbrev cX4_takeFrom : ByteArray := prog_6_method_2_code
def yX4_takeFrom : MethodName := ⟨RX4, "takeFrom", "(LOctavianDesk$State;)V"⟩
def RX5 : String := "OctavianDesk$Text"
def TX5 : u_T := fun k => match k with
  | 0 => ("OctavianDesk$Text", "bytes", "[B", true)
  | 1 => ("OctavianDesk$Text", "length", "I", false)
  | _ => ("OctavianDesk$Text", "depth", "I", false)
def tyX5 : Nat → FieldType := fun k => match k with
  | 0 => .array .byte
  | 1 => .int
  | _ => .int
abbrev wsX50 : List Cond := u_ws RX5 TX5 3
theorem nmX5 : ∀ a, a < 3 → ∀ b, b < 3 → a ≠ b → (TX5 a).2.1 ≠ (TX5 b).2.1 := by decide +kernel
theorem tyX5_ok : ∀ k, k < 3 → parseFieldDescriptor (TX5 k).2.2.1 = some (tyX5 k) := by decide +kernel
abbrev cX5_init : ByteArray := prog_7_method_1_code
def yX5_init : MethodName := ⟨RX5, "<init>", "()V"⟩
def RX6 : String := "OctavianDesk$Units"
def TX6 : u_T := fun k => match k with
  | 0 => ("OctavianDesk$Units", "codes", "[I", true)
  | _ => ("OctavianDesk$Units", "filled", "I", false)
def tyX6 : Nat → FieldType := fun k => match k with
  | 0 => .array .int
  | _ => .int
abbrev wsX60 : List Cond := u_ws RX6 TX6 2
theorem nmX6 : ∀ a, a < 2 → ∀ b, b < 2 → a ≠ b → (TX6 a).2.1 ≠ (TX6 b).2.1 := by decide +kernel
theorem tyX6_ok : ∀ k, k < 2 → parseFieldDescriptor (TX6 k).2.2.1 = some (tyX6 k) := by decide +kernel
abbrev cX6_init : ByteArray := prog_8_method_1_code
def yX6_init : MethodName := ⟨RX6, "<init>", "(I)V"⟩
abbrev cX6_count : ByteArray := prog_8_method_2_code
def yX6_count : MethodName := ⟨RX6, "count", "(I)I"⟩
abbrev cX6_read : ByteArray := prog_8_method_3_code
def yX6_read : MethodName := ⟨RX6, "read", "(I[J)V"⟩
abbrev cX6_numberOf : ByteArray := prog_8_method_4_code
def yX6_numberOf : MethodName := ⟨RX6, "numberOf", "([J)I"⟩
abbrev cX6_code : ByteArray := prog_8_method_5_code
def yX6_code : MethodName := ⟨RX6, "code", "([J)I"⟩
abbrev cX6_spread : ByteArray := prog_8_method_6_code
def yX6_spread : MethodName := ⟨RX6, "spread", "(II[J)V"⟩
abbrev cX6_insert : ByteArray := prog_8_method_7_code
def yX6_insert : MethodName := ⟨RX6, "insert", "(I)V"⟩
def RX7 : String := "OctavianDesk"
def TX7 : u_T := fun k => match k with
  | 0 => ("OctavianDesk", "now", "LOctavianDesk$State;", true)
  | 1 => ("OctavianDesk", "saved", "[LOctavianDesk$State;", true)
  | 2 => ("OctavianDesk", "savedCount", "I", false)
  | 3 => ("OctavianDesk", "units", "[LOctavianDesk$Units;", true)
  | 4 => ("OctavianDesk", "division", "LOctavianDesk$Division;", true)
  | 5 => ("OctavianDesk", "text", "LOctavianDesk$Text;", true)
  | 6 => ("OctavianDesk", "calculator", "LOctavianDesk$Calculator;", true)
  | 7 => ("OctavianDesk", "result", "[J", true)
  | 8 => ("OctavianDesk", "other", "[J", true)
  | _ => ("OctavianDesk", "inner", "[J", true)
def tyX7 : Nat → FieldType := fun k => match k with
  | 0 => .object "OctavianDesk$State"
  | 1 => .array (.object "OctavianDesk$State")
  | 2 => .int
  | 3 => .array (.object "OctavianDesk$Units")
  | 4 => .object "OctavianDesk$Division"
  | 5 => .object "OctavianDesk$Text"
  | 6 => .object "OctavianDesk$Calculator"
  | 7 => .array .long
  | 8 => .array .long
  | _ => .array .long
abbrev wsX70 : List Cond := u_ws RX7 TX7 10
theorem nmX7 : ∀ a, a < 10 → ∀ b, b < 10 → a ≠ b → (TX7 a).2.1 ≠ (TX7 b).2.1 := by decide +kernel
theorem tyX7_ok : ∀ k, k < 10 → parseFieldDescriptor (TX7 k).2.2.1 = some (tyX7 k) := by decide +kernel
abbrev cX7_init : ByteArray := prog_1_method_1_code
def yX7_init : MethodName := ⟨RX7, "<init>", "()V"⟩
abbrev cX7_set : ByteArray := prog_1_method_2_code
def yX7_set : MethodName := ⟨RX7, "set", "(III)I"⟩
abbrev cX7_setFour : ByteArray := prog_1_method_3_code
def yX7_setFour : MethodName := ⟨RX7, "setFour", "(IZIIII)J"⟩
abbrev cX7_setOrder : ByteArray := prog_1_method_4_code
def yX7_setOrder : MethodName := ⟨RX7, "setOrder", "(I)I"⟩
abbrev cX7_load : ByteArray := prog_1_method_5_code
def yX7_load : MethodName := ⟨RX7, "load", "(II)I"⟩
abbrev cX7_add : ByteArray := prog_1_method_6_code
def yX7_add : MethodName := ⟨RX7, "add", "(IIIZ)J"⟩
abbrev cX7_multiply : ByteArray := prog_1_method_7_code
def yX7_multiply : MethodName := ⟨RX7, "multiply", "(III)J"⟩
abbrev cX7_conjugate : ByteArray := prog_1_method_8_code
def yX7_conjugate : MethodName := ⟨RX7, "conjugate", "(I)I"⟩
abbrev cX7_commutator : ByteArray := prog_1_method_9_code
def yX7_commutator : MethodName := ⟨RX7, "commutator", "(III)J"⟩
abbrev cX7_associator : ByteArray := prog_1_method_10_code
def yX7_associator : MethodName := ⟨RX7, "associator", "(IIII)J"⟩
abbrev cX7_divide : ByteArray := prog_1_method_11_code
def yX7_divide : MethodName := ⟨RX7, "divide", "(IIII)J"⟩
abbrev cX7_coordinate : ByteArray := prog_1_method_12_code
def yX7_coordinate : MethodName := ⟨RX7, "coordinate", "(II)I"⟩
abbrev cX7_norm : ByteArray := prog_1_method_13_code
def yX7_norm : MethodName := ⟨RX7, "norm", "(I)J"⟩
abbrev cX7_dot : ByteArray := prog_1_method_14_code
def yX7_dot : MethodName := ⟨RX7, "dot", "(II)J"⟩
abbrev cX7_ordersOf : ByteArray := prog_1_method_15_code
def yX7_ordersOf : MethodName := ⟨RX7, "ordersOf", "(I)I"⟩
abbrev cX7_left : ByteArray := prog_1_method_16_code
def yX7_left : MethodName := ⟨RX7, "left", "(III)I"⟩
abbrev cX7_unitOf : ByteArray := prog_1_method_17_code
def yX7_unitOf : MethodName := ⟨RX7, "unitOf", "(I)I"⟩
abbrev cX7_value : ByteArray := prog_1_method_18_code
def yX7_value : MethodName := ⟨RX7, "value", "(I)I"⟩
abbrev cX7_needRegister : ByteArray := prog_1_method_31_code
def yX7_needRegister : MethodName := ⟨RX7, "needRegister", "(I)V"⟩
abbrev cX7_needIndex : ByteArray := prog_1_method_32_code
def yX7_needIndex : MethodName := ⟨RX7, "needIndex", "(I)V"⟩
abbrev cX7_needHalves : ByteArray := prog_1_method_33_code
def yX7_needHalves : MethodName := ⟨RX7, "needHalves", "(I)V"⟩
abbrev cX7_needFit : ByteArray := prog_1_method_34_code
def yX7_needFit : MethodName := ⟨RX7, "needFit", "(Z)V"⟩
abbrev cX7_needDivisible : ByteArray := prog_1_method_35_code
def yX7_needDivisible : MethodName := ⟨RX7, "needDivisible", "(II)V"⟩
abbrev cX7_presentUnits : ByteArray := prog_1_method_36_code
def yX7_presentUnits : MethodName := ⟨RX7, "presentUnits", "()LOctavianDesk$Units;"⟩
abbrev cX7_isInOrder : ByteArray := prog_1_method_37_code
def yX7_isInOrder : MethodName := ⟨RX7, "isInOrder", "(I)Z"⟩
abbrev cX7_registersInOrder : ByteArray := prog_1_method_38_code
def yX7_registersInOrder : MethodName := ⟨RX7, "registersInOrder", "()I"⟩
abbrev cX7_zeroRegisters : ByteArray := prog_1_method_39_code
def yX7_zeroRegisters : MethodName := ⟨RX7, "zeroRegisters", "()I"⟩
abbrev cX7_workAssociator : ByteArray := prog_1_method_40_code
def yX7_workAssociator : MethodName := ⟨RX7, "workAssociator", "(III)V"⟩
abbrev cX7_put : ByteArray := prog_1_method_42_code
def yX7_put : MethodName := ⟨RX7, "put", "(I)J"⟩
abbrev cX7_saveState : ByteArray := prog_1_method_43_code
def yX7_saveState : MethodName := ⟨RX7, "saveState", "()V"⟩
def RX8 : String := "OctavianDeskModel"
def TX8 : u_T := fun k => match k with
  | _ => ("", "", "", false)
def tyX8 : Nat → FieldType := fun k => match k with
  | _ => .int
abbrev wsX80 : List Cond := u_ws RX8 TX8 0
theorem nmX8 : ∀ a, a < 0 → ∀ b, b < 0 → a ≠ b → (TX8 a).2.1 ≠ (TX8 b).2.1 := by decide +kernel
theorem tyX8_ok : ∀ k, k < 0 → parseFieldDescriptor (TX8 k).2.2.1 = some (tyX8 k) := by decide +kernel
def RJx00060 : String := "java/lang/ArrayIndexOutOfBoundsException"
def TJx00060 : u_T := fun k => match k with
  | 0 => ("java/lang/Throwable", "backtrace", "Ljava/lang/Object;", false)
  | 1 => ("java/lang/Throwable", "detailMessage", "Ljava/lang/String;", false)
  | 2 => ("java/lang/Throwable", "cause", "Ljava/lang/Throwable;", false)
  | 3 => ("java/lang/Throwable", "stackTrace", "[Ljava/lang/StackTraceElement;", false)
  | 4 => ("java/lang/Throwable", "depth", "I", false)
  | _ => ("java/lang/Throwable", "suppressedExceptions", "Ljava/util/List;", false)
def tyJx00060 : Nat → FieldType := fun k => match k with
  | 0 => .object "java/lang/Object"
  | 1 => .object "java/lang/String"
  | 2 => .object "java/lang/Throwable"
  | 3 => .array (.object "java/lang/StackTraceElement")
  | 4 => .int
  | _ => .object "java/util/List"
abbrev cJx00060_init_a7421 : ByteArray := prog_12_method_2_code
def yJx00060_init_a7421 : MethodName := ⟨RJx00060, "<init>", "(Ljava/lang/String;)V"⟩
def RJ6 : String := "java/lang/Integer"
def TJ6 : u_T := fun k => match k with
  | _ => ("", "", "", false)
def tyJ6 : Nat → FieldType := fun k => match k with
  | _ => .int
abbrev cJ6_bitCount_0f7a4 : ByteArray := prog_17_method_49_code
def yJ6_bitCount_0f7a4 : MethodName := ⟨RJ6, "bitCount", "(I)I"⟩
def RJ9 : String := "java/lang/Math"
def TJ9 : u_T := fun k => match k with
  | _ => ("", "", "", false)
def tyJ9 : Nat → FieldType := fun k => match k with
  | _ => .int
abbrev cJ9_floorDiv_f86c9 : ByteArray := prog_18_method_49_code
def yJ9_floorDiv_f86c9 : MethodName := ⟨RJ9, "floorDiv", "(JJ)J"⟩
def RJ0 : String := "java/lang/String"
def TJ0 : u_T := fun k => match k with
  | 0 => ("java/lang/String", "value", "[B", true)
  | _ => ("java/lang/String", "coder", "B", true)
def tyJ0 : Nat → FieldType := fun k => match k with
  | 0 => .array .byte
  | _ => .byte
def RL : String := "OctavianDeskLaw"
abbrev cL_cell : ByteArray := method_2_code
def yL_cell : MethodName := ⟨RL, "cell", "([II)I"⟩
abbrev cL_low : ByteArray := method_3_code
def yL_low : MethodName := ⟨RL, "low", "(II)I"⟩
abbrev cL_table : ByteArray := method_4_code
def yL_table : MethodName := ⟨RL, "table", "()[I"⟩
abbrev cL_product : ByteArray := method_5_code
def yL_product : MethodName := ⟨RL, "product", "([I[J[J)[J"⟩
abbrev cL_row : ByteArray := method_6_code
def yL_row : MethodName := ⟨RL, "row", "([II)[J"⟩
abbrev cL_less : ByteArray := method_7_code
def yL_less : MethodName := ⟨RL, "less", "([J[J)[J"⟩
abbrev cL_square : ByteArray := method_8_code
def yL_square : MethodName := ⟨RL, "square", "([J)J"⟩
abbrev cL_isNought : ByteArray := method_9_code
def yL_isNought : MethodName := ⟨RL, "isNought", "([J)Z"⟩
abbrev cL_puts : ByteArray := method_10_code
def yL_puts : MethodName := ⟨RL, "puts", "([II[JJ)Z"⟩
abbrev cL_isOne : ByteArray := method_11_code
def yL_isOne : MethodName := ⟨RL, "isOne", "(II)Z"⟩
abbrev cL_isIn : ByteArray := method_12_code
def yL_isIn : MethodName := ⟨RL, "isIn", "([JI)Z"⟩
abbrev cL_units : ByteArray := method_13_code
def yL_units : MethodName := ⟨RL, "units", "(I[J[JI)I"⟩
abbrev cL_many : ByteArray := method_14_code
def yL_many : MethodName := ⟨RL, "many", "(I)I"⟩
abbrev cL_quotient : ByteArray := method_15_code
def yL_quotient : MethodName := ⟨RL, "quotient", "([I[J[JI)[J"⟩
abbrev cL_rest : ByteArray := method_16_code
def yL_rest : MethodName := ⟨RL, "rest", "([I[J[J[J)[J"⟩
abbrev cL_sets : ByteArray := method_17_code
def yL_sets : MethodName := ⟨RL, "sets", "(LOctavianDesk;III)I"⟩
abbrev cL_fours : ByteArray := method_18_code
def yL_fours : MethodName := ⟨RL, "fours", "(LOctavianDesk;IZIIII)J"⟩
abbrev cL_ordered : ByteArray := method_19_code
def yL_ordered : MethodName := ⟨RL, "ordered", "(LOctavianDesk;I)I"⟩
abbrev cL_loads : ByteArray := method_20_code
def yL_loads : MethodName := ⟨RL, "loads", "(LOctavianDesk;II)I"⟩
abbrev cL_adds : ByteArray := method_21_code
def yL_adds : MethodName := ⟨RL, "adds", "(LOctavianDesk;IIIZ)J"⟩
abbrev cL_multiplies : ByteArray := method_22_code
def yL_multiplies : MethodName := ⟨RL, "multiplies", "(LOctavianDesk;III)J"⟩
abbrev cL_conjugates : ByteArray := method_23_code
def yL_conjugates : MethodName := ⟨RL, "conjugates", "(LOctavianDesk;I)I"⟩
abbrev cL_commutes : ByteArray := method_24_code
def yL_commutes : MethodName := ⟨RL, "commutes", "(LOctavianDesk;III)J"⟩
abbrev cL_associates : ByteArray := method_25_code
def yL_associates : MethodName := ⟨RL, "associates", "(LOctavianDesk;IIII)J"⟩
abbrev cL_divides : ByteArray := method_26_code
def yL_divides : MethodName := ⟨RL, "divides", "(LOctavianDesk;IIII)J"⟩
abbrev cL_acts : ByteArray := method_27_code
def yL_acts : MethodName := ⟨RL, "acts", "(LOctavianDesk;[I[I[II)Z"⟩
abbrev cL_coordinateOf : ByteArray := method_28_code
def yL_coordinateOf : MethodName := ⟨RL, "coordinateOf", "(LOctavianDesk;II)I"⟩
abbrev cL_normOf : ByteArray := method_29_code
def yL_normOf : MethodName := ⟨RL, "normOf", "(LOctavianDesk;I)J"⟩
abbrev cL_dotOf : ByteArray := method_30_code
def yL_dotOf : MethodName := ⟨RL, "dotOf", "(LOctavianDesk;II)J"⟩
abbrev cL_ordersOf : ByteArray := method_31_code
def yL_ordersOf : MethodName := ⟨RL, "ordersOf", "(LOctavianDesk;I)I"⟩
abbrev cL_leftOf : ByteArray := method_32_code
def yL_leftOf : MethodName := ⟨RL, "leftOf", "(LOctavianDesk;III)I"⟩
abbrev cL_unitOf : ByteArray := method_33_code
def yL_unitOf : MethodName := ⟨RL, "unitOf", "(LOctavianDesk;I)I"⟩
abbrev cL_valueOf : ByteArray := method_34_code
def yL_valueOf : MethodName := ⟨RL, "valueOf", "(LOctavianDesk;I)I"⟩
abbrev cL_isSo : ByteArray := method_35_code
def yL_isSo : MethodName := ⟨RL, "isSo", "(LOctavianDesk;[I[I[II)Z"⟩
abbrev cL_law : ByteArray := code
def yL_law : MethodName := ⟨RL, "law", "([I)Z"⟩
