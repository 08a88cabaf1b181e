def RX0 : String := "StyleCascade$History"
def TX0 : u_T := fun k => match k with
  | 0 => ("StyleCascade$History", "ring", "[LStyleCascade$State;", true)
  | 1 => ("StyleCascade$History", "oldest", "I", false)
  | _ => ("StyleCascade$History", "size", "I", false)
def tyX0 : Nat → FieldType := fun k => match k with
  | 0 => .array (.object "StyleCascade$State")
  | 1 => .int
  | _ => .int
abbrev wsX00 : List Cond := u_ws RX0 TX0 3
theorem nmX0 : ∀ a, a < 3 → ∀ b, b < 3 → a ≠ b → (TX0 a).2.1 ≠ (TX0 b).2.1 := by decide +kernel
theorem tyX0_ok : ∀ k, k < 3 → parseFieldDescriptor (TX0 k).2.2.1 = some (tyX0 k) := by decide +kernel
abbrev cX0_init : ByteArray := prog_2_method_1_code
def yX0_init : MethodName := ⟨RX0, "<init>", "()V"⟩
abbrev cX0_size : ByteArray := prog_2_method_2_code
def yX0_size : MethodName := ⟨RX0, "size", "()I"⟩
abbrev cX0_record : ByteArray := prog_2_method_3_code
def yX0_record : MethodName := ⟨RX0, "record", "(LStyleCascade$State;)V"⟩
abbrev cX0_restore : ByteArray := prog_2_method_4_code
def yX0_restore : MethodName := ⟨RX0, "restore", "(LStyleCascade$State;)V"⟩
abbrev cX0_slot : ByteArray := prog_2_method_5_code
def yX0_slot : MethodName := ⟨RX0, "slot", "(I)LStyleCascade$State;"⟩
def RX1 : String := "StyleCascade$Outcome"
def TX1 : u_T := fun k => match k with
  | 0 => ("StyleCascade$Outcome", "isFresh", "Z", false)
  | 1 => ("StyleCascade$Outcome", "elements", "I", false)
  | 2 => ("StyleCascade$Outcome", "rules", "I", false)
  | 3 => ("StyleCascade$Outcome", "strengths", "LStyleCascade$Row;", true)
  | 4 => ("StyleCascade$Outcome", "winners", "LStyleCascade$Row;", true)
  | 5 => ("StyleCascade$Outcome", "cycles", "LStyleCascade$Row;", true)
  | 6 => ("StyleCascade$Outcome", "values", "LStyleCascade$Row;", true)
  | _ => ("StyleCascade$Outcome", "sources", "LStyleCascade$Row;", true)
def tyX1 : Nat → FieldType := fun k => match k with
  | 0 => .boolean
  | 1 => .int
  | 2 => .int
  | 3 => .object "StyleCascade$Row"
  | 4 => .object "StyleCascade$Row"
  | 5 => .object "StyleCascade$Row"
  | 6 => .object "StyleCascade$Row"
  | _ => .object "StyleCascade$Row"
abbrev wsX10 : List Cond := u_ws RX1 TX1 8
theorem nmX1 : ∀ a, a < 8 → ∀ b, b < 8 → a ≠ b → (TX1 a).2.1 ≠ (TX1 b).2.1 := by decide +kernel
theorem tyX1_ok : ∀ k, k < 8 → parseFieldDescriptor (TX1 k).2.2.1 = some (tyX1 k) := by decide +kernel
abbrev cX1_init : ByteArray := prog_3_method_1_code
def yX1_init : MethodName := ⟨RX1, "<init>", "()V"⟩
abbrev cX1_spoil : ByteArray := prog_3_method_2_code
def yX1_spoil : MethodName := ⟨RX1, "spoil", "()V"⟩
abbrev cX1_of : ByteArray := prog_3_method_3_code
def yX1_of : MethodName := ⟨RX1, "of", "(LStyleCascade$State;)LStyleCascade$Outcome;"⟩
abbrev cX1_weighRules : ByteArray := prog_3_method_4_code
def yX1_weighRules : MethodName := ⟨RX1, "weighRules", "(LStyleCascade$State;I)V"⟩
abbrev cX1_chooseWinners : ByteArray := prog_3_method_5_code
def yX1_chooseWinners : MethodName := ⟨RX1, "chooseWinners", "(LStyleCascade$Rules;I)V"⟩
abbrev cX1_strongest : ByteArray := prog_3_method_6_code
def yX1_strongest : MethodName := ⟨RX1, "strongest", "(LStyleCascade$Rules;III)I"⟩
abbrev cX1_findCycles : ByteArray := prog_3_method_7_code
def yX1_findCycles : MethodName := ⟨RX1, "findCycles", "(LStyleCascade$Rules;I)V"⟩
abbrev cX1_cycleFrom : ByteArray := prog_3_method_8_code
def yX1_cycleFrom : MethodName := ⟨RX1, "cycleFrom", "(LStyleCascade$Rules;II)I"⟩
abbrev cX1_giveValues : ByteArray := prog_3_method_9_code
def yX1_giveValues : MethodName := ⟨RX1, "giveValues", "(LStyleCascade$State;I)V"⟩
abbrev cX1_giveValue : ByteArray := prog_3_method_10_code
def yX1_giveValue : MethodName := ⟨RX1, "giveValue", "(LStyleCascade$State;II)V"⟩
abbrev cX1_given : ByteArray := prog_3_method_11_code
def yX1_given : MethodName := ⟨RX1, "given", "(LStyleCascade$Rules;II)I"⟩
abbrev cX1_isMatch : ByteArray := prog_3_method_12_code
def yX1_isMatch : MethodName := ⟨RX1, "isMatch", "(II)Z"⟩
abbrev cX1_rulesOn : ByteArray := prog_3_method_13_code
def yX1_rulesOn : MethodName := ⟨RX1, "rulesOn", "(I)I"⟩
abbrev cX1_elementsOf : ByteArray := prog_3_method_14_code
def yX1_elementsOf : MethodName := ⟨RX1, "elementsOf", "(I)I"⟩
abbrev cX1_cyclicOn : ByteArray := prog_3_method_15_code
def yX1_cyclicOn : MethodName := ⟨RX1, "cyclicOn", "(I)I"⟩
abbrev cX1_allCyclic : ByteArray := prog_3_method_16_code
def yX1_allCyclic : MethodName := ⟨RX1, "allCyclic", "()I"⟩
abbrev cX1_winnerOn : ByteArray := prog_3_method_18_code
def yX1_winnerOn : MethodName := ⟨RX1, "winnerOn", "(II)I"⟩
abbrev cX1_cycleOn : ByteArray := prog_3_method_19_code
def yX1_cycleOn : MethodName := ⟨RX1, "cycleOn", "(II)I"⟩
abbrev cX1_valueOn : ByteArray := prog_3_method_20_code
def yX1_valueOn : MethodName := ⟨RX1, "valueOn", "(II)I"⟩
abbrev cX1_sourceOn : ByteArray := prog_3_method_21_code
def yX1_sourceOn : MethodName := ⟨RX1, "sourceOn", "(II)I"⟩
abbrev cX1_strengthOn : ByteArray := prog_3_method_22_code
def yX1_strengthOn : MethodName := ⟨RX1, "strengthOn", "(II)I"⟩
abbrev cX1_cell : ByteArray := prog_3_method_23_code
def yX1_cell : MethodName := ⟨RX1, "cell", "(II)I"⟩
def RX2 : String := "StyleCascade$Row"
def TX2 : u_T := fun k => match k with
  | _ => ("StyleCascade$Row", "cells", "[I", true)
def tyX2 : Nat → FieldType := fun k => match k with
  | _ => .array .int
abbrev wsX20 : List Cond := u_ws RX2 TX2 1
theorem nmX2 : ∀ a, a < 1 → ∀ b, b < 1 → a ≠ b → (TX2 a).2.1 ≠ (TX2 b).2.1 := by decide +kernel
theorem tyX2_ok : ∀ k, k < 1 → parseFieldDescriptor (TX2 k).2.2.1 = some (tyX2 k) := by decide +kernel
abbrev cX2_init : ByteArray := prog_4_method_1_code
def yX2_init : MethodName := ⟨RX2, "<init>", "(I)V"⟩
abbrev cX2_at : ByteArray := prog_4_method_2_code
def yX2_at : MethodName := ⟨RX2, "at", "(I)I"⟩
abbrev cX2_put : ByteArray := prog_4_method_3_code
def yX2_put : MethodName := ⟨RX2, "put", "(II)V"⟩
abbrev cX2_putAll : ByteArray := prog_4_method_4_code
def yX2_putAll : MethodName := ⟨RX2, "putAll", "(III)V"⟩
abbrev cX2_copy : ByteArray := prog_4_method_5_code
def yX2_copy : MethodName := ⟨RX2, "copy", "(LStyleCascade$Row;)V"⟩
def RX3 : String := "StyleCascade$Rules"
def TX3 : u_T := fun k => match k with
  | 0 => ("StyleCascade$Rules", "size", "I", false)
  | 1 => ("StyleCascade$Rules", "parts", "LStyleCascade$Row;", true)
  | _ => ("StyleCascade$Rules", "entries", "LStyleCascade$Row;", true)
def tyX3 : Nat → FieldType := fun k => match k with
  | 0 => .int
  | 1 => .object "StyleCascade$Row"
  | _ => .object "StyleCascade$Row"
abbrev wsX30 : List Cond := u_ws RX3 TX3 3
theorem nmX3 : ∀ a, a < 3 → ∀ b, b < 3 → a ≠ b → (TX3 a).2.1 ≠ (TX3 b).2.1 := by decide +kernel
theorem tyX3_ok : ∀ k, k < 3 → parseFieldDescriptor (TX3 k).2.2.1 = some (tyX3 k) := by decide +kernel
abbrev cX3_init : ByteArray := prog_5_method_1_code
def yX3_init : MethodName := ⟨RX3, "<init>", "(I)V"⟩
abbrev cX3_size : ByteArray := prog_5_method_2_code
def yX3_size : MethodName := ⟨RX3, "size", "()I"⟩
abbrev cX3_has : ByteArray := prog_5_method_3_code
def yX3_has : MethodName := ⟨RX3, "has", "(I)Z"⟩
abbrev cX3_part : ByteArray := prog_5_method_4_code
def yX3_part : MethodName := ⟨RX3, "part", "(II)I"⟩
abbrev cX3_entry : ByteArray := prog_5_method_5_code
def yX3_entry : MethodName := ⟨RX3, "entry", "(III)I"⟩
abbrev cX3_refers : ByteArray := prog_5_method_6_code
def yX3_refers : MethodName := ⟨RX3, "refers", "(II)Z"⟩
abbrev cX3_declares : ByteArray := prog_5_method_7_code
def yX3_declares : MethodName := ⟨RX3, "declares", "(II)Z"⟩
abbrev cX3_specificity : ByteArray := prog_5_method_9_code
def yX3_specificity : MethodName := ⟨RX3, "specificity", "(I)I"⟩
abbrev cX3_declarationsOf : ByteArray := prog_5_method_10_code
def yX3_declarationsOf : MethodName := ⟨RX3, "declarationsOf", "(I)I"⟩
abbrev cX3_allDeclarations : ByteArray := prog_5_method_11_code
def yX3_allDeclarations : MethodName := ⟨RX3, "allDeclarations", "()I"⟩
abbrev cX3_allReferences : ByteArray := prog_5_method_12_code
def yX3_allReferences : MethodName := ⟨RX3, "allReferences", "()I"⟩
abbrev cX3_append : ByteArray := prog_5_method_14_code
def yX3_append : MethodName := ⟨RX3, "append", "(IIIIII)I"⟩
abbrev cX3_takeOut : ByteArray := prog_5_method_16_code
def yX3_takeOut : MethodName := ⟨RX3, "takeOut", "(I)I"⟩
abbrev cX3_setDeclaration : ByteArray := prog_5_method_17_code
def yX3_setDeclaration : MethodName := ⟨RX3, "setDeclaration", "(IIIII)V"⟩
abbrev cX3_copy : ByteArray := prog_5_method_18_code
def yX3_copy : MethodName := ⟨RX3, "copy", "(LStyleCascade$Rules;)V"⟩
def RX4 : String := "StyleCascade$State"
def TX4 : u_T := fun k => match k with
  | 0 => ("StyleCascade$State", "tree", "LStyleCascade$Tree;", true)
  | _ => ("StyleCascade$State", "rules", "LStyleCascade$Rules;", true)
def tyX4 : Nat → FieldType := fun k => match k with
  | 0 => .object "StyleCascade$Tree"
  | _ => .object "StyleCascade$Rules"
abbrev wsX40 : List Cond := u_ws RX4 TX4 2
theorem nmX4 : ∀ a, a < 2 → ∀ b, b < 2 → a ≠ b → (TX4 a).2.1 ≠ (TX4 b).2.1 := by decide +kernel
theorem tyX4_ok : ∀ k, k < 2 → parseFieldDescriptor (TX4 k).2.2.1 = some (tyX4 k) := by decide +kernel
abbrev cX4_init : ByteArray := prog_6_method_1_code
def yX4_init : MethodName := ⟨RX4, "<init>", "()V"⟩
abbrev cX4_fits : ByteArray := prog_6_method_2_code
def yX4_fits : MethodName := ⟨RX4, "fits", "(II)Z"⟩
abbrev cX4_rank : ByteArray := prog_6_method_3_code
def yX4_rank : MethodName := ⟨RX4, "rank", "(III)I"⟩
abbrev cX4_strength : ByteArray := prog_6_method_4_code
def yX4_strength : MethodName := ⟨RX4, "strength", "(II)I"⟩
abbrev cX4_copy : ByteArray := prog_6_method_6_code
def yX4_copy : MethodName := ⟨RX4, "copy", "(LStyleCascade$State;)V"⟩
def RX5 : String := "StyleCascade$Text"
def TX5 : u_T := fun k => match k with
  | 0 => ("StyleCascade$Text", "characters", "LStyleCascade$Row;", true)
  | 1 => ("StyleCascade$Text", "length", "I", false)
  | 2 => ("StyleCascade$Text", "draft", "LStyleCascade$Rules;", true)
  | 3 => ("StyleCascade$Text", "place", "I", false)
  | 4 => ("StyleCascade$Text", "formFault", "I", false)
  | _ => ("StyleCascade$Text", "rangeFault", "I", false)
def tyX5 : Nat → FieldType := fun k => match k with
  | 0 => .object "StyleCascade$Row"
  | 1 => .int
  | 2 => .object "StyleCascade$Rules"
  | 3 => .int
  | 4 => .int
  | _ => .int
abbrev wsX50 : List Cond := u_ws RX5 TX5 6
theorem nmX5 : ∀ a, a < 6 → ∀ b, b < 6 → a ≠ b → (TX5 a).2.1 ≠ (TX5 b).2.1 := by decide +kernel
theorem tyX5_ok : ∀ k, k < 6 → parseFieldDescriptor (TX5 k).2.2.1 = some (tyX5 k) := by decide +kernel
abbrev cX5_init : ByteArray := prog_7_method_1_code
def yX5_init : MethodName := ⟨RX5, "<init>", "()V"⟩
abbrev cX5_length : ByteArray := prog_7_method_2_code
def yX5_length : MethodName := ⟨RX5, "length", "()I"⟩
def RX6 : String := "StyleCascade$Tree"
def TX6 : u_T := fun k => match k with
  | 0 => ("StyleCascade$Tree", "size", "I", false)
  | 1 => ("StyleCascade$Tree", "parents", "LStyleCascade$Row;", true)
  | 2 => ("StyleCascade$Tree", "kinds", "LStyleCascade$Row;", true)
  | _ => ("StyleCascade$Tree", "classes", "LStyleCascade$Row;", true)
def tyX6 : Nat → FieldType := fun k => match k with
  | 0 => .int
  | 1 => .object "StyleCascade$Row"
  | 2 => .object "StyleCascade$Row"
  | _ => .object "StyleCascade$Row"
abbrev wsX60 : List Cond := u_ws RX6 TX6 4
theorem nmX6 : ∀ a, a < 4 → ∀ b, b < 4 → a ≠ b → (TX6 a).2.1 ≠ (TX6 b).2.1 := by decide +kernel
theorem tyX6_ok : ∀ k, k < 4 → parseFieldDescriptor (TX6 k).2.2.1 = some (tyX6 k) := by decide +kernel
abbrev cX6_init : ByteArray := prog_8_method_1_code
def yX6_init : MethodName := ⟨RX6, "<init>", "()V"⟩
abbrev cX6_size : ByteArray := prog_8_method_2_code
def yX6_size : MethodName := ⟨RX6, "size", "()I"⟩
abbrev cX6_has : ByteArray := prog_8_method_3_code
def yX6_has : MethodName := ⟨RX6, "has", "(I)Z"⟩
abbrev cX6_parentOf : ByteArray := prog_8_method_4_code
def yX6_parentOf : MethodName := ⟨RX6, "parentOf", "(I)I"⟩
abbrev cX6_kindOf : ByteArray := prog_8_method_5_code
def yX6_kindOf : MethodName := ⟨RX6, "kindOf", "(I)I"⟩
abbrev cX6_classesOf : ByteArray := prog_8_method_6_code
def yX6_classesOf : MethodName := ⟨RX6, "classesOf", "(I)I"⟩
abbrev cX6_append : ByteArray := prog_8_method_7_code
def yX6_append : MethodName := ⟨RX6, "append", "(III)I"⟩
abbrev cX6_setLook : ByteArray := prog_8_method_9_code
def yX6_setLook : MethodName := ⟨RX6, "setLook", "(III)V"⟩
abbrev cX6_stepsUp : ByteArray := prog_8_method_10_code
def yX6_stepsUp : MethodName := ⟨RX6, "stepsUp", "(II)I"⟩
abbrev cX6_hasKindAbove : ByteArray := prog_8_method_11_code
def yX6_hasKindAbove : MethodName := ⟨RX6, "hasKindAbove", "(II)Z"⟩
abbrev cX6_copy : ByteArray := prog_8_method_12_code
def yX6_copy : MethodName := ⟨RX6, "copy", "(LStyleCascade$Tree;)V"⟩
def RX7 : String := "StyleCascade"
def TX7 : u_T := fun k => match k with
  | 0 => ("StyleCascade", "now", "LStyleCascade$State;", true)
  | 1 => ("StyleCascade", "history", "LStyleCascade$History;", true)
  | 2 => ("StyleCascade", "outcome", "LStyleCascade$Outcome;", true)
  | _ => ("StyleCascade", "text", "LStyleCascade$Text;", true)
def tyX7 : Nat → FieldType := fun k => match k with
  | 0 => .object "StyleCascade$State"
  | 1 => .object "StyleCascade$History"
  | 2 => .object "StyleCascade$Outcome"
  | _ => .object "StyleCascade$Text"
abbrev wsX70 : List Cond := u_ws RX7 TX7 4
theorem nmX7 : ∀ a, a < 4 → ∀ b, b < 4 → a ≠ b → (TX7 a).2.1 ≠ (TX7 b).2.1 := by decide +kernel
theorem tyX7_ok : ∀ k, k < 4 → parseFieldDescriptor (TX7 k).2.2.1 = some (tyX7 k) := by decide +kernel
abbrev cX7_init : ByteArray := prog_1_method_1_code
def yX7_init : MethodName := ⟨RX7, "<init>", "()V"⟩
abbrev cX7_add : ByteArray := prog_1_method_2_code
def yX7_add : MethodName := ⟨RX7, "add", "(III)I"⟩
abbrev cX7_dress : ByteArray := prog_1_method_4_code
def yX7_dress : MethodName := ⟨RX7, "dress", "(III)I"⟩
abbrev cX7_element : ByteArray := prog_1_method_5_code
def yX7_element : MethodName := ⟨RX7, "element", "(II)I"⟩
abbrev cX7_count : ByteArray := prog_1_method_6_code
def yX7_count : MethodName := ⟨RX7, "count", "(I)I"⟩
abbrev cX7_undo : ByteArray := prog_1_method_7_code
def yX7_undo : MethodName := ⟨RX7, "undo", "()I"⟩
abbrev cX7_rule : ByteArray := prog_1_method_8_code
def yX7_rule : MethodName := ⟨RX7, "rule", "(IIIIII)I"⟩
abbrev cX7_drop : ByteArray := prog_1_method_9_code
def yX7_drop : MethodName := ⟨RX7, "drop", "(I)I"⟩
abbrev cX7_declare : ByteArray := prog_1_method_10_code
def yX7_declare : MethodName := ⟨RX7, "declare", "(III)I"⟩
abbrev cX7_refer : ByteArray := prog_1_method_11_code
def yX7_refer : MethodName := ⟨RX7, "refer", "(IIII)I"⟩
abbrev cX7_ruleOf : ByteArray := prog_1_method_13_code
def yX7_ruleOf : MethodName := ⟨RX7, "ruleOf", "(II)I"⟩
abbrev cX7_matches : ByteArray := prog_1_method_15_code
def yX7_matches : MethodName := ⟨RX7, "matches", "(II)I"⟩
abbrev cX7_value : ByteArray := prog_1_method_16_code
def yX7_value : MethodName := ⟨RX7, "value", "(II)I"⟩
abbrev cX7_winner : ByteArray := prog_1_method_17_code
def yX7_winner : MethodName := ⟨RX7, "winner", "(II)I"⟩
abbrev cX7_from : ByteArray := prog_1_method_19_code
def yX7_from : MethodName := ⟨RX7, "from", "(II)I"⟩
abbrev cX7_cycle : ByteArray := prog_1_method_20_code
def yX7_cycle : MethodName := ⟨RX7, "cycle", "(II)I"⟩
abbrev cX7_beginChange : ByteArray := prog_1_method_25_code
def yX7_beginChange : MethodName := ⟨RX7, "beginChange", "()V"⟩
abbrev cX7_foundOr : ByteArray := prog_1_method_26_code
def yX7_foundOr : MethodName := ⟨RX7, "foundOr", "(II)I"⟩
abbrev cX7_isWithin : ByteArray := prog_1_method_27_code
def yX7_isWithin : MethodName := ⟨RX7, "isWithin", "(III)Z"⟩
abbrev cX7_isProperty : ByteArray := prog_1_method_28_code
def yX7_isProperty : MethodName := ⟨RX7, "isProperty", "(I)Z"⟩
abbrev cX7_isCustom : ByteArray := prog_1_method_29_code
def yX7_isCustom : MethodName := ⟨RX7, "isCustom", "(I)Z"⟩
def RX8 : String := "StyleCascadeModel"
def TX8 : u_T := fun k => match k with
  | _ => ("", "", "", false)
def tyX8 : Nat → FieldType := fun k => match k with
  | _ => .int
abbrev wsX80 : List Cond := u_ws RX8 TX8 0
theorem nmX8 : ∀ a, a < 0 → ∀ b, b < 0 → a ≠ b → (TX8 a).2.1 ≠ (TX8 b).2.1 := by decide +kernel
theorem tyX8_ok : ∀ k, k < 0 → parseFieldDescriptor (TX8 k).2.2.1 = some (tyX8 k) := by decide +kernel
def RJ6 : String := "java/lang/Integer"
abbrev cJ6_bitCount_0f7a4 : ByteArray := prog_11_method_49_code
def yJ6_bitCount_0f7a4 : MethodName := ⟨RJ6, "bitCount", "(I)I"⟩
def RJ9 : String := "java/lang/Math"
abbrev cJ9_max_7cf53 : ByteArray := prog_12_method_65_code
def yJ9_max_7cf53 : MethodName := ⟨RJ9, "max", "(II)I"⟩
abbrev cJ9_min_7cf53 : ByteArray := prog_12_method_69_code
def yJ9_min_7cf53 : MethodName := ⟨RJ9, "min", "(II)I"⟩
def RJ10 : String := "java/lang/System"
def RL : String := "StyleCascadeLaw"
abbrev cL_cell : ByteArray := method_2_code
def yL_cell : MethodName := ⟨RL, "cell", "([II)I"⟩
abbrev cL_comes : ByteArray := method_3_code
def yL_comes : MethodName := ⟨RL, "comes", "(LStyleCascade;II)Z"⟩
abbrev cL_holds : ByteArray := method_4_code
def yL_holds : MethodName := ⟨RL, "holds", "(LStyleCascade;)Z"⟩
abbrev cL_wins : ByteArray := method_5_code
def yL_wins : MethodName := ⟨RL, "wins", "(LStyleCascade;I)Z"⟩
abbrev cL_law : ByteArray := code
def yL_law : MethodName := ⟨RL, "law", "([I)Z"⟩
abbrev vwCl : List vw_C := [(RX0, TX0, 3), (RX1, TX1, 8), (RX2, TX2, 1), (RX3, TX3, 3), (RX4, TX4, 2), (RX5, TX5, 6), (RX6, TX6, 4), (RX7, TX7, 4)]
set_option maxRecDepth 20000 in
theorem inX0 : ∀ w ∈ wsX00, w ∈ lw_tbl := by decide +kernel
set_option maxRecDepth 20000 in
theorem inX1 : ∀ w ∈ wsX10, w ∈ lw_tbl := by decide +kernel
set_option maxRecDepth 20000 in
theorem inX2 : ∀ w ∈ wsX20, w ∈ lw_tbl := by decide +kernel
set_option maxRecDepth 20000 in
theorem inX3 : ∀ w ∈ wsX30, w ∈ lw_tbl := by decide +kernel
set_option maxRecDepth 20000 in
theorem inX4 : ∀ w ∈ wsX40, w ∈ lw_tbl := by decide +kernel
set_option maxRecDepth 20000 in
theorem inX5 : ∀ w ∈ wsX50, w ∈ lw_tbl := by decide +kernel
set_option maxRecDepth 20000 in
theorem inX6 : ∀ w ∈ wsX60, w ∈ lw_tbl := by decide +kernel
set_option maxRecDepth 20000 in
theorem inX7 : ∀ w ∈ wsX70, w ∈ lw_tbl := by decide +kernel
