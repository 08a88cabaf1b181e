set_option maxRecDepth 100000 in
theorem inT0 : ∀ w ∈ wsX00, w ∈ ev_T := fun w hw => List.mem_filter.mpr ⟨inX0 w hw, List.all_eq_true.mp (by decide +kernel : (wsX00).all goodWord = true) w hw⟩
set_option maxRecDepth 100000 in
theorem inT1 : ∀ w ∈ wsX10, w ∈ ev_T := fun w hw => List.mem_filter.mpr ⟨inX1 w hw, List.all_eq_true.mp (by decide +kernel : (wsX10).all goodWord = true) w hw⟩
set_option maxRecDepth 100000 in
theorem inT2 : ∀ w ∈ wsX20, w ∈ ev_T := fun w hw => List.mem_filter.mpr ⟨inX2 w hw, List.all_eq_true.mp (by decide +kernel : (wsX20).all goodWord = true) w hw⟩
set_option maxRecDepth 100000 in
theorem inT3 : ∀ w ∈ wsX30, w ∈ ev_T := fun w hw => List.mem_filter.mpr ⟨inX3 w hw, List.all_eq_true.mp (by decide +kernel : (wsX30).all goodWord = true) w hw⟩
set_option maxRecDepth 100000 in
theorem inT4 : ∀ w ∈ wsX40, w ∈ ev_T := fun w hw => List.mem_filter.mpr ⟨inX4 w hw, List.all_eq_true.mp (by decide +kernel : (wsX40).all goodWord = true) w hw⟩
set_option maxRecDepth 100000 in
theorem inT5 : ∀ w ∈ wsX50, w ∈ ev_T := fun w hw => List.mem_filter.mpr ⟨inX5 w hw, List.all_eq_true.mp (by decide +kernel : (wsX50).all goodWord = true) w hw⟩
set_option maxRecDepth 100000 in
theorem inT6 : ∀ w ∈ wsX60, w ∈ ev_T := fun w hw => List.mem_filter.mpr ⟨inX6 w hw, List.all_eq_true.mp (by decide +kernel : (wsX60).all goodWord = true) w hw⟩
set_option maxRecDepth 100000 in
theorem inT7 : ∀ w ∈ wsX70, w ∈ ev_T := fun w hw => List.mem_filter.mpr ⟨inX7 w hw, List.all_eq_true.mp (by decide +kernel : (wsX70).all goodWord = true) w hw⟩
abbrev kX7_init : ev_K := (cX7_init, RX7, 1, none, true)
abbrev kX4_init : ev_K := (cX4_init, RX4, 1, none, true)
abbrev kX6_init : ev_K := (cX6_init, RX6, 1, none, true)
abbrev kX2_init : ev_K := (cX2_init, RX2, 2, none, true)
abbrev kJ9_max_7cf53 : ev_K := (cJ9_max_7cf53, RJ9, 2, (some FieldType.int), false)
abbrev kX2_put : ev_K := (cX2_put, RX2, 3, none, false)
abbrev kX3_init : ev_K := (cX3_init, RX3, 2, none, true)
abbrev kX0_init : ev_K := (cX0_init, RX0, 2, none, true)
abbrev kX1_init : ev_K := (cX1_init, RX1, 1, none, true)
abbrev kX5_init : ev_K := (cX5_init, RX5, 1, none, true)
abbrev kX7_add : ev_K := (cX7_add, RX7, 4, (some FieldType.int), false)
abbrev kX6_has : ev_K := (cX6_has, RX6, 2, (some FieldType.boolean), false)
abbrev kX7_isWithin : ev_K := (cX7_isWithin, RX7, 3, (some FieldType.boolean), false)
abbrev kX6_size : ev_K := (cX6_size, RX6, 1, (some FieldType.int), false)
abbrev kX7_beginChange : ev_K := (cX7_beginChange, RX7, 1, none, false)
abbrev kX0_record : ev_K := (cX0_record, RX0, 3, none, false)
abbrev kX0_slot : ev_K := (cX0_slot, RX0, 3, (some (FieldType.object "StyleCascade$State")), false)
abbrev kX4_copy : ev_K := (cX4_copy, RX4, 2, none, false)
abbrev kX6_copy : ev_K := (cX6_copy, RX6, 2, none, false)
abbrev kX2_copy : ev_K := (cX2_copy, RX2, 2, none, false)
abbrev kJ9_min_7cf53 : ev_K := (cJ9_min_7cf53, RJ9, 2, (some FieldType.int), false)
abbrev kX3_copy : ev_K := (cX3_copy, RX3, 2, none, false)
abbrev kX1_spoil : ev_K := (cX1_spoil, RX1, 1, none, false)
abbrev kX6_append : ev_K := (cX6_append, RX6, 5, (some FieldType.int), false)
abbrev kX6_setLook : ev_K := (cX6_setLook, RX6, 4, none, false)
abbrev kX7_dress : ev_K := (cX7_dress, RX7, 5, (some FieldType.int), false)
abbrev kX6_kindOf : ev_K := (cX6_kindOf, RX6, 2, (some FieldType.int), false)
abbrev kX2_at : ev_K := (cX2_at, RX2, 2, (some FieldType.int), false)
abbrev kX6_classesOf : ev_K := (cX6_classesOf, RX6, 2, (some FieldType.int), false)
abbrev kX7_element : ev_K := (cX7_element, RX7, 3, (some FieldType.int), false)
abbrev kX6_parentOf : ev_K := (cX6_parentOf, RX6, 2, (some FieldType.int), false)
abbrev kX6_stepsUp : ev_K := (cX6_stepsUp, RX6, 5, (some FieldType.int), false)
abbrev kX1_of : ev_K := (cX1_of, RX1, 3, (some (FieldType.object "StyleCascade$Outcome")), false)
abbrev kX3_size : ev_K := (cX3_size, RX3, 1, (some FieldType.int), false)
abbrev kX1_weighRules : ev_K := (cX1_weighRules, RX1, 4, none, false)
abbrev kX4_strength : ev_K := (cX4_strength, RX4, 5, (some FieldType.int), false)
abbrev kX4_fits : ev_K := (cX4_fits, RX4, 7, (some FieldType.boolean), false)
abbrev kX3_part : ev_K := (cX3_part, RX3, 3, (some FieldType.int), false)
abbrev kX6_hasKindAbove : ev_K := (cX6_hasKindAbove, RX6, 5, (some FieldType.boolean), false)
abbrev kX4_rank : ev_K := (cX4_rank, RX4, 7, (some FieldType.int), false)
abbrev kX3_specificity : ev_K := (cX3_specificity, RX3, 3, (some FieldType.int), false)
abbrev kJ6_bitCount_0f7a4 : ev_K := (cJ6_bitCount_0f7a4, RJ6, 1, (some FieldType.int), false)
abbrev kX1_chooseWinners : ev_K := (cX1_chooseWinners, RX1, 4, none, false)
abbrev kX1_cell : ev_K := (cX1_cell, RX1, 2, (some FieldType.int), false)
abbrev kX1_strongest : ev_K := (cX1_strongest, RX1, 9, (some FieldType.int), false)
abbrev kX3_declares : ev_K := (cX3_declares, RX3, 3, (some FieldType.boolean), false)
abbrev kX3_entry : ev_K := (cX3_entry, RX3, 4, (some FieldType.int), false)
abbrev kX1_strengthOn : ev_K := (cX1_strengthOn, RX1, 3, (some FieldType.int), false)
abbrev kX1_findCycles : ev_K := (cX1_findCycles, RX1, 4, none, false)
abbrev kX1_cycleFrom : ev_K := (cX1_cycleFrom, RX1, 7, (some FieldType.int), false)
abbrev kX1_winnerOn : ev_K := (cX1_winnerOn, RX1, 3, (some FieldType.int), false)
abbrev kX1_giveValues : ev_K := (cX1_giveValues, RX1, 5, none, false)
abbrev kX1_giveValue : ev_K := (cX1_giveValue, RX1, 9, none, false)
abbrev kX7_isCustom : ev_K := (cX7_isCustom, RX7, 1, (some FieldType.boolean), false)
abbrev kX1_cycleOn : ev_K := (cX1_cycleOn, RX1, 3, (some FieldType.int), false)
abbrev kX1_given : ev_K := (cX1_given, RX1, 7, (some FieldType.int), false)
abbrev kX1_valueOn : ev_K := (cX1_valueOn, RX1, 3, (some FieldType.int), false)
abbrev kX7_foundOr : ev_K := (cX7_foundOr, RX7, 2, (some FieldType.int), false)
abbrev kX1_sourceOn : ev_K := (cX1_sourceOn, RX1, 3, (some FieldType.int), false)
abbrev kX1_rulesOn : ev_K := (cX1_rulesOn, RX1, 4, (some FieldType.int), false)
abbrev kX1_isMatch : ev_K := (cX1_isMatch, RX1, 3, (some FieldType.boolean), false)
abbrev kX1_cyclicOn : ev_K := (cX1_cyclicOn, RX1, 4, (some FieldType.int), false)
abbrev kX7_count : ev_K := (cX7_count, RX7, 2, (some FieldType.int), false)
abbrev kX3_allDeclarations : ev_K := (cX3_allDeclarations, RX3, 3, (some FieldType.int), false)
abbrev kX3_declarationsOf : ev_K := (cX3_declarationsOf, RX3, 4, (some FieldType.int), false)
abbrev kX3_allReferences : ev_K := (cX3_allReferences, RX3, 4, (some FieldType.int), false)
abbrev kX3_refers : ev_K := (cX3_refers, RX3, 3, (some FieldType.boolean), false)
abbrev kX1_allCyclic : ev_K := (cX1_allCyclic, RX1, 3, (some FieldType.int), false)
abbrev kX0_size : ev_K := (cX0_size, RX0, 1, (some FieldType.int), false)
abbrev kX5_length : ev_K := (cX5_length, RX5, 1, (some FieldType.int), false)
abbrev kX7_rule : ev_K := (cX7_rule, RX7, 9, (some FieldType.int), false)
abbrev kX3_append : ev_K := (cX3_append, RX3, 9, (some FieldType.int), false)
abbrev kX2_putAll : ev_K := (cX2_putAll, RX2, 5, none, false)
abbrev kX7_drop : ev_K := (cX7_drop, RX7, 2, (some FieldType.int), false)
abbrev kX3_has : ev_K := (cX3_has, RX3, 2, (some FieldType.boolean), false)
abbrev kX3_takeOut : ev_K := (cX3_takeOut, RX3, 3, (some FieldType.int), false)
abbrev kX7_declare : ev_K := (cX7_declare, RX7, 4, (some FieldType.int), false)
abbrev kX7_isProperty : ev_K := (cX7_isProperty, RX7, 1, (some FieldType.boolean), false)
abbrev kX3_setDeclaration : ev_K := (cX3_setDeclaration, RX3, 7, none, false)
abbrev kX7_refer : ev_K := (cX7_refer, RX7, 5, (some FieldType.int), false)
abbrev kL_cell : ev_K := (cL_cell, RL, 2, (some FieldType.int), false)
abbrev kL_comes : ev_K := (cL_comes, RL, 7, (some FieldType.boolean), false)
abbrev kX7_from : ev_K := (cX7_from, RX7, 3, (some FieldType.int), false)
abbrev kX7_value : ev_K := (cX7_value, RX7, 3, (some FieldType.int), false)
abbrev kX7_winner : ev_K := (cX7_winner, RX7, 3, (some FieldType.int), false)
abbrev kX7_cycle : ev_K := (cX7_cycle, RX7, 3, (some FieldType.int), false)
abbrev kX7_matches : ev_K := (cX7_matches, RX7, 3, (some FieldType.int), false)
abbrev kL_holds : ev_K := (cL_holds, RL, 7, (some FieldType.boolean), false)
abbrev kX7_ruleOf : ev_K := (cX7_ruleOf, RX7, 3, (some FieldType.int), false)
abbrev kX1_elementsOf : ev_K := (cX1_elementsOf, RX1, 4, (some FieldType.int), false)
abbrev kL_wins : ev_K := (cL_wins, RL, 8, (some FieldType.boolean), false)
abbrev kX7_undo : ev_K := (cX7_undo, RX7, 1, (some FieldType.int), false)
abbrev kX0_restore : ev_K := (cX0_restore, RX0, 3, none, false)
set_option maxRecDepth 100000 in
theorem mo_X7_init : ev_MO yX7_init kX7_init 0 := ⟨ev_in 27 (by decide +kernel) (by decide +kernel), ev_in 12 (by decide +kernel) (by decide +kernel), ⟨by decide +kernel, by decide +kernel, by decide +kernel⟩, by decide +kernel⟩
set_option maxRecDepth 100000 in
theorem mo_X4_init : ev_MO yX4_init kX4_init 0 := ⟨ev_in 35 (by decide +kernel) (by decide +kernel), ev_in 13 (by decide +kernel) (by decide +kernel), ⟨by decide +kernel, by decide +kernel, by decide +kernel⟩, by decide +kernel⟩
set_option maxRecDepth 100000 in
theorem mo_X6_init : ev_MO yX6_init kX6_init 0 := ⟨ev_in 41 (by decide +kernel) (by decide +kernel), ev_in 14 (by decide +kernel) (by decide +kernel), ⟨by decide +kernel, by decide +kernel, by decide +kernel⟩, by decide +kernel⟩
set_option maxRecDepth 100000 in
theorem mo_X2_init : ev_MO yX2_init kX2_init 1 := ⟨ev_in 47 (by decide +kernel) (by decide +kernel), ev_in 15 (by decide +kernel) (by decide +kernel), ⟨by decide +kernel, by decide +kernel, by decide +kernel⟩, by decide +kernel⟩
set_option maxRecDepth 100000 in
theorem mo_J9_max_7cf53 : ev_MO yJ9_max_7cf53 kJ9_max_7cf53 2 := ⟨ev_in 51 (by decide +kernel) (by decide +kernel), ev_in 16 (by decide +kernel) (by decide +kernel), ⟨by decide +kernel, by decide +kernel, by decide +kernel⟩, by decide +kernel⟩
set_option maxRecDepth 100000 in
theorem mo_X2_put : ev_MO yX2_put kX2_put 2 := ⟨ev_in 60 (by decide +kernel) (by decide +kernel), ev_in 15 (by decide +kernel) (by decide +kernel), ⟨by decide +kernel, by decide +kernel, by decide +kernel⟩, by decide +kernel⟩
set_option maxRecDepth 100000 in
theorem mo_X3_init : ev_MO yX3_init kX3_init 1 := ⟨ev_in 78 (by decide +kernel) (by decide +kernel), ev_in 17 (by decide +kernel) (by decide +kernel), ⟨by decide +kernel, by decide +kernel, by decide +kernel⟩, by decide +kernel⟩
set_option maxRecDepth 100000 in
theorem mo_X0_init : ev_MO yX0_init kX0_init 0 := ⟨ev_in 107 (by decide +kernel) (by decide +kernel), ev_in 18 (by decide +kernel) (by decide +kernel), ⟨by decide +kernel, by decide +kernel, by decide +kernel⟩, by decide +kernel⟩
set_option maxRecDepth 100000 in
theorem mo_X1_init : ev_MO yX1_init kX1_init 0 := ⟨ev_in 126 (by decide +kernel) (by decide +kernel), ev_in 19 (by decide +kernel) (by decide +kernel), ⟨by decide +kernel, by decide +kernel, by decide +kernel⟩, by decide +kernel⟩
set_option maxRecDepth 100000 in
theorem mo_X5_init : ev_MO yX5_init kX5_init 0 := ⟨ev_in 159 (by decide +kernel) (by decide +kernel), ev_in 20 (by decide +kernel) (by decide +kernel), ⟨by decide +kernel, by decide +kernel, by decide +kernel⟩, by decide +kernel⟩
set_option maxRecDepth 100000 in
theorem mo_X7_add : ev_MO yX7_add kX7_add 3 := ⟨ev_in 197 (by decide +kernel) (by decide +kernel), ev_in 12 (by decide +kernel) (by decide +kernel), ⟨by decide +kernel, by decide +kernel, by decide +kernel⟩, by decide +kernel⟩
set_option maxRecDepth 100000 in
theorem mo_X6_has : ev_MO yX6_has kX6_has 1 := ⟨ev_in 201 (by decide +kernel) (by decide +kernel), ev_in 14 (by decide +kernel) (by decide +kernel), ⟨by decide +kernel, by decide +kernel, by decide +kernel⟩, by decide +kernel⟩
set_option maxRecDepth 100000 in
theorem mo_X7_isWithin : ev_MO yX7_isWithin kX7_isWithin 3 := ⟨ev_in 204 (by decide +kernel) (by decide +kernel), ev_in 12 (by decide +kernel) (by decide +kernel), ⟨by decide +kernel, by decide +kernel, by decide +kernel⟩, by decide +kernel⟩
set_option maxRecDepth 100000 in
theorem mo_X6_size : ev_MO yX6_size kX6_size 0 := ⟨ev_in 209 (by decide +kernel) (by decide +kernel), ev_in 14 (by decide +kernel) (by decide +kernel), ⟨by decide +kernel, by decide +kernel, by decide +kernel⟩, by decide +kernel⟩
set_option maxRecDepth 100000 in
theorem mo_X7_beginChange : ev_MO yX7_beginChange kX7_beginChange 0 := ⟨ev_in 213 (by decide +kernel) (by decide +kernel), ev_in 12 (by decide +kernel) (by decide +kernel), ⟨by decide +kernel, by decide +kernel, by decide +kernel⟩, by decide +kernel⟩
set_option maxRecDepth 100000 in
theorem mo_X0_record : ev_MO yX0_record kX0_record 1 := ⟨ev_in 217 (by decide +kernel) (by decide +kernel), ev_in 18 (by decide +kernel) (by decide +kernel), ⟨by decide +kernel, by decide +kernel, by decide +kernel⟩, by decide +kernel⟩
set_option maxRecDepth 100000 in
theorem mo_X0_slot : ev_MO yX0_slot kX0_slot 1 := ⟨ev_in 221 (by decide +kernel) (by decide +kernel), ev_in 18 (by decide +kernel) (by decide +kernel), ⟨by decide +kernel, by decide +kernel, by decide +kernel⟩, by decide +kernel⟩
set_option maxRecDepth 100000 in
theorem mo_X4_copy : ev_MO yX4_copy kX4_copy 1 := ⟨ev_in 225 (by decide +kernel) (by decide +kernel), ev_in 13 (by decide +kernel) (by decide +kernel), ⟨by decide +kernel, by decide +kernel, by decide +kernel⟩, by decide +kernel⟩
set_option maxRecDepth 100000 in
theorem mo_X6_copy : ev_MO yX6_copy kX6_copy 1 := ⟨ev_in 229 (by decide +kernel) (by decide +kernel), ev_in 14 (by decide +kernel) (by decide +kernel), ⟨by decide +kernel, by decide +kernel, by decide +kernel⟩, by decide +kernel⟩
set_option maxRecDepth 100000 in
theorem mo_X2_copy : ev_MO yX2_copy kX2_copy 1 := ⟨ev_in 233 (by decide +kernel) (by decide +kernel), ev_in 15 (by decide +kernel) (by decide +kernel), ⟨by decide +kernel, by decide +kernel, by decide +kernel⟩, by decide +kernel⟩
set_option maxRecDepth 100000 in
theorem mo_J9_min_7cf53 : ev_MO yJ9_min_7cf53 kJ9_min_7cf53 2 := ⟨ev_in 236 (by decide +kernel) (by decide +kernel), ev_in 16 (by decide +kernel) (by decide +kernel), ⟨by decide +kernel, by decide +kernel, by decide +kernel⟩, by decide +kernel⟩
set_option maxRecDepth 100000 in
theorem mo_X3_copy : ev_MO yX3_copy kX3_copy 1 := ⟨ev_in 243 (by decide +kernel) (by decide +kernel), ev_in 17 (by decide +kernel) (by decide +kernel), ⟨by decide +kernel, by decide +kernel, by decide +kernel⟩, by decide +kernel⟩
set_option maxRecDepth 100000 in
theorem mo_X1_spoil : ev_MO yX1_spoil kX1_spoil 0 := ⟨ev_in 248 (by decide +kernel) (by decide +kernel), ev_in 19 (by decide +kernel) (by decide +kernel), ⟨by decide +kernel, by decide +kernel, by decide +kernel⟩, by decide +kernel⟩
set_option maxRecDepth 100000 in
theorem mo_X6_append : ev_MO yX6_append kX6_append 3 := ⟨ev_in 252 (by decide +kernel) (by decide +kernel), ev_in 14 (by decide +kernel) (by decide +kernel), ⟨by decide +kernel, by decide +kernel, by decide +kernel⟩, by decide +kernel⟩
set_option maxRecDepth 100000 in
theorem mo_X6_setLook : ev_MO yX6_setLook kX6_setLook 3 := ⟨ev_in 256 (by decide +kernel) (by decide +kernel), ev_in 14 (by decide +kernel) (by decide +kernel), ⟨by decide +kernel, by decide +kernel, by decide +kernel⟩, by decide +kernel⟩
set_option maxRecDepth 100000 in
theorem mo_X7_dress : ev_MO yX7_dress kX7_dress 3 := ⟨ev_in 260 (by decide +kernel) (by decide +kernel), ev_in 12 (by decide +kernel) (by decide +kernel), ⟨by decide +kernel, by decide +kernel, by decide +kernel⟩, by decide +kernel⟩
set_option maxRecDepth 100000 in
theorem mo_X6_kindOf : ev_MO yX6_kindOf kX6_kindOf 1 := ⟨ev_in 264 (by decide +kernel) (by decide +kernel), ev_in 14 (by decide +kernel) (by decide +kernel), ⟨by decide +kernel, by decide +kernel, by decide +kernel⟩, by decide +kernel⟩
set_option maxRecDepth 100000 in
theorem mo_X2_at : ev_MO yX2_at kX2_at 1 := ⟨ev_in 268 (by decide +kernel) (by decide +kernel), ev_in 15 (by decide +kernel) (by decide +kernel), ⟨by decide +kernel, by decide +kernel, by decide +kernel⟩, by decide +kernel⟩
set_option maxRecDepth 100000 in
theorem mo_X6_classesOf : ev_MO yX6_classesOf kX6_classesOf 1 := ⟨ev_in 272 (by decide +kernel) (by decide +kernel), ev_in 14 (by decide +kernel) (by decide +kernel), ⟨by decide +kernel, by decide +kernel, by decide +kernel⟩, by decide +kernel⟩
set_option maxRecDepth 100000 in
theorem mo_X7_element : ev_MO yX7_element kX7_element 2 := ⟨ev_in 277 (by decide +kernel) (by decide +kernel), ev_in 12 (by decide +kernel) (by decide +kernel), ⟨by decide +kernel, by decide +kernel, by decide +kernel⟩, by decide +kernel⟩
set_option maxRecDepth 100000 in
theorem mo_X6_parentOf : ev_MO yX6_parentOf kX6_parentOf 1 := ⟨ev_in 281 (by decide +kernel) (by decide +kernel), ev_in 14 (by decide +kernel) (by decide +kernel), ⟨by decide +kernel, by decide +kernel, by decide +kernel⟩, by decide +kernel⟩
set_option maxRecDepth 100000 in
theorem mo_X6_stepsUp : ev_MO yX6_stepsUp kX6_stepsUp 2 := ⟨ev_in 285 (by decide +kernel) (by decide +kernel), ev_in 14 (by decide +kernel) (by decide +kernel), ⟨by decide +kernel, by decide +kernel, by decide +kernel⟩, by decide +kernel⟩
set_option maxRecDepth 100000 in
theorem mo_X1_of : ev_MO yX1_of kX1_of 1 := ⟨ev_in 289 (by decide +kernel) (by decide +kernel), ev_in 19 (by decide +kernel) (by decide +kernel), ⟨by decide +kernel, by decide +kernel, by decide +kernel⟩, by decide +kernel⟩
set_option maxRecDepth 100000 in
theorem mo_X3_size : ev_MO yX3_size kX3_size 0 := ⟨ev_in 294 (by decide +kernel) (by decide +kernel), ev_in 17 (by decide +kernel) (by decide +kernel), ⟨by decide +kernel, by decide +kernel, by decide +kernel⟩, by decide +kernel⟩
set_option maxRecDepth 100000 in
theorem mo_X1_weighRules : ev_MO yX1_weighRules kX1_weighRules 2 := ⟨ev_in 298 (by decide +kernel) (by decide +kernel), ev_in 19 (by decide +kernel) (by decide +kernel), ⟨by decide +kernel, by decide +kernel, by decide +kernel⟩, by decide +kernel⟩
set_option maxRecDepth 100000 in
theorem mo_X4_strength : ev_MO yX4_strength kX4_strength 2 := ⟨ev_in 302 (by decide +kernel) (by decide +kernel), ev_in 13 (by decide +kernel) (by decide +kernel), ⟨by decide +kernel, by decide +kernel, by decide +kernel⟩, by decide +kernel⟩
set_option maxRecDepth 100000 in
theorem mo_X4_fits : ev_MO yX4_fits kX4_fits 2 := ⟨ev_in 306 (by decide +kernel) (by decide +kernel), ev_in 13 (by decide +kernel) (by decide +kernel), ⟨by decide +kernel, by decide +kernel, by decide +kernel⟩, by decide +kernel⟩
set_option maxRecDepth 100000 in
theorem mo_X3_part : ev_MO yX3_part kX3_part 2 := ⟨ev_in 310 (by decide +kernel) (by decide +kernel), ev_in 17 (by decide +kernel) (by decide +kernel), ⟨by decide +kernel, by decide +kernel, by decide +kernel⟩, by decide +kernel⟩
set_option maxRecDepth 100000 in
theorem mo_X6_hasKindAbove : ev_MO yX6_hasKindAbove kX6_hasKindAbove 2 := ⟨ev_in 317 (by decide +kernel) (by decide +kernel), ev_in 14 (by decide +kernel) (by decide +kernel), ⟨by decide +kernel, by decide +kernel, by decide +kernel⟩, by decide +kernel⟩
set_option maxRecDepth 100000 in
theorem mo_X4_rank : ev_MO yX4_rank kX4_rank 3 := ⟨ev_in 322 (by decide +kernel) (by decide +kernel), ev_in 13 (by decide +kernel) (by decide +kernel), ⟨by decide +kernel, by decide +kernel, by decide +kernel⟩, by decide +kernel⟩
set_option maxRecDepth 100000 in
theorem mo_X3_specificity : ev_MO yX3_specificity kX3_specificity 1 := ⟨ev_in 326 (by decide +kernel) (by decide +kernel), ev_in 17 (by decide +kernel) (by decide +kernel), ⟨by decide +kernel, by decide +kernel, by decide +kernel⟩, by decide +kernel⟩
set_option maxRecDepth 100000 in
theorem mo_J6_bitCount_0f7a4 : ev_MO yJ6_bitCount_0f7a4 kJ6_bitCount_0f7a4 1 := ⟨ev_in 329 (by decide +kernel) (by decide +kernel), ev_in 21 (by decide +kernel) (by decide +kernel), ⟨by decide +kernel, by decide +kernel, by decide +kernel⟩, by decide +kernel⟩
set_option maxRecDepth 100000 in
theorem mo_X1_chooseWinners : ev_MO yX1_chooseWinners kX1_chooseWinners 2 := ⟨ev_in 337 (by decide +kernel) (by decide +kernel), ev_in 19 (by decide +kernel) (by decide +kernel), ⟨by decide +kernel, by decide +kernel, by decide +kernel⟩, by decide +kernel⟩
set_option maxRecDepth 100000 in
theorem mo_X1_cell : ev_MO yX1_cell kX1_cell 2 := ⟨ev_in 340 (by decide +kernel) (by decide +kernel), ev_in 19 (by decide +kernel) (by decide +kernel), ⟨by decide +kernel, by decide +kernel, by decide +kernel⟩, by decide +kernel⟩
set_option maxRecDepth 100000 in
theorem mo_X1_strongest : ev_MO yX1_strongest kX1_strongest 4 := ⟨ev_in 345 (by decide +kernel) (by decide +kernel), ev_in 19 (by decide +kernel) (by decide +kernel), ⟨by decide +kernel, by decide +kernel, by decide +kernel⟩, by decide +kernel⟩
set_option maxRecDepth 100000 in
theorem mo_X3_declares : ev_MO yX3_declares kX3_declares 2 := ⟨ev_in 349 (by decide +kernel) (by decide +kernel), ev_in 17 (by decide +kernel) (by decide +kernel), ⟨by decide +kernel, by decide +kernel, by decide +kernel⟩, by decide +kernel⟩
set_option maxRecDepth 100000 in
theorem mo_X3_entry : ev_MO yX3_entry kX3_entry 3 := ⟨ev_in 353 (by decide +kernel) (by decide +kernel), ev_in 17 (by decide +kernel) (by decide +kernel), ⟨by decide +kernel, by decide +kernel, by decide +kernel⟩, by decide +kernel⟩
set_option maxRecDepth 100000 in
theorem mo_X1_strengthOn : ev_MO yX1_strengthOn kX1_strengthOn 2 := ⟨ev_in 357 (by decide +kernel) (by decide +kernel), ev_in 19 (by decide +kernel) (by decide +kernel), ⟨by decide +kernel, by decide +kernel, by decide +kernel⟩, by decide +kernel⟩
set_option maxRecDepth 100000 in
theorem mo_X1_findCycles : ev_MO yX1_findCycles kX1_findCycles 2 := ⟨ev_in 362 (by decide +kernel) (by decide +kernel), ev_in 19 (by decide +kernel) (by decide +kernel), ⟨by decide +kernel, by decide +kernel, by decide +kernel⟩, by decide +kernel⟩
set_option maxRecDepth 100000 in
theorem mo_X1_cycleFrom : ev_MO yX1_cycleFrom kX1_cycleFrom 3 := ⟨ev_in 366 (by decide +kernel) (by decide +kernel), ev_in 19 (by decide +kernel) (by decide +kernel), ⟨by decide +kernel, by decide +kernel, by decide +kernel⟩, by decide +kernel⟩
set_option maxRecDepth 100000 in
theorem mo_X1_winnerOn : ev_MO yX1_winnerOn kX1_winnerOn 2 := ⟨ev_in 370 (by decide +kernel) (by decide +kernel), ev_in 19 (by decide +kernel) (by decide +kernel), ⟨by decide +kernel, by decide +kernel, by decide +kernel⟩, by decide +kernel⟩
set_option maxRecDepth 100000 in
theorem mo_X1_giveValues : ev_MO yX1_giveValues kX1_giveValues 2 := ⟨ev_in 375 (by decide +kernel) (by decide +kernel), ev_in 19 (by decide +kernel) (by decide +kernel), ⟨by decide +kernel, by decide +kernel, by decide +kernel⟩, by decide +kernel⟩
set_option maxRecDepth 100000 in
theorem mo_X1_giveValue : ev_MO yX1_giveValue kX1_giveValue 3 := ⟨ev_in 379 (by decide +kernel) (by decide +kernel), ev_in 19 (by decide +kernel) (by decide +kernel), ⟨by decide +kernel, by decide +kernel, by decide +kernel⟩, by decide +kernel⟩
set_option maxRecDepth 100000 in
theorem mo_X7_isCustom : ev_MO yX7_isCustom kX7_isCustom 1 := ⟨ev_in 382 (by decide +kernel) (by decide +kernel), ev_in 12 (by decide +kernel) (by decide +kernel), ⟨by decide +kernel, by decide +kernel, by decide +kernel⟩, by decide +kernel⟩
set_option maxRecDepth 100000 in
theorem mo_X1_cycleOn : ev_MO yX1_cycleOn kX1_cycleOn 2 := ⟨ev_in 386 (by decide +kernel) (by decide +kernel), ev_in 19 (by decide +kernel) (by decide +kernel), ⟨by decide +kernel, by decide +kernel, by decide +kernel⟩, by decide +kernel⟩
set_option maxRecDepth 100000 in
theorem mo_X1_given : ev_MO yX1_given kX1_given 3 := ⟨ev_in 390 (by decide +kernel) (by decide +kernel), ev_in 19 (by decide +kernel) (by decide +kernel), ⟨by decide +kernel, by decide +kernel, by decide +kernel⟩, by decide +kernel⟩
set_option maxRecDepth 100000 in
theorem mo_X1_valueOn : ev_MO yX1_valueOn kX1_valueOn 2 := ⟨ev_in 394 (by decide +kernel) (by decide +kernel), ev_in 19 (by decide +kernel) (by decide +kernel), ⟨by decide +kernel, by decide +kernel, by decide +kernel⟩, by decide +kernel⟩
set_option maxRecDepth 100000 in
theorem mo_X7_foundOr : ev_MO yX7_foundOr kX7_foundOr 2 := ⟨ev_in 397 (by decide +kernel) (by decide +kernel), ev_in 12 (by decide +kernel) (by decide +kernel), ⟨by decide +kernel, by decide +kernel, by decide +kernel⟩, by decide +kernel⟩
set_option maxRecDepth 100000 in
theorem mo_X1_sourceOn : ev_MO yX1_sourceOn kX1_sourceOn 2 := ⟨ev_in 402 (by decide +kernel) (by decide +kernel), ev_in 19 (by decide +kernel) (by decide +kernel), ⟨by decide +kernel, by decide +kernel, by decide +kernel⟩, by decide +kernel⟩
set_option maxRecDepth 100000 in
theorem mo_X1_rulesOn : ev_MO yX1_rulesOn kX1_rulesOn 1 := ⟨ev_in 406 (by decide +kernel) (by decide +kernel), ev_in 19 (by decide +kernel) (by decide +kernel), ⟨by decide +kernel, by decide +kernel, by decide +kernel⟩, by decide +kernel⟩
set_option maxRecDepth 100000 in
theorem mo_X1_isMatch : ev_MO yX1_isMatch kX1_isMatch 2 := ⟨ev_in 410 (by decide +kernel) (by decide +kernel), ev_in 19 (by decide +kernel) (by decide +kernel), ⟨by decide +kernel, by decide +kernel, by decide +kernel⟩, by decide +kernel⟩
set_option maxRecDepth 100000 in
theorem mo_X1_cyclicOn : ev_MO yX1_cyclicOn kX1_cyclicOn 1 := ⟨ev_in 414 (by decide +kernel) (by decide +kernel), ev_in 19 (by decide +kernel) (by decide +kernel), ⟨by decide +kernel, by decide +kernel, by decide +kernel⟩, by decide +kernel⟩
set_option maxRecDepth 100000 in
theorem mo_X7_count : ev_MO yX7_count kX7_count 1 := ⟨ev_in 418 (by decide +kernel) (by decide +kernel), ev_in 12 (by decide +kernel) (by decide +kernel), ⟨by decide +kernel, by decide +kernel, by decide +kernel⟩, by decide +kernel⟩
set_option maxRecDepth 100000 in
theorem mo_X3_allDeclarations : ev_MO yX3_allDeclarations kX3_allDeclarations 0 := ⟨ev_in 423 (by decide +kernel) (by decide +kernel), ev_in 17 (by decide +kernel) (by decide +kernel), ⟨by decide +kernel, by decide +kernel, by decide +kernel⟩, by decide +kernel⟩
set_option maxRecDepth 100000 in
theorem mo_X3_declarationsOf : ev_MO yX3_declarationsOf kX3_declarationsOf 1 := ⟨ev_in 427 (by decide +kernel) (by decide +kernel), ev_in 17 (by decide +kernel) (by decide +kernel), ⟨by decide +kernel, by decide +kernel, by decide +kernel⟩, by decide +kernel⟩
set_option maxRecDepth 100000 in
theorem mo_X3_allReferences : ev_MO yX3_allReferences kX3_allReferences 0 := ⟨ev_in 432 (by decide +kernel) (by decide +kernel), ev_in 17 (by decide +kernel) (by decide +kernel), ⟨by decide +kernel, by decide +kernel, by decide +kernel⟩, by decide +kernel⟩
set_option maxRecDepth 100000 in
theorem mo_X3_refers : ev_MO yX3_refers kX3_refers 2 := ⟨ev_in 436 (by decide +kernel) (by decide +kernel), ev_in 17 (by decide +kernel) (by decide +kernel), ⟨by decide +kernel, by decide +kernel, by decide +kernel⟩, by decide +kernel⟩
set_option maxRecDepth 100000 in
theorem mo_X1_allCyclic : ev_MO yX1_allCyclic kX1_allCyclic 0 := ⟨ev_in 440 (by decide +kernel) (by decide +kernel), ev_in 19 (by decide +kernel) (by decide +kernel), ⟨by decide +kernel, by decide +kernel, by decide +kernel⟩, by decide +kernel⟩
set_option maxRecDepth 100000 in
theorem mo_X0_size : ev_MO yX0_size kX0_size 0 := ⟨ev_in 445 (by decide +kernel) (by decide +kernel), ev_in 18 (by decide +kernel) (by decide +kernel), ⟨by decide +kernel, by decide +kernel, by decide +kernel⟩, by decide +kernel⟩
set_option maxRecDepth 100000 in
theorem mo_X5_length : ev_MO yX5_length kX5_length 0 := ⟨ev_in 449 (by decide +kernel) (by decide +kernel), ev_in 20 (by decide +kernel) (by decide +kernel), ⟨by decide +kernel, by decide +kernel, by decide +kernel⟩, by decide +kernel⟩
set_option maxRecDepth 100000 in
theorem mo_X7_rule : ev_MO yX7_rule kX7_rule 6 := ⟨ev_in 453 (by decide +kernel) (by decide +kernel), ev_in 12 (by decide +kernel) (by decide +kernel), ⟨by decide +kernel, by decide +kernel, by decide +kernel⟩, by decide +kernel⟩
set_option maxRecDepth 100000 in
theorem mo_X3_append : ev_MO yX3_append kX3_append 6 := ⟨ev_in 457 (by decide +kernel) (by decide +kernel), ev_in 17 (by decide +kernel) (by decide +kernel), ⟨by decide +kernel, by decide +kernel, by decide +kernel⟩, by decide +kernel⟩
set_option maxRecDepth 100000 in
theorem mo_X2_putAll : ev_MO yX2_putAll kX2_putAll 3 := ⟨ev_in 462 (by decide +kernel) (by decide +kernel), ev_in 15 (by decide +kernel) (by decide +kernel), ⟨by decide +kernel, by decide +kernel, by decide +kernel⟩, by decide +kernel⟩
set_option maxRecDepth 100000 in
theorem mo_X7_drop : ev_MO yX7_drop kX7_drop 1 := ⟨ev_in 467 (by decide +kernel) (by decide +kernel), ev_in 12 (by decide +kernel) (by decide +kernel), ⟨by decide +kernel, by decide +kernel, by decide +kernel⟩, by decide +kernel⟩
set_option maxRecDepth 100000 in
theorem mo_X3_has : ev_MO yX3_has kX3_has 1 := ⟨ev_in 471 (by decide +kernel) (by decide +kernel), ev_in 17 (by decide +kernel) (by decide +kernel), ⟨by decide +kernel, by decide +kernel, by decide +kernel⟩, by decide +kernel⟩
set_option maxRecDepth 100000 in
theorem mo_X3_takeOut : ev_MO yX3_takeOut kX3_takeOut 1 := ⟨ev_in 476 (by decide +kernel) (by decide +kernel), ev_in 17 (by decide +kernel) (by decide +kernel), ⟨by decide +kernel, by decide +kernel, by decide +kernel⟩, by decide +kernel⟩
set_option maxRecDepth 100000 in
theorem mo_X7_declare : ev_MO yX7_declare kX7_declare 3 := ⟨ev_in 480 (by decide +kernel) (by decide +kernel), ev_in 12 (by decide +kernel) (by decide +kernel), ⟨by decide +kernel, by decide +kernel, by decide +kernel⟩, by decide +kernel⟩
set_option maxRecDepth 100000 in
theorem mo_X7_isProperty : ev_MO yX7_isProperty kX7_isProperty 1 := ⟨ev_in 483 (by decide +kernel) (by decide +kernel), ev_in 12 (by decide +kernel) (by decide +kernel), ⟨by decide +kernel, by decide +kernel, by decide +kernel⟩, by decide +kernel⟩
set_option maxRecDepth 100000 in
theorem mo_X3_setDeclaration : ev_MO yX3_setDeclaration kX3_setDeclaration 5 := ⟨ev_in 487 (by decide +kernel) (by decide +kernel), ev_in 17 (by decide +kernel) (by decide +kernel), ⟨by decide +kernel, by decide +kernel, by decide +kernel⟩, by decide +kernel⟩
set_option maxRecDepth 100000 in
theorem mo_X7_refer : ev_MO yX7_refer kX7_refer 4 := ⟨ev_in 492 (by decide +kernel) (by decide +kernel), ev_in 12 (by decide +kernel) (by decide +kernel), ⟨by decide +kernel, by decide +kernel, by decide +kernel⟩, by decide +kernel⟩
set_option maxRecDepth 100000 in
theorem mo_L_cell : ev_MO yL_cell kL_cell 2 := ⟨ev_in 496 (by decide +kernel) (by decide +kernel), ev_in 11 (by decide +kernel) (by decide +kernel), ⟨by decide +kernel, by decide +kernel, by decide +kernel⟩, by decide +kernel⟩
set_option maxRecDepth 100000 in
theorem mo_L_comes : ev_MO yL_comes kL_comes 3 := ⟨ev_in 501 (by decide +kernel) (by decide +kernel), ev_in 11 (by decide +kernel) (by decide +kernel), ⟨by decide +kernel, by decide +kernel, by decide +kernel⟩, by decide +kernel⟩
set_option maxRecDepth 100000 in
theorem mo_X7_from : ev_MO yX7_from kX7_from 2 := ⟨ev_in 505 (by decide +kernel) (by decide +kernel), ev_in 12 (by decide +kernel) (by decide +kernel), ⟨by decide +kernel, by decide +kernel, by decide +kernel⟩, by decide +kernel⟩
set_option maxRecDepth 100000 in
theorem mo_X7_value : ev_MO yX7_value kX7_value 2 := ⟨ev_in 511 (by decide +kernel) (by decide +kernel), ev_in 12 (by decide +kernel) (by decide +kernel), ⟨by decide +kernel, by decide +kernel, by decide +kernel⟩, by decide +kernel⟩
set_option maxRecDepth 100000 in
theorem mo_X7_winner : ev_MO yX7_winner kX7_winner 2 := ⟨ev_in 516 (by decide +kernel) (by decide +kernel), ev_in 12 (by decide +kernel) (by decide +kernel), ⟨by decide +kernel, by decide +kernel, by decide +kernel⟩, by decide +kernel⟩
set_option maxRecDepth 100000 in
theorem mo_X7_cycle : ev_MO yX7_cycle kX7_cycle 2 := ⟨ev_in 521 (by decide +kernel) (by decide +kernel), ev_in 12 (by decide +kernel) (by decide +kernel), ⟨by decide +kernel, by decide +kernel, by decide +kernel⟩, by decide +kernel⟩
set_option maxRecDepth 100000 in
theorem mo_X7_matches : ev_MO yX7_matches kX7_matches 2 := ⟨ev_in 526 (by decide +kernel) (by decide +kernel), ev_in 12 (by decide +kernel) (by decide +kernel), ⟨by decide +kernel, by decide +kernel, by decide +kernel⟩, by decide +kernel⟩
set_option maxRecDepth 100000 in
theorem mo_L_holds : ev_MO yL_holds kL_holds 1 := ⟨ev_in 530 (by decide +kernel) (by decide +kernel), ev_in 11 (by decide +kernel) (by decide +kernel), ⟨by decide +kernel, by decide +kernel, by decide +kernel⟩, by decide +kernel⟩
set_option maxRecDepth 100000 in
theorem mo_X7_ruleOf : ev_MO yX7_ruleOf kX7_ruleOf 2 := ⟨ev_in 534 (by decide +kernel) (by decide +kernel), ev_in 12 (by decide +kernel) (by decide +kernel), ⟨by decide +kernel, by decide +kernel, by decide +kernel⟩, by decide +kernel⟩
set_option maxRecDepth 100000 in
theorem mo_X1_elementsOf : ev_MO yX1_elementsOf kX1_elementsOf 1 := ⟨ev_in 540 (by decide +kernel) (by decide +kernel), ev_in 19 (by decide +kernel) (by decide +kernel), ⟨by decide +kernel, by decide +kernel, by decide +kernel⟩, by decide +kernel⟩
set_option maxRecDepth 100000 in
theorem mo_L_wins : ev_MO yL_wins kL_wins 2 := ⟨ev_in 543 (by decide +kernel) (by decide +kernel), ev_in 11 (by decide +kernel) (by decide +kernel), ⟨by decide +kernel, by decide +kernel, by decide +kernel⟩, by decide +kernel⟩
set_option maxRecDepth 100000 in
theorem mo_X7_undo : ev_MO yX7_undo kX7_undo 0 := ⟨ev_in 547 (by decide +kernel) (by decide +kernel), ev_in 12 (by decide +kernel) (by decide +kernel), ⟨by decide +kernel, by decide +kernel, by decide +kernel⟩, by decide +kernel⟩
set_option maxRecDepth 100000 in
theorem mo_X0_restore : ev_MO yX0_restore kX0_restore 1 := ⟨ev_in 551 (by decide +kernel) (by decide +kernel), ev_in 18 (by decide +kernel) (by decide +kernel), ⟨by decide +kernel, by decide +kernel, by decide +kernel⟩, by decide +kernel⟩
set_option maxRecDepth 100000 in
theorem fl_RX2_15 : ev_FL RX2 15 2 0 (tyX2 0) true := ⟨RX2, TX2, 1, tyX2, rfl, inT2, tyX2_ok, nmX2, by decide, tyX2_ok 0 (by decide), rfl, Or.inl (ev_in 52 (by decide +kernel) (by decide +kernel))⟩
set_option maxRecDepth 100000 in
theorem pf_RX2_15 : ev_PF RX2 15 2 0 := ⟨RX2, TX2, 1, rfl, rfl, ev_in 52 (by decide +kernel) (by decide +kernel)⟩
set_option maxRecDepth 100000 in
theorem fl_RX6_30 : ev_FL RX6 30 6 0 (tyX6 0) false := ⟨RX6, TX6, 4, tyX6, rfl, inT6, tyX6_ok, nmX6, by decide, tyX6_ok 0 (by decide), rfl, Or.inl (ev_in 61 (by decide +kernel) (by decide +kernel))⟩
set_option maxRecDepth 100000 in
theorem fl_RX6_14 : ev_FL RX6 14 6 1 (tyX6 1) true := ⟨RX6, TX6, 4, tyX6, rfl, inT6, tyX6_ok, nmX6, by decide, tyX6_ok 1 (by decide), rfl, Or.inl (ev_in 62 (by decide +kernel) (by decide +kernel))⟩
set_option maxRecDepth 100000 in
theorem pf_RX6_14 : ev_PF RX6 14 6 1 := ⟨RX6, TX6, 4, rfl, rfl, ev_in 62 (by decide +kernel) (by decide +kernel)⟩
set_option maxRecDepth 100000 in
theorem fl_RX6_20 : ev_FL RX6 20 6 2 (tyX6 2) true := ⟨RX6, TX6, 4, tyX6, rfl, inT6, tyX6_ok, nmX6, by decide, tyX6_ok 2 (by decide), rfl, Or.inl (ev_in 63 (by decide +kernel) (by decide +kernel))⟩
set_option maxRecDepth 100000 in
theorem pf_RX6_20 : ev_PF RX6 20 6 2 := ⟨RX6, TX6, 4, rfl, rfl, ev_in 63 (by decide +kernel) (by decide +kernel)⟩
set_option maxRecDepth 100000 in
theorem fl_RX6_23 : ev_FL RX6 23 6 3 (tyX6 3) true := ⟨RX6, TX6, 4, tyX6, rfl, inT6, tyX6_ok, nmX6, by decide, tyX6_ok 3 (by decide), rfl, Or.inl (ev_in 64 (by decide +kernel) (by decide +kernel))⟩
set_option maxRecDepth 100000 in
theorem pf_RX6_23 : ev_PF RX6 23 6 3 := ⟨RX6, TX6, 4, rfl, rfl, ev_in 64 (by decide +kernel) (by decide +kernel)⟩
set_option maxRecDepth 100000 in
theorem fl_RX3_23 : ev_FL RX3 23 3 0 (tyX3 0) false := ⟨RX3, TX3, 3, tyX3, rfl, inT3, tyX3_ok, nmX3, by decide, tyX3_ok 0 (by decide), rfl, Or.inl (ev_in 82 (by decide +kernel) (by decide +kernel))⟩
set_option maxRecDepth 100000 in
theorem fl_RX3_14 : ev_FL RX3 14 3 1 (tyX3 1) true := ⟨RX3, TX3, 3, tyX3, rfl, inT3, tyX3_ok, nmX3, by decide, tyX3_ok 1 (by decide), rfl, Or.inl (ev_in 83 (by decide +kernel) (by decide +kernel))⟩
set_option maxRecDepth 100000 in
theorem pf_RX3_14 : ev_PF RX3 14 3 1 := ⟨RX3, TX3, 3, rfl, rfl, ev_in 83 (by decide +kernel) (by decide +kernel)⟩
set_option maxRecDepth 100000 in
theorem fl_RX3_20 : ev_FL RX3 20 3 2 (tyX3 2) true := ⟨RX3, TX3, 3, tyX3, rfl, inT3, tyX3_ok, nmX3, by decide, tyX3_ok 2 (by decide), rfl, Or.inl (ev_in 84 (by decide +kernel) (by decide +kernel))⟩
set_option maxRecDepth 100000 in
theorem pf_RX3_20 : ev_PF RX3 20 3 2 := ⟨RX3, TX3, 3, rfl, rfl, ev_in 84 (by decide +kernel) (by decide +kernel)⟩
set_option maxRecDepth 100000 in
theorem fl_RX4_12 : ev_FL RX4 12 4 0 (tyX4 0) true := ⟨RX4, TX4, 2, tyX4, rfl, inT4, tyX4_ok, nmX4, by decide, tyX4_ok 0 (by decide), rfl, Or.inl (ev_in 92 (by decide +kernel) (by decide +kernel))⟩
set_option maxRecDepth 100000 in
theorem pf_RX4_12 : ev_PF RX4 12 4 0 := ⟨RX4, TX4, 2, rfl, rfl, ev_in 92 (by decide +kernel) (by decide +kernel)⟩
set_option maxRecDepth 100000 in
theorem fl_RX7_37 : ev_FL RX7 37 4 0 (tyX4 0) true := ⟨RX4, TX4, 2, tyX4, rfl, inT4, tyX4_ok, nmX4, by decide, tyX4_ok 0 (by decide), rfl, Or.inr ⟨"StyleCascade", List.mem_of_getElem? (i := 93) (by decide +kernel)⟩⟩
set_option maxRecDepth 100000 in
theorem fl_RX1_36 : ev_FL RX1 36 4 0 (tyX4 0) true := ⟨RX4, TX4, 2, tyX4, rfl, inT4, tyX4_ok, nmX4, by decide, tyX4_ok 0 (by decide), rfl, Or.inr ⟨"StyleCascade", List.mem_of_getElem? (i := 94) (by decide +kernel)⟩⟩
set_option maxRecDepth 100000 in
theorem fl_RX4_23 : ev_FL RX4 23 4 1 (tyX4 1) true := ⟨RX4, TX4, 2, tyX4, rfl, inT4, tyX4_ok, nmX4, by decide, tyX4_ok 1 (by decide), rfl, Or.inl (ev_in 95 (by decide +kernel) (by decide +kernel))⟩
set_option maxRecDepth 100000 in
theorem pf_RX4_23 : ev_PF RX4 23 4 1 := ⟨RX4, TX4, 2, rfl, rfl, ev_in 95 (by decide +kernel) (by decide +kernel)⟩
set_option maxRecDepth 100000 in
theorem fl_RX1_52 : ev_FL RX1 52 4 1 (tyX4 1) true := ⟨RX4, TX4, 2, tyX4, rfl, inT4, tyX4_ok, nmX4, by decide, tyX4_ok 1 (by decide), rfl, Or.inr ⟨"StyleCascade", List.mem_of_getElem? (i := 96) (by decide +kernel)⟩⟩
set_option maxRecDepth 100000 in
theorem fl_RX7_62 : ev_FL RX7 62 4 1 (tyX4 1) true := ⟨RX4, TX4, 2, tyX4, rfl, inT4, tyX4_ok, nmX4, by decide, tyX4_ok 1 (by decide), rfl, Or.inr ⟨"StyleCascade", List.mem_of_getElem? (i := 97) (by decide +kernel)⟩⟩
set_option maxRecDepth 100000 in
theorem fl_RX0_11 : ev_FL RX0 11 0 0 (tyX0 0) true := ⟨RX0, TX0, 3, tyX0, rfl, inT0, tyX0_ok, nmX0, by decide, tyX0_ok 0 (by decide), rfl, Or.inl (ev_in 112 (by decide +kernel) (by decide +kernel))⟩
set_option maxRecDepth 100000 in
theorem pf_RX0_11 : ev_PF RX0 11 0 0 := ⟨RX0, TX0, 3, rfl, rfl, ev_in 112 (by decide +kernel) (by decide +kernel)⟩
set_option maxRecDepth 100000 in
theorem fl_RX0_30 : ev_FL RX0 30 0 1 (tyX0 1) false := ⟨RX0, TX0, 3, tyX0, rfl, inT0, tyX0_ok, nmX0, by decide, tyX0_ok 1 (by decide), rfl, Or.inl (ev_in 113 (by decide +kernel) (by decide +kernel))⟩
set_option maxRecDepth 100000 in
theorem fl_RX0_18 : ev_FL RX0 18 0 2 (tyX0 2) false := ⟨RX0, TX0, 3, tyX0, rfl, inT0, tyX0_ok, nmX0, by decide, tyX0_ok 2 (by decide), rfl, Or.inl (ev_in 114 (by decide +kernel) (by decide +kernel))⟩
set_option maxRecDepth 100000 in
theorem fl_RX1_32 : ev_FL RX1 32 1 0 (tyX1 0) false := ⟨RX1, TX1, 8, tyX1, rfl, inT1, tyX1_ok, nmX1, by decide, tyX1_ok 0 (by decide), rfl, Or.inl (ev_in 130 (by decide +kernel) (by decide +kernel))⟩
set_option maxRecDepth 100000 in
theorem fl_RX1_48 : ev_FL RX1 48 1 1 (tyX1 1) false := ⟨RX1, TX1, 8, tyX1, rfl, inT1, tyX1_ok, nmX1, by decide, tyX1_ok 1 (by decide), rfl, Or.inl (ev_in 131 (by decide +kernel) (by decide +kernel))⟩
set_option maxRecDepth 100000 in
theorem fl_RX1_59 : ev_FL RX1 59 1 2 (tyX1 2) false := ⟨RX1, TX1, 8, tyX1, rfl, inT1, tyX1_ok, nmX1, by decide, tyX1_ok 2 (by decide), rfl, Or.inl (ev_in 132 (by decide +kernel) (by decide +kernel))⟩
set_option maxRecDepth 100000 in
theorem fl_RX1_14 : ev_FL RX1 14 1 3 (tyX1 3) true := ⟨RX1, TX1, 8, tyX1, rfl, inT1, tyX1_ok, nmX1, by decide, tyX1_ok 3 (by decide), rfl, Or.inl (ev_in 133 (by decide +kernel) (by decide +kernel))⟩
set_option maxRecDepth 100000 in
theorem pf_RX1_14 : ev_PF RX1 14 1 3 := ⟨RX1, TX1, 8, rfl, rfl, ev_in 133 (by decide +kernel) (by decide +kernel)⟩
set_option maxRecDepth 100000 in
theorem fl_RX1_20 : ev_FL RX1 20 1 4 (tyX1 4) true := ⟨RX1, TX1, 8, tyX1, rfl, inT1, tyX1_ok, nmX1, by decide, tyX1_ok 4 (by decide), rfl, Or.inl (ev_in 134 (by decide +kernel) (by decide +kernel))⟩
set_option maxRecDepth 100000 in
theorem pf_RX1_20 : ev_PF RX1 20 1 4 := ⟨RX1, TX1, 8, rfl, rfl, ev_in 134 (by decide +kernel) (by decide +kernel)⟩
set_option maxRecDepth 100000 in
theorem fl_RX1_23 : ev_FL RX1 23 1 5 (tyX1 5) true := ⟨RX1, TX1, 8, tyX1, rfl, inT1, tyX1_ok, nmX1, by decide, tyX1_ok 5 (by decide), rfl, Or.inl (ev_in 135 (by decide +kernel) (by decide +kernel))⟩
set_option maxRecDepth 100000 in
theorem pf_RX1_23 : ev_PF RX1 23 1 5 := ⟨RX1, TX1, 8, rfl, rfl, ev_in 135 (by decide +kernel) (by decide +kernel)⟩
set_option maxRecDepth 100000 in
theorem fl_RX1_26 : ev_FL RX1 26 1 6 (tyX1 6) true := ⟨RX1, TX1, 8, tyX1, rfl, inT1, tyX1_ok, nmX1, by decide, tyX1_ok 6 (by decide), rfl, Or.inl (ev_in 136 (by decide +kernel) (by decide +kernel))⟩
set_option maxRecDepth 100000 in
theorem pf_RX1_26 : ev_PF RX1 26 1 6 := ⟨RX1, TX1, 8, rfl, rfl, ev_in 136 (by decide +kernel) (by decide +kernel)⟩
set_option maxRecDepth 100000 in
theorem fl_RX1_29 : ev_FL RX1 29 1 7 (tyX1 7) true := ⟨RX1, TX1, 8, tyX1, rfl, inT1, tyX1_ok, nmX1, by decide, tyX1_ok 7 (by decide), rfl, Or.inl (ev_in 137 (by decide +kernel) (by decide +kernel))⟩
set_option maxRecDepth 100000 in
theorem pf_RX1_29 : ev_PF RX1 29 1 7 := ⟨RX1, TX1, 8, rfl, rfl, ev_in 137 (by decide +kernel) (by decide +kernel)⟩
set_option maxRecDepth 100000 in
theorem fl_RX5_14 : ev_FL RX5 14 5 0 (tyX5 0) true := ⟨RX5, TX5, 6, tyX5, rfl, inT5, tyX5_ok, nmX5, by decide, tyX5_ok 0 (by decide), rfl, Or.inl (ev_in 165 (by decide +kernel) (by decide +kernel))⟩
set_option maxRecDepth 100000 in
theorem pf_RX5_14 : ev_PF RX5 14 5 0 := ⟨RX5, TX5, 6, rfl, rfl, ev_in 165 (by decide +kernel) (by decide +kernel)⟩
set_option maxRecDepth 100000 in
theorem fl_RX5_27 : ev_FL RX5 27 5 1 (tyX5 1) false := ⟨RX5, TX5, 6, tyX5, rfl, inT5, tyX5_ok, nmX5, by decide, tyX5_ok 1 (by decide), rfl, Or.inl (ev_in 166 (by decide +kernel) (by decide +kernel))⟩
set_option maxRecDepth 100000 in
theorem fl_RX5_23 : ev_FL RX5 23 5 2 (tyX5 2) true := ⟨RX5, TX5, 6, tyX5, rfl, inT5, tyX5_ok, nmX5, by decide, tyX5_ok 2 (by decide), rfl, Or.inl (ev_in 167 (by decide +kernel) (by decide +kernel))⟩
set_option maxRecDepth 100000 in
theorem pf_RX5_23 : ev_PF RX5 23 5 2 := ⟨RX5, TX5, 6, rfl, rfl, ev_in 167 (by decide +kernel) (by decide +kernel)⟩
set_option maxRecDepth 100000 in
theorem fl_RX7_10 : ev_FL RX7 10 7 0 (tyX7 0) true := ⟨RX7, TX7, 4, tyX7, rfl, inT7, tyX7_ok, nmX7, by decide, tyX7_ok 0 (by decide), rfl, Or.inl (ev_in 181 (by decide +kernel) (by decide +kernel))⟩
set_option maxRecDepth 100000 in
theorem pf_RX7_10 : ev_PF RX7 10 7 0 := ⟨RX7, TX7, 4, rfl, rfl, ev_in 181 (by decide +kernel) (by decide +kernel)⟩
set_option maxRecDepth 100000 in
theorem fl_RX7_19 : ev_FL RX7 19 7 1 (tyX7 1) true := ⟨RX7, TX7, 4, tyX7, rfl, inT7, tyX7_ok, nmX7, by decide, tyX7_ok 1 (by decide), rfl, Or.inl (ev_in 182 (by decide +kernel) (by decide +kernel))⟩
set_option maxRecDepth 100000 in
theorem pf_RX7_19 : ev_PF RX7 19 7 1 := ⟨RX7, TX7, 4, rfl, rfl, ev_in 182 (by decide +kernel) (by decide +kernel)⟩
set_option maxRecDepth 100000 in
theorem fl_RX7_26 : ev_FL RX7 26 7 2 (tyX7 2) true := ⟨RX7, TX7, 4, tyX7, rfl, inT7, tyX7_ok, nmX7, by decide, tyX7_ok 2 (by decide), rfl, Or.inl (ev_in 183 (by decide +kernel) (by decide +kernel))⟩
set_option maxRecDepth 100000 in
theorem pf_RX7_26 : ev_PF RX7 26 7 2 := ⟨RX7, TX7, 4, rfl, rfl, ev_in 183 (by decide +kernel) (by decide +kernel)⟩
set_option maxRecDepth 100000 in
theorem fl_RX7_33 : ev_FL RX7 33 7 3 (tyX7 3) true := ⟨RX7, TX7, 4, tyX7, rfl, inT7, tyX7_ok, nmX7, by decide, tyX7_ok 3 (by decide), rfl, Or.inl (ev_in 184 (by decide +kernel) (by decide +kernel))⟩
set_option maxRecDepth 100000 in
theorem pf_RX7_33 : ev_PF RX7 33 7 3 := ⟨RX7, TX7, 4, rfl, rfl, ev_in 184 (by decide +kernel) (by decide +kernel)⟩
set_option maxRecDepth 100000 in
theorem nw_RL_10 : ev_NW RL 10 7 4 [some none, some none, some none, some none] := ⟨RX7, TX7, tyX7, rfl, inT7, tyX7_ok, ev_in 23 (by decide +kernel) (by decide +kernel), ev_in 24 (by decide +kernel) (by decide +kernel), ev_in 12 (by decide +kernel) (by decide +kernel), by decide +kernel⟩
set_option maxRecDepth 100000 in
theorem cl_RL_10 : Cond.classLink RL 10 RX7 ∈ ev_T := ev_in 23 (by decide +kernel) (by decide +kernel)
set_option maxRecDepth 100000 in
theorem is_RL_58 : ev_IS RL 58 yX7_init kX7_init 0 := ⟨Or.inl (ev_in 25 (by decide +kernel) (by decide +kernel)), mo_X7_init, ev_in 26 (by decide +kernel) (by decide +kernel), rfl, rfl⟩
set_option maxRecDepth 100000 in
theorem oi_RX7_1 : Cond.methodLink RX7 1 Lib.objectInit ∈ ev_T := ev_in 28 (by decide +kernel) (by decide +kernel)
set_option maxRecDepth 100000 in
theorem nw_RX7_7 : ev_NW RX7 7 4 2 [some none, some none] := ⟨RX4, TX4, tyX4, rfl, inT4, tyX4_ok, ev_in 31 (by decide +kernel) (by decide +kernel), ev_in 32 (by decide +kernel) (by decide +kernel), ev_in 13 (by decide +kernel) (by decide +kernel), by decide +kernel⟩
set_option maxRecDepth 100000 in
theorem cl_RX7_7 : Cond.classLink RX7 7 RX4 ∈ ev_T := ev_in 31 (by decide +kernel) (by decide +kernel)
set_option maxRecDepth 100000 in
theorem is_RX7_9 : ev_IS RX7 9 yX4_init kX4_init 0 := ⟨Or.inl (ev_in 33 (by decide +kernel) (by decide +kernel)), mo_X4_init, ev_in 34 (by decide +kernel) (by decide +kernel), rfl, rfl⟩
set_option maxRecDepth 100000 in
theorem oi_RX4_3 : Cond.methodLink RX4 3 Lib.objectInit ∈ ev_T := ev_in 36 (by decide +kernel) (by decide +kernel)
set_option maxRecDepth 100000 in
theorem nw_RX4_9 : ev_NW RX4 9 6 4 [none, some none, some none, some none] := ⟨RX6, TX6, tyX6, rfl, inT6, tyX6_ok, ev_in 37 (by decide +kernel) (by decide +kernel), ev_in 38 (by decide +kernel) (by decide +kernel), ev_in 14 (by decide +kernel) (by decide +kernel), by decide +kernel⟩
set_option maxRecDepth 100000 in
theorem cl_RX4_9 : Cond.classLink RX4 9 RX6 ∈ ev_T := ev_in 37 (by decide +kernel) (by decide +kernel)
set_option maxRecDepth 100000 in
theorem is_RX4_11 : ev_IS RX4 11 yX6_init kX6_init 0 := ⟨Or.inl (ev_in 39 (by decide +kernel) (by decide +kernel)), mo_X6_init, ev_in 40 (by decide +kernel) (by decide +kernel), rfl, rfl⟩
set_option maxRecDepth 100000 in
theorem oi_RX6_3 : Cond.methodLink RX6 3 Lib.objectInit ∈ ev_T := ev_in 42 (by decide +kernel) (by decide +kernel)
set_option maxRecDepth 100000 in
theorem nw_RX6_9 : ev_NW RX6 9 2 1 [some none] := ⟨RX2, TX2, tyX2, rfl, inT2, tyX2_ok, ev_in 43 (by decide +kernel) (by decide +kernel), ev_in 44 (by decide +kernel) (by decide +kernel), ev_in 15 (by decide +kernel) (by decide +kernel), by decide +kernel⟩
set_option maxRecDepth 100000 in
theorem cl_RX6_9 : Cond.classLink RX6 9 RX2 ∈ ev_T := ev_in 43 (by decide +kernel) (by decide +kernel)
set_option maxRecDepth 100000 in
theorem is_RX6_11 : ev_IS RX6 11 yX2_init kX2_init 1 := ⟨Or.inl (ev_in 45 (by decide +kernel) (by decide +kernel)), mo_X2_init, ev_in 46 (by decide +kernel) (by decide +kernel), rfl, rfl⟩
set_option maxRecDepth 100000 in
theorem oi_RX2_3 : Cond.methodLink RX2 3 Lib.objectInit ∈ ev_T := ev_in 48 (by decide +kernel) (by decide +kernel)
set_option maxRecDepth 100000 in
theorem mm_RX2_9 : Cond.methodLink RX2 9 Lib.Math.max.name ∈ ev_T ∧ Cond.static Lib.Math.max.name ∈ ev_T ∧ Cond.initialized "java/lang/Math" ∈ ev_T ∧ Cond.code Lib.Math.max.name Lib.Math.max.code 2 (some .int) ∈ ev_T := ⟨ev_in 49 (by decide +kernel) (by decide +kernel), ev_in 50 (by decide +kernel) (by decide +kernel), ev_in 16 (by decide +kernel) (by decide +kernel), ev_in 51 (by decide +kernel) (by decide +kernel)⟩
set_option maxRecDepth 100000 in
theorem vs_RX6_26 : ev_VS RX6 26 yX2_put kX2_put 2 2 := ⟨Or.inl (ev_in 57 (by decide +kernel) (by decide +kernel)), mo_X2_put, ev_in 58 (by decide +kernel) (by decide +kernel), List.mem_of_getElem? (i := 59) (by decide +kernel), ev_in 59 (by decide +kernel) (by decide +kernel), TX2, 1, rfl⟩
set_option maxRecDepth 100000 in
theorem nw_RX4_18 : ev_NW RX4 18 3 3 [none, some none, some none] := ⟨RX3, TX3, tyX3, rfl, inT3, tyX3_ok, ev_in 74 (by decide +kernel) (by decide +kernel), ev_in 75 (by decide +kernel) (by decide +kernel), ev_in 17 (by decide +kernel) (by decide +kernel), by decide +kernel⟩
set_option maxRecDepth 100000 in
theorem cl_RX4_18 : Cond.classLink RX4 18 RX3 ∈ ev_T := ev_in 74 (by decide +kernel) (by decide +kernel)
set_option maxRecDepth 100000 in
theorem is_RX4_20 : ev_IS RX4 20 yX3_init kX3_init 1 := ⟨Or.inl (ev_in 76 (by decide +kernel) (by decide +kernel)), mo_X3_init, ev_in 77 (by decide +kernel) (by decide +kernel), rfl, rfl⟩
set_option maxRecDepth 100000 in
theorem oi_RX3_3 : Cond.methodLink RX3 3 Lib.objectInit ∈ ev_T := ev_in 79 (by decide +kernel) (by decide +kernel)
set_option maxRecDepth 100000 in
theorem nw_RX3_9 : ev_NW RX3 9 2 1 [some none] := ⟨RX2, TX2, tyX2, rfl, inT2, tyX2_ok, ev_in 80 (by decide +kernel) (by decide +kernel), ev_in 44 (by decide +kernel) (by decide +kernel), ev_in 15 (by decide +kernel) (by decide +kernel), by decide +kernel⟩
set_option maxRecDepth 100000 in
theorem cl_RX3_9 : Cond.classLink RX3 9 RX2 ∈ ev_T := ev_in 80 (by decide +kernel) (by decide +kernel)
set_option maxRecDepth 100000 in
theorem is_RX3_11 : ev_IS RX3 11 yX2_init kX2_init 1 := ⟨Or.inl (ev_in 81 (by decide +kernel) (by decide +kernel)), mo_X2_init, ev_in 46 (by decide +kernel) (by decide +kernel), rfl, rfl⟩
set_option maxRecDepth 100000 in
theorem nw_RX7_16 : ev_NW RX7 16 0 3 [some none, none, none] := ⟨RX0, TX0, tyX0, rfl, inT0, tyX0_ok, ev_in 103 (by decide +kernel) (by decide +kernel), ev_in 104 (by decide +kernel) (by decide +kernel), ev_in 18 (by decide +kernel) (by decide +kernel), by decide +kernel⟩
set_option maxRecDepth 100000 in
theorem cl_RX7_16 : Cond.classLink RX7 16 RX0 ∈ ev_T := ev_in 103 (by decide +kernel) (by decide +kernel)
set_option maxRecDepth 100000 in
theorem is_RX7_18 : ev_IS RX7 18 yX0_init kX0_init 0 := ⟨Or.inl (ev_in 105 (by decide +kernel) (by decide +kernel)), mo_X0_init, ev_in 106 (by decide +kernel) (by decide +kernel), rfl, rfl⟩
set_option maxRecDepth 100000 in
theorem oi_RX0_3 : Cond.methodLink RX0 3 Lib.objectInit ∈ ev_T := ev_in 108 (by decide +kernel) (by decide +kernel)
set_option maxRecDepth 100000 in
theorem nw_RX0_9 : ev_NW RX0 9 4 2 [some none, some none] := ⟨RX4, TX4, tyX4, rfl, inT4, tyX4_ok, ev_in 109 (by decide +kernel) (by decide +kernel), ev_in 32 (by decide +kernel) (by decide +kernel), ev_in 13 (by decide +kernel) (by decide +kernel), by decide +kernel⟩
set_option maxRecDepth 100000 in
theorem cl_RX0_9 : Cond.classLink RX0 9 RX4 ∈ ev_T := ev_in 109 (by decide +kernel) (by decide +kernel)
set_option maxRecDepth 100000 in
theorem is_RX0_17 : ev_IS RX0 17 yX4_init kX4_init 0 := ⟨Or.inl (ev_in 111 (by decide +kernel) (by decide +kernel)), mo_X4_init, ev_in 34 (by decide +kernel) (by decide +kernel), rfl, rfl⟩
set_option maxRecDepth 100000 in
theorem nw_RX7_23 : ev_NW RX7 23 1 8 [none, none, none, some none, some none, some none, some none, some none] := ⟨RX1, TX1, tyX1, rfl, inT1, tyX1_ok, ev_in 122 (by decide +kernel) (by decide +kernel), ev_in 123 (by decide +kernel) (by decide +kernel), ev_in 19 (by decide +kernel) (by decide +kernel), by decide +kernel⟩
set_option maxRecDepth 100000 in
theorem cl_RX7_23 : Cond.classLink RX7 23 RX1 ∈ ev_T := ev_in 122 (by decide +kernel) (by decide +kernel)
set_option maxRecDepth 100000 in
theorem is_RX7_25 : ev_IS RX7 25 yX1_init kX1_init 0 := ⟨Or.inl (ev_in 124 (by decide +kernel) (by decide +kernel)), mo_X1_init, ev_in 125 (by decide +kernel) (by decide +kernel), rfl, rfl⟩
set_option maxRecDepth 100000 in
theorem oi_RX1_3 : Cond.methodLink RX1 3 Lib.objectInit ∈ ev_T := ev_in 127 (by decide +kernel) (by decide +kernel)
set_option maxRecDepth 100000 in
theorem nw_RX1_9 : ev_NW RX1 9 2 1 [some none] := ⟨RX2, TX2, tyX2, rfl, inT2, tyX2_ok, ev_in 128 (by decide +kernel) (by decide +kernel), ev_in 44 (by decide +kernel) (by decide +kernel), ev_in 15 (by decide +kernel) (by decide +kernel), by decide +kernel⟩
set_option maxRecDepth 100000 in
theorem cl_RX1_9 : Cond.classLink RX1 9 RX2 ∈ ev_T := ev_in 128 (by decide +kernel) (by decide +kernel)
set_option maxRecDepth 100000 in
theorem is_RX1_11 : ev_IS RX1 11 yX2_init kX2_init 1 := ⟨Or.inl (ev_in 129 (by decide +kernel) (by decide +kernel)), mo_X2_init, ev_in 46 (by decide +kernel) (by decide +kernel), rfl, rfl⟩
set_option maxRecDepth 100000 in
theorem nw_RX7_30 : ev_NW RX7 30 5 6 [some none, none, some none, none, none, none] := ⟨RX5, TX5, tyX5, rfl, inT5, tyX5_ok, ev_in 155 (by decide +kernel) (by decide +kernel), ev_in 156 (by decide +kernel) (by decide +kernel), ev_in 20 (by decide +kernel) (by decide +kernel), by decide +kernel⟩
set_option maxRecDepth 100000 in
theorem cl_RX7_30 : Cond.classLink RX7 30 RX5 ∈ ev_T := ev_in 155 (by decide +kernel) (by decide +kernel)
set_option maxRecDepth 100000 in
theorem is_RX7_32 : ev_IS RX7 32 yX5_init kX5_init 0 := ⟨Or.inl (ev_in 157 (by decide +kernel) (by decide +kernel)), mo_X5_init, ev_in 158 (by decide +kernel) (by decide +kernel), rfl, rfl⟩
set_option maxRecDepth 100000 in
theorem oi_RX5_3 : Cond.methodLink RX5 3 Lib.objectInit ∈ ev_T := ev_in 160 (by decide +kernel) (by decide +kernel)
set_option maxRecDepth 100000 in
theorem nw_RX5_9 : ev_NW RX5 9 2 1 [some none] := ⟨RX2, TX2, tyX2, rfl, inT2, tyX2_ok, ev_in 161 (by decide +kernel) (by decide +kernel), ev_in 44 (by decide +kernel) (by decide +kernel), ev_in 15 (by decide +kernel) (by decide +kernel), by decide +kernel⟩
set_option maxRecDepth 100000 in
theorem cl_RX5_9 : Cond.classLink RX5 9 RX2 ∈ ev_T := ev_in 161 (by decide +kernel) (by decide +kernel)
set_option maxRecDepth 100000 in
theorem is_RX5_11 : ev_IS RX5 11 yX2_init kX2_init 1 := ⟨Or.inl (ev_in 162 (by decide +kernel) (by decide +kernel)), mo_X2_init, ev_in 46 (by decide +kernel) (by decide +kernel), rfl, rfl⟩
set_option maxRecDepth 100000 in
theorem nw_RX5_20 : ev_NW RX5 20 3 3 [none, some none, some none] := ⟨RX3, TX3, tyX3, rfl, inT3, tyX3_ok, ev_in 163 (by decide +kernel) (by decide +kernel), ev_in 75 (by decide +kernel) (by decide +kernel), ev_in 17 (by decide +kernel) (by decide +kernel), by decide +kernel⟩
set_option maxRecDepth 100000 in
theorem cl_RX5_20 : Cond.classLink RX5 20 RX3 ∈ ev_T := ev_in 163 (by decide +kernel) (by decide +kernel)
set_option maxRecDepth 100000 in
theorem is_RX5_22 : ev_IS RX5 22 yX3_init kX3_init 1 := ⟨Or.inl (ev_in 164 (by decide +kernel) (by decide +kernel)), mo_X3_init, ev_in 77 (by decide +kernel) (by decide +kernel), rfl, rfl⟩
set_option maxRecDepth 100000 in
theorem vs_RL_67 : ev_VS RL 67 yX7_add kX7_add 3 7 := ⟨Or.inl (ev_in 194 (by decide +kernel) (by decide +kernel)), mo_X7_add, ev_in 195 (by decide +kernel) (by decide +kernel), List.mem_of_getElem? (i := 196) (by decide +kernel), ev_in 196 (by decide +kernel) (by decide +kernel), TX7, 4, rfl⟩
set_option maxRecDepth 100000 in
theorem vs_RX7_41 : ev_VS RX7 41 yX6_has kX6_has 1 6 := ⟨Or.inl (ev_in 198 (by decide +kernel) (by decide +kernel)), mo_X6_has, ev_in 199 (by decide +kernel) (by decide +kernel), List.mem_of_getElem? (i := 200) (by decide +kernel), ev_in 200 (by decide +kernel) (by decide +kernel), TX6, 4, rfl⟩
set_option maxRecDepth 100000 in
theorem ss_RX6_34 : ev_SS RX6 34 yX7_isWithin kX7_isWithin 3 := ⟨Or.inr ⟨"StyleCascade", List.mem_of_getElem? (i := 202) (by decide +kernel)⟩, mo_X7_isWithin, ev_in 203 (by decide +kernel) (by decide +kernel)⟩
set_option maxRecDepth 100000 in
theorem ss_RX7_47 : ev_SS RX7 47 yX7_isWithin kX7_isWithin 3 := ⟨Or.inl (ev_in 205 (by decide +kernel) (by decide +kernel)), mo_X7_isWithin, ev_in 203 (by decide +kernel) (by decide +kernel)⟩
set_option maxRecDepth 100000 in
theorem vs_RX7_51 : ev_VS RX7 51 yX6_size kX6_size 0 6 := ⟨Or.inl (ev_in 206 (by decide +kernel) (by decide +kernel)), mo_X6_size, ev_in 207 (by decide +kernel) (by decide +kernel), List.mem_of_getElem? (i := 208) (by decide +kernel), ev_in 208 (by decide +kernel) (by decide +kernel), TX6, 4, rfl⟩
set_option maxRecDepth 100000 in
theorem vs_RX7_55 : ev_VS RX7 55 yX7_beginChange kX7_beginChange 0 7 := ⟨Or.inl (ev_in 210 (by decide +kernel) (by decide +kernel)), mo_X7_beginChange, ev_in 212 (by decide +kernel) (by decide +kernel), List.mem_of_getElem? (i := 0) (by decide +kernel), ev_in 0 (by decide +kernel) (by decide +kernel), TX7, 4, rfl⟩
set_option maxRecDepth 100000 in
theorem vs_RX7_200 : ev_VS RX7 200 yX0_record kX0_record 1 0 := ⟨Or.inl (ev_in 214 (by decide +kernel) (by decide +kernel)), mo_X0_record, ev_in 215 (by decide +kernel) (by decide +kernel), List.mem_of_getElem? (i := 216) (by decide +kernel), ev_in 216 (by decide +kernel) (by decide +kernel), TX0, 3, rfl⟩
set_option maxRecDepth 100000 in
theorem vs_RX0_22 : ev_VS RX0 22 yX0_slot kX0_slot 1 0 := ⟨Or.inl (ev_in 218 (by decide +kernel) (by decide +kernel)), mo_X0_slot, ev_in 220 (by decide +kernel) (by decide +kernel), List.mem_of_getElem? (i := 1) (by decide +kernel), ev_in 1 (by decide +kernel) (by decide +kernel), TX0, 3, rfl⟩
set_option maxRecDepth 100000 in
theorem vs_RX0_26 : ev_VS RX0 26 yX4_copy kX4_copy 1 4 := ⟨Or.inl (ev_in 222 (by decide +kernel) (by decide +kernel)), mo_X4_copy, ev_in 223 (by decide +kernel) (by decide +kernel), List.mem_of_getElem? (i := 224) (by decide +kernel), ev_in 224 (by decide +kernel) (by decide +kernel), TX4, 2, rfl⟩
set_option maxRecDepth 100000 in
theorem vs_RX4_55 : ev_VS RX4 55 yX6_copy kX6_copy 1 6 := ⟨Or.inl (ev_in 226 (by decide +kernel) (by decide +kernel)), mo_X6_copy, ev_in 227 (by decide +kernel) (by decide +kernel), List.mem_of_getElem? (i := 228) (by decide +kernel), ev_in 228 (by decide +kernel) (by decide +kernel), TX6, 4, rfl⟩
set_option maxRecDepth 100000 in
theorem vs_RX6_46 : ev_VS RX6 46 yX2_copy kX2_copy 1 2 := ⟨Or.inl (ev_in 230 (by decide +kernel) (by decide +kernel)), mo_X2_copy, ev_in 231 (by decide +kernel) (by decide +kernel), List.mem_of_getElem? (i := 232) (by decide +kernel), ev_in 232 (by decide +kernel) (by decide +kernel), TX2, 1, rfl⟩
set_option maxRecDepth 100000 in
theorem mm_RX2_25 : Cond.methodLink RX2 25 Lib.Math.min.name ∈ ev_T ∧ Cond.static Lib.Math.min.name ∈ ev_T ∧ Cond.initialized "java/lang/Math" ∈ ev_T ∧ Cond.code Lib.Math.min.name Lib.Math.min.code 2 (some .int) ∈ ev_T := ⟨ev_in 234 (by decide +kernel) (by decide +kernel), ev_in 235 (by decide +kernel) (by decide +kernel), ev_in 16 (by decide +kernel) (by decide +kernel), ev_in 236 (by decide +kernel) (by decide +kernel)⟩
set_option maxRecDepth 100000 in
theorem ac_RX2_28 : Cond.methodLink RX2 28 arraycopyName ∈ ev_T ∧ Cond.native arraycopyName ∈ ev_T ∧ Cond.static arraycopyName ∈ ev_T ∧ Cond.initialized "java/lang/System" ∈ ev_T := ⟨ev_in 237 (by decide +kernel) (by decide +kernel), ev_in 239 (by decide +kernel) (by decide +kernel), ev_in 238 (by decide +kernel) (by decide +kernel), ev_in 22 (by decide +kernel) (by decide +kernel)⟩
set_option maxRecDepth 100000 in
theorem vs_RX4_59 : ev_VS RX4 59 yX3_copy kX3_copy 1 3 := ⟨Or.inl (ev_in 240 (by decide +kernel) (by decide +kernel)), mo_X3_copy, ev_in 241 (by decide +kernel) (by decide +kernel), List.mem_of_getElem? (i := 242) (by decide +kernel), ev_in 242 (by decide +kernel) (by decide +kernel), TX3, 3, rfl⟩
set_option maxRecDepth 100000 in
theorem vs_RX3_66 : ev_VS RX3 66 yX2_copy kX2_copy 1 2 := ⟨Or.inl (ev_in 244 (by decide +kernel) (by decide +kernel)), mo_X2_copy, ev_in 231 (by decide +kernel) (by decide +kernel), List.mem_of_getElem? (i := 232) (by decide +kernel), ev_in 232 (by decide +kernel) (by decide +kernel), TX2, 1, rfl⟩
set_option maxRecDepth 100000 in
theorem vs_RX7_120 : ev_VS RX7 120 yX1_spoil kX1_spoil 0 1 := ⟨Or.inl (ev_in 245 (by decide +kernel) (by decide +kernel)), mo_X1_spoil, ev_in 246 (by decide +kernel) (by decide +kernel), List.mem_of_getElem? (i := 247) (by decide +kernel), ev_in 247 (by decide +kernel) (by decide +kernel), TX1, 8, rfl⟩
set_option maxRecDepth 100000 in
theorem vs_RX7_58 : ev_VS RX7 58 yX6_append kX6_append 3 6 := ⟨Or.inl (ev_in 249 (by decide +kernel) (by decide +kernel)), mo_X6_append, ev_in 250 (by decide +kernel) (by decide +kernel), List.mem_of_getElem? (i := 251) (by decide +kernel), ev_in 251 (by decide +kernel) (by decide +kernel), TX6, 4, rfl⟩
set_option maxRecDepth 100000 in
theorem vs_RX6_42 : ev_VS RX6 42 yX6_setLook kX6_setLook 3 6 := ⟨Or.inl (ev_in 253 (by decide +kernel) (by decide +kernel)), mo_X6_setLook, ev_in 254 (by decide +kernel) (by decide +kernel), List.mem_of_getElem? (i := 255) (by decide +kernel), ev_in 255 (by decide +kernel) (by decide +kernel), TX6, 4, rfl⟩
set_option maxRecDepth 100000 in
theorem vs_RL_75 : ev_VS RL 75 yX7_dress kX7_dress 3 7 := ⟨Or.inl (ev_in 257 (by decide +kernel) (by decide +kernel)), mo_X7_dress, ev_in 258 (by decide +kernel) (by decide +kernel), List.mem_of_getElem? (i := 259) (by decide +kernel), ev_in 259 (by decide +kernel) (by decide +kernel), TX7, 4, rfl⟩
set_option maxRecDepth 100000 in
theorem vs_RX7_74 : ev_VS RX7 74 yX6_kindOf kX6_kindOf 1 6 := ⟨Or.inl (ev_in 261 (by decide +kernel) (by decide +kernel)), mo_X6_kindOf, ev_in 262 (by decide +kernel) (by decide +kernel), List.mem_of_getElem? (i := 263) (by decide +kernel), ev_in 263 (by decide +kernel) (by decide +kernel), TX6, 4, rfl⟩
set_option maxRecDepth 100000 in
theorem vs_RX6_38 : ev_VS RX6 38 yX2_at kX2_at 1 2 := ⟨Or.inl (ev_in 265 (by decide +kernel) (by decide +kernel)), mo_X2_at, ev_in 266 (by decide +kernel) (by decide +kernel), List.mem_of_getElem? (i := 267) (by decide +kernel), ev_in 267 (by decide +kernel) (by decide +kernel), TX2, 1, rfl⟩
set_option maxRecDepth 100000 in
theorem vs_RX7_78 : ev_VS RX7 78 yX6_classesOf kX6_classesOf 1 6 := ⟨Or.inl (ev_in 269 (by decide +kernel) (by decide +kernel)), mo_X6_classesOf, ev_in 270 (by decide +kernel) (by decide +kernel), List.mem_of_getElem? (i := 271) (by decide +kernel), ev_in 271 (by decide +kernel) (by decide +kernel), TX6, 4, rfl⟩
set_option maxRecDepth 100000 in
theorem vs_RX7_81 : ev_VS RX7 81 yX6_setLook kX6_setLook 3 6 := ⟨Or.inl (ev_in 273 (by decide +kernel) (by decide +kernel)), mo_X6_setLook, ev_in 254 (by decide +kernel) (by decide +kernel), List.mem_of_getElem? (i := 255) (by decide +kernel), ev_in 255 (by decide +kernel) (by decide +kernel), TX6, 4, rfl⟩
set_option maxRecDepth 100000 in
theorem vs_RL_31 : ev_VS RL 31 yX7_element kX7_element 2 7 := ⟨Or.inl (ev_in 274 (by decide +kernel) (by decide +kernel)), mo_X7_element, ev_in 275 (by decide +kernel) (by decide +kernel), List.mem_of_getElem? (i := 276) (by decide +kernel), ev_in 276 (by decide +kernel) (by decide +kernel), TX7, 4, rfl⟩
set_option maxRecDepth 100000 in
theorem vs_RX7_85 : ev_VS RX7 85 yX6_parentOf kX6_parentOf 1 6 := ⟨Or.inl (ev_in 278 (by decide +kernel) (by decide +kernel)), mo_X6_parentOf, ev_in 279 (by decide +kernel) (by decide +kernel), List.mem_of_getElem? (i := 280) (by decide +kernel), ev_in 280 (by decide +kernel) (by decide +kernel), TX6, 4, rfl⟩
set_option maxRecDepth 100000 in
theorem vs_RX7_88 : ev_VS RX7 88 yX6_stepsUp kX6_stepsUp 2 6 := ⟨Or.inl (ev_in 282 (by decide +kernel) (by decide +kernel)), mo_X6_stepsUp, ev_in 283 (by decide +kernel) (by decide +kernel), List.mem_of_getElem? (i := 284) (by decide +kernel), ev_in 284 (by decide +kernel) (by decide +kernel), TX6, 4, rfl⟩
set_option maxRecDepth 100000 in
theorem vs_RX7_92 : ev_VS RX7 92 yX1_of kX1_of 1 1 := ⟨Or.inl (ev_in 286 (by decide +kernel) (by decide +kernel)), mo_X1_of, ev_in 287 (by decide +kernel) (by decide +kernel), List.mem_of_getElem? (i := 288) (by decide +kernel), ev_in 288 (by decide +kernel) (by decide +kernel), TX1, 8, rfl⟩
set_option maxRecDepth 100000 in
theorem vs_RX1_42 : ev_VS RX1 42 yX6_size kX6_size 0 6 := ⟨Or.inl (ev_in 290 (by decide +kernel) (by decide +kernel)), mo_X6_size, ev_in 207 (by decide +kernel) (by decide +kernel), List.mem_of_getElem? (i := 208) (by decide +kernel), ev_in 208 (by decide +kernel) (by decide +kernel), TX6, 4, rfl⟩
set_option maxRecDepth 100000 in
theorem vs_RX1_56 : ev_VS RX1 56 yX3_size kX3_size 0 3 := ⟨Or.inl (ev_in 291 (by decide +kernel) (by decide +kernel)), mo_X3_size, ev_in 292 (by decide +kernel) (by decide +kernel), List.mem_of_getElem? (i := 293) (by decide +kernel), ev_in 293 (by decide +kernel) (by decide +kernel), TX3, 3, rfl⟩
set_option maxRecDepth 100000 in
theorem vs_RX1_61 : ev_VS RX1 61 yX1_weighRules kX1_weighRules 2 1 := ⟨Or.inl (ev_in 295 (by decide +kernel) (by decide +kernel)), mo_X1_weighRules, ev_in 297 (by decide +kernel) (by decide +kernel), List.mem_of_getElem? (i := 2) (by decide +kernel), ev_in 2 (by decide +kernel) (by decide +kernel), TX1, 8, rfl⟩
set_option maxRecDepth 100000 in
theorem vs_RX1_75 : ev_VS RX1 75 yX4_strength kX4_strength 2 4 := ⟨Or.inl (ev_in 299 (by decide +kernel) (by decide +kernel)), mo_X4_strength, ev_in 300 (by decide +kernel) (by decide +kernel), List.mem_of_getElem? (i := 301) (by decide +kernel), ev_in 301 (by decide +kernel) (by decide +kernel), TX4, 2, rfl⟩
set_option maxRecDepth 100000 in
theorem vs_RX4_48 : ev_VS RX4 48 yX4_fits kX4_fits 2 4 := ⟨Or.inl (ev_in 303 (by decide +kernel) (by decide +kernel)), mo_X4_fits, ev_in 304 (by decide +kernel) (by decide +kernel), List.mem_of_getElem? (i := 305) (by decide +kernel), ev_in 305 (by decide +kernel) (by decide +kernel), TX4, 2, rfl⟩
set_option maxRecDepth 100000 in
theorem vs_RX4_27 : ev_VS RX4 27 yX3_part kX3_part 2 3 := ⟨Or.inl (ev_in 307 (by decide +kernel) (by decide +kernel)), mo_X3_part, ev_in 308 (by decide +kernel) (by decide +kernel), List.mem_of_getElem? (i := 309) (by decide +kernel), ev_in 309 (by decide +kernel) (by decide +kernel), TX3, 3, rfl⟩
set_option maxRecDepth 100000 in
theorem vs_RX3_31 : ev_VS RX3 31 yX2_at kX2_at 1 2 := ⟨Or.inl (ev_in 311 (by decide +kernel) (by decide +kernel)), mo_X2_at, ev_in 266 (by decide +kernel) (by decide +kernel), List.mem_of_getElem? (i := 267) (by decide +kernel), ev_in 267 (by decide +kernel) (by decide +kernel), TX2, 1, rfl⟩
set_option maxRecDepth 100000 in
theorem vs_RX4_31 : ev_VS RX4 31 yX6_kindOf kX6_kindOf 1 6 := ⟨Or.inl (ev_in 312 (by decide +kernel) (by decide +kernel)), mo_X6_kindOf, ev_in 262 (by decide +kernel) (by decide +kernel), List.mem_of_getElem? (i := 263) (by decide +kernel), ev_in 263 (by decide +kernel) (by decide +kernel), TX6, 4, rfl⟩
set_option maxRecDepth 100000 in
theorem vs_RX4_35 : ev_VS RX4 35 yX6_classesOf kX6_classesOf 1 6 := ⟨Or.inl (ev_in 313 (by decide +kernel) (by decide +kernel)), mo_X6_classesOf, ev_in 270 (by decide +kernel) (by decide +kernel), List.mem_of_getElem? (i := 271) (by decide +kernel), ev_in 271 (by decide +kernel) (by decide +kernel), TX6, 4, rfl⟩
set_option maxRecDepth 100000 in
theorem vs_RX4_38 : ev_VS RX4 38 yX6_hasKindAbove kX6_hasKindAbove 2 6 := ⟨Or.inl (ev_in 314 (by decide +kernel) (by decide +kernel)), mo_X6_hasKindAbove, ev_in 315 (by decide +kernel) (by decide +kernel), List.mem_of_getElem? (i := 316) (by decide +kernel), ev_in 316 (by decide +kernel) (by decide +kernel), TX6, 4, rfl⟩
set_option maxRecDepth 100000 in
theorem vs_RX4_42 : ev_VS RX4 42 yX6_stepsUp kX6_stepsUp 2 6 := ⟨Or.inl (ev_in 318 (by decide +kernel) (by decide +kernel)), mo_X6_stepsUp, ev_in 283 (by decide +kernel) (by decide +kernel), List.mem_of_getElem? (i := 284) (by decide +kernel), ev_in 284 (by decide +kernel) (by decide +kernel), TX6, 4, rfl⟩
set_option maxRecDepth 100000 in
theorem vs_RX4_51 : ev_VS RX4 51 yX4_rank kX4_rank 3 4 := ⟨Or.inl (ev_in 319 (by decide +kernel) (by decide +kernel)), mo_X4_rank, ev_in 320 (by decide +kernel) (by decide +kernel), List.mem_of_getElem? (i := 321) (by decide +kernel), ev_in 321 (by decide +kernel) (by decide +kernel), TX4, 2, rfl⟩
set_option maxRecDepth 100000 in
theorem vs_RX4_45 : ev_VS RX4 45 yX3_specificity kX3_specificity 1 3 := ⟨Or.inl (ev_in 323 (by decide +kernel) (by decide +kernel)), mo_X3_specificity, ev_in 324 (by decide +kernel) (by decide +kernel), List.mem_of_getElem? (i := 325) (by decide +kernel), ev_in 325 (by decide +kernel) (by decide +kernel), TX3, 3, rfl⟩
set_option maxRecDepth 100000 in
theorem ss_RX3_43 : ev_SS RX3 43 yJ6_bitCount_0f7a4 kJ6_bitCount_0f7a4 1 := ⟨Or.inl (ev_in 327 (by decide +kernel) (by decide +kernel)), mo_J6_bitCount_0f7a4, ev_in 328 (by decide +kernel) (by decide +kernel)⟩
set_option maxRecDepth 100000 in
theorem kc_RJ6_265 : Cond.constant RJ6 265 (1431655765 : Int32) ∈ ev_T := ev_in 330 (by decide +kernel) (by decide +kernel)
set_option maxRecDepth 100000 in
theorem kc_RJ6_266 : Cond.constant RJ6 266 (858993459 : Int32) ∈ ev_T := ev_in 331 (by decide +kernel) (by decide +kernel)
set_option maxRecDepth 100000 in
theorem kc_RJ6_267 : Cond.constant RJ6 267 (252645135 : Int32) ∈ ev_T := ev_in 332 (by decide +kernel) (by decide +kernel)
set_option maxRecDepth 100000 in
theorem vs_RX1_79 : ev_VS RX1 79 yX2_put kX2_put 2 2 := ⟨Or.inl (ev_in 333 (by decide +kernel) (by decide +kernel)), mo_X2_put, ev_in 58 (by decide +kernel) (by decide +kernel), List.mem_of_getElem? (i := 59) (by decide +kernel), ev_in 59 (by decide +kernel) (by decide +kernel), TX2, 1, rfl⟩
set_option maxRecDepth 100000 in
theorem vs_RX1_65 : ev_VS RX1 65 yX1_chooseWinners kX1_chooseWinners 2 1 := ⟨Or.inl (ev_in 334 (by decide +kernel) (by decide +kernel)), mo_X1_chooseWinners, ev_in 336 (by decide +kernel) (by decide +kernel), List.mem_of_getElem? (i := 3) (by decide +kernel), ev_in 3 (by decide +kernel) (by decide +kernel), TX1, 8, rfl⟩
set_option maxRecDepth 100000 in
theorem ss_RX1_83 : ev_SS RX1 83 yX1_cell kX1_cell 2 := ⟨Or.inl (ev_in 338 (by decide +kernel) (by decide +kernel)), mo_X1_cell, ev_in 339 (by decide +kernel) (by decide +kernel)⟩
set_option maxRecDepth 100000 in
theorem kc_RX1_86 : Cond.constant RX1 86 (1073741824 : Int32) ∈ ev_T := ev_in 341 (by decide +kernel) (by decide +kernel)
set_option maxRecDepth 100000 in
theorem vs_RX1_87 : ev_VS RX1 87 yX1_strongest kX1_strongest 4 1 := ⟨Or.inl (ev_in 342 (by decide +kernel) (by decide +kernel)), mo_X1_strongest, ev_in 344 (by decide +kernel) (by decide +kernel), List.mem_of_getElem? (i := 4) (by decide +kernel), ev_in 4 (by decide +kernel) (by decide +kernel), TX1, 8, rfl⟩
set_option maxRecDepth 100000 in
theorem vs_RX1_91 : ev_VS RX1 91 yX3_declares kX3_declares 2 3 := ⟨Or.inl (ev_in 346 (by decide +kernel) (by decide +kernel)), mo_X3_declares, ev_in 347 (by decide +kernel) (by decide +kernel), List.mem_of_getElem? (i := 348) (by decide +kernel), ev_in 348 (by decide +kernel) (by decide +kernel), TX3, 3, rfl⟩
set_option maxRecDepth 100000 in
theorem vs_RX3_35 : ev_VS RX3 35 yX3_entry kX3_entry 3 3 := ⟨Or.inl (ev_in 350 (by decide +kernel) (by decide +kernel)), mo_X3_entry, ev_in 351 (by decide +kernel) (by decide +kernel), List.mem_of_getElem? (i := 352) (by decide +kernel), ev_in 352 (by decide +kernel) (by decide +kernel), TX3, 3, rfl⟩
set_option maxRecDepth 100000 in
theorem vs_RX1_95 : ev_VS RX1 95 yX1_strengthOn kX1_strengthOn 2 1 := ⟨Or.inl (ev_in 354 (by decide +kernel) (by decide +kernel)), mo_X1_strengthOn, ev_in 356 (by decide +kernel) (by decide +kernel), List.mem_of_getElem? (i := 5) (by decide +kernel), ev_in 5 (by decide +kernel) (by decide +kernel), TX1, 8, rfl⟩
set_option maxRecDepth 100000 in
theorem vs_RX1_142 : ev_VS RX1 142 yX2_at kX2_at 1 2 := ⟨Or.inl (ev_in 358 (by decide +kernel) (by decide +kernel)), mo_X2_at, ev_in 266 (by decide +kernel) (by decide +kernel), List.mem_of_getElem? (i := 267) (by decide +kernel), ev_in 267 (by decide +kernel) (by decide +kernel), TX2, 1, rfl⟩
set_option maxRecDepth 100000 in
theorem vs_RX1_69 : ev_VS RX1 69 yX1_findCycles kX1_findCycles 2 1 := ⟨Or.inl (ev_in 359 (by decide +kernel) (by decide +kernel)), mo_X1_findCycles, ev_in 361 (by decide +kernel) (by decide +kernel), List.mem_of_getElem? (i := 6) (by decide +kernel), ev_in 6 (by decide +kernel) (by decide +kernel), TX1, 8, rfl⟩
set_option maxRecDepth 100000 in
theorem vs_RX1_98 : ev_VS RX1 98 yX1_cycleFrom kX1_cycleFrom 3 1 := ⟨Or.inl (ev_in 363 (by decide +kernel) (by decide +kernel)), mo_X1_cycleFrom, ev_in 365 (by decide +kernel) (by decide +kernel), List.mem_of_getElem? (i := 7) (by decide +kernel), ev_in 7 (by decide +kernel) (by decide +kernel), TX1, 8, rfl⟩
set_option maxRecDepth 100000 in
theorem vs_RX1_102 : ev_VS RX1 102 yX1_winnerOn kX1_winnerOn 2 1 := ⟨Or.inl (ev_in 367 (by decide +kernel) (by decide +kernel)), mo_X1_winnerOn, ev_in 368 (by decide +kernel) (by decide +kernel), List.mem_of_getElem? (i := 369) (by decide +kernel), ev_in 369 (by decide +kernel) (by decide +kernel), TX1, 8, rfl⟩
set_option maxRecDepth 100000 in
theorem vs_RX1_105 : ev_VS RX1 105 yX3_entry kX3_entry 3 3 := ⟨Or.inl (ev_in 371 (by decide +kernel) (by decide +kernel)), mo_X3_entry, ev_in 351 (by decide +kernel) (by decide +kernel), List.mem_of_getElem? (i := 352) (by decide +kernel), ev_in 352 (by decide +kernel) (by decide +kernel), TX3, 3, rfl⟩
set_option maxRecDepth 100000 in
theorem vs_RX1_72 : ev_VS RX1 72 yX1_giveValues kX1_giveValues 2 1 := ⟨Or.inl (ev_in 372 (by decide +kernel) (by decide +kernel)), mo_X1_giveValues, ev_in 374 (by decide +kernel) (by decide +kernel), List.mem_of_getElem? (i := 8) (by decide +kernel), ev_in 8 (by decide +kernel) (by decide +kernel), TX1, 8, rfl⟩
set_option maxRecDepth 100000 in
theorem vs_RX1_109 : ev_VS RX1 109 yX1_giveValue kX1_giveValue 3 1 := ⟨Or.inl (ev_in 376 (by decide +kernel) (by decide +kernel)), mo_X1_giveValue, ev_in 378 (by decide +kernel) (by decide +kernel), List.mem_of_getElem? (i := 9) (by decide +kernel), ev_in 9 (by decide +kernel) (by decide +kernel), TX1, 8, rfl⟩
set_option maxRecDepth 100000 in
theorem ss_RX1_113 : ev_SS RX1 113 yX7_isCustom kX7_isCustom 1 := ⟨Or.inr ⟨"StyleCascade", List.mem_of_getElem? (i := 380) (by decide +kernel)⟩, mo_X7_isCustom, ev_in 381 (by decide +kernel) (by decide +kernel)⟩
set_option maxRecDepth 100000 in
theorem vs_RX1_117 : ev_VS RX1 117 yX1_cycleOn kX1_cycleOn 2 1 := ⟨Or.inl (ev_in 383 (by decide +kernel) (by decide +kernel)), mo_X1_cycleOn, ev_in 384 (by decide +kernel) (by decide +kernel), List.mem_of_getElem? (i := 385) (by decide +kernel), ev_in 385 (by decide +kernel) (by decide +kernel), TX1, 8, rfl⟩
set_option maxRecDepth 100000 in
theorem vs_RX1_120 : ev_VS RX1 120 yX1_given kX1_given 3 1 := ⟨Or.inl (ev_in 387 (by decide +kernel) (by decide +kernel)), mo_X1_given, ev_in 389 (by decide +kernel) (by decide +kernel), List.mem_of_getElem? (i := 10) (by decide +kernel), ev_in 10 (by decide +kernel) (by decide +kernel), TX1, 8, rfl⟩
set_option maxRecDepth 100000 in
theorem vs_RX1_127 : ev_VS RX1 127 yX1_valueOn kX1_valueOn 2 1 := ⟨Or.inl (ev_in 391 (by decide +kernel) (by decide +kernel)), mo_X1_valueOn, ev_in 392 (by decide +kernel) (by decide +kernel), List.mem_of_getElem? (i := 393) (by decide +kernel), ev_in 393 (by decide +kernel) (by decide +kernel), TX1, 8, rfl⟩
set_option maxRecDepth 100000 in
theorem ss_RX1_133 : ev_SS RX1 133 yX7_foundOr kX7_foundOr 2 := ⟨Or.inr ⟨"StyleCascade", List.mem_of_getElem? (i := 395) (by decide +kernel)⟩, mo_X7_foundOr, ev_in 396 (by decide +kernel) (by decide +kernel)⟩
set_option maxRecDepth 100000 in
theorem vs_RX1_123 : ev_VS RX1 123 yX6_parentOf kX6_parentOf 1 6 := ⟨Or.inl (ev_in 398 (by decide +kernel) (by decide +kernel)), mo_X6_parentOf, ev_in 279 (by decide +kernel) (by decide +kernel), List.mem_of_getElem? (i := 280) (by decide +kernel), ev_in 280 (by decide +kernel) (by decide +kernel), TX6, 4, rfl⟩
set_option maxRecDepth 100000 in
theorem vs_RX1_130 : ev_VS RX1 130 yX1_sourceOn kX1_sourceOn 2 1 := ⟨Or.inl (ev_in 399 (by decide +kernel) (by decide +kernel)), mo_X1_sourceOn, ev_in 400 (by decide +kernel) (by decide +kernel), List.mem_of_getElem? (i := 401) (by decide +kernel), ev_in 401 (by decide +kernel) (by decide +kernel), TX1, 8, rfl⟩
set_option maxRecDepth 100000 in
theorem vs_RX7_96 : ev_VS RX7 96 yX1_rulesOn kX1_rulesOn 1 1 := ⟨Or.inl (ev_in 403 (by decide +kernel) (by decide +kernel)), mo_X1_rulesOn, ev_in 404 (by decide +kernel) (by decide +kernel), List.mem_of_getElem? (i := 405) (by decide +kernel), ev_in 405 (by decide +kernel) (by decide +kernel), TX1, 8, rfl⟩
set_option maxRecDepth 100000 in
theorem vs_RX1_136 : ev_VS RX1 136 yX1_isMatch kX1_isMatch 2 1 := ⟨Or.inl (ev_in 407 (by decide +kernel) (by decide +kernel)), mo_X1_isMatch, ev_in 408 (by decide +kernel) (by decide +kernel), List.mem_of_getElem? (i := 409) (by decide +kernel), ev_in 409 (by decide +kernel) (by decide +kernel), TX1, 8, rfl⟩
set_option maxRecDepth 100000 in
theorem vs_RX7_99 : ev_VS RX7 99 yX1_cyclicOn kX1_cyclicOn 1 1 := ⟨Or.inl (ev_in 411 (by decide +kernel) (by decide +kernel)), mo_X1_cyclicOn, ev_in 412 (by decide +kernel) (by decide +kernel), List.mem_of_getElem? (i := 413) (by decide +kernel), ev_in 413 (by decide +kernel) (by decide +kernel), TX1, 8, rfl⟩
set_option maxRecDepth 100000 in
theorem vs_RL_27 : ev_VS RL 27 yX7_count kX7_count 1 7 := ⟨Or.inl (ev_in 415 (by decide +kernel) (by decide +kernel)), mo_X7_count, ev_in 416 (by decide +kernel) (by decide +kernel), List.mem_of_getElem? (i := 417) (by decide +kernel), ev_in 417 (by decide +kernel) (by decide +kernel), TX7, 4, rfl⟩
set_option maxRecDepth 100000 in
theorem vs_RX7_102 : ev_VS RX7 102 yX3_size kX3_size 0 3 := ⟨Or.inl (ev_in 419 (by decide +kernel) (by decide +kernel)), mo_X3_size, ev_in 292 (by decide +kernel) (by decide +kernel), List.mem_of_getElem? (i := 293) (by decide +kernel), ev_in 293 (by decide +kernel) (by decide +kernel), TX3, 3, rfl⟩
set_option maxRecDepth 100000 in
theorem vs_RX7_103 : ev_VS RX7 103 yX3_allDeclarations kX3_allDeclarations 0 3 := ⟨Or.inl (ev_in 420 (by decide +kernel) (by decide +kernel)), mo_X3_allDeclarations, ev_in 421 (by decide +kernel) (by decide +kernel), List.mem_of_getElem? (i := 422) (by decide +kernel), ev_in 422 (by decide +kernel) (by decide +kernel), TX3, 3, rfl⟩
set_option maxRecDepth 100000 in
theorem vs_RX3_52 : ev_VS RX3 52 yX3_declarationsOf kX3_declarationsOf 1 3 := ⟨Or.inl (ev_in 424 (by decide +kernel) (by decide +kernel)), mo_X3_declarationsOf, ev_in 425 (by decide +kernel) (by decide +kernel), List.mem_of_getElem? (i := 426) (by decide +kernel), ev_in 426 (by decide +kernel) (by decide +kernel), TX3, 3, rfl⟩
set_option maxRecDepth 100000 in
theorem vs_RX3_48 : ev_VS RX3 48 yX3_declares kX3_declares 2 3 := ⟨Or.inl (ev_in 428 (by decide +kernel) (by decide +kernel)), mo_X3_declares, ev_in 347 (by decide +kernel) (by decide +kernel), List.mem_of_getElem? (i := 348) (by decide +kernel), ev_in 348 (by decide +kernel) (by decide +kernel), TX3, 3, rfl⟩
set_option maxRecDepth 100000 in
theorem vs_RX7_106 : ev_VS RX7 106 yX3_allReferences kX3_allReferences 0 3 := ⟨Or.inl (ev_in 429 (by decide +kernel) (by decide +kernel)), mo_X3_allReferences, ev_in 430 (by decide +kernel) (by decide +kernel), List.mem_of_getElem? (i := 431) (by decide +kernel), ev_in 431 (by decide +kernel) (by decide +kernel), TX3, 3, rfl⟩
set_option maxRecDepth 100000 in
theorem vs_RX3_55 : ev_VS RX3 55 yX3_refers kX3_refers 2 3 := ⟨Or.inl (ev_in 433 (by decide +kernel) (by decide +kernel)), mo_X3_refers, ev_in 434 (by decide +kernel) (by decide +kernel), List.mem_of_getElem? (i := 435) (by decide +kernel), ev_in 435 (by decide +kernel) (by decide +kernel), TX3, 3, rfl⟩
set_option maxRecDepth 100000 in
theorem vs_RX7_109 : ev_VS RX7 109 yX1_allCyclic kX1_allCyclic 0 1 := ⟨Or.inl (ev_in 437 (by decide +kernel) (by decide +kernel)), mo_X1_allCyclic, ev_in 438 (by decide +kernel) (by decide +kernel), List.mem_of_getElem? (i := 439) (by decide +kernel), ev_in 439 (by decide +kernel) (by decide +kernel), TX1, 8, rfl⟩
set_option maxRecDepth 100000 in
theorem vs_RX1_139 : ev_VS RX1 139 yX1_cyclicOn kX1_cyclicOn 1 1 := ⟨Or.inl (ev_in 441 (by decide +kernel) (by decide +kernel)), mo_X1_cyclicOn, ev_in 412 (by decide +kernel) (by decide +kernel), List.mem_of_getElem? (i := 413) (by decide +kernel), ev_in 413 (by decide +kernel) (by decide +kernel), TX1, 8, rfl⟩
set_option maxRecDepth 100000 in
theorem vs_RX7_112 : ev_VS RX7 112 yX0_size kX0_size 0 0 := ⟨Or.inl (ev_in 442 (by decide +kernel) (by decide +kernel)), mo_X0_size, ev_in 443 (by decide +kernel) (by decide +kernel), List.mem_of_getElem? (i := 444) (by decide +kernel), ev_in 444 (by decide +kernel) (by decide +kernel), TX0, 3, rfl⟩
set_option maxRecDepth 100000 in
theorem vs_RX7_113 : ev_VS RX7 113 yX5_length kX5_length 0 5 := ⟨Or.inl (ev_in 446 (by decide +kernel) (by decide +kernel)), mo_X5_length, ev_in 447 (by decide +kernel) (by decide +kernel), List.mem_of_getElem? (i := 448) (by decide +kernel), ev_in 448 (by decide +kernel) (by decide +kernel), TX5, 6, rfl⟩
set_option maxRecDepth 100000 in
theorem vs_RL_46 : ev_VS RL 46 yX7_rule kX7_rule 6 7 := ⟨Or.inl (ev_in 450 (by decide +kernel) (by decide +kernel)), mo_X7_rule, ev_in 451 (by decide +kernel) (by decide +kernel), List.mem_of_getElem? (i := 452) (by decide +kernel), ev_in 452 (by decide +kernel) (by decide +kernel), TX7, 4, rfl⟩
set_option maxRecDepth 100000 in
theorem vs_RX7_123 : ev_VS RX7 123 yX3_append kX3_append 6 3 := ⟨Or.inl (ev_in 454 (by decide +kernel) (by decide +kernel)), mo_X3_append, ev_in 455 (by decide +kernel) (by decide +kernel), List.mem_of_getElem? (i := 456) (by decide +kernel), ev_in 456 (by decide +kernel) (by decide +kernel), TX3, 3, rfl⟩
set_option maxRecDepth 100000 in
theorem vs_RX3_58 : ev_VS RX3 58 yX2_put kX2_put 2 2 := ⟨Or.inl (ev_in 458 (by decide +kernel) (by decide +kernel)), mo_X2_put, ev_in 58 (by decide +kernel) (by decide +kernel), List.mem_of_getElem? (i := 59) (by decide +kernel), ev_in 59 (by decide +kernel) (by decide +kernel), TX2, 1, rfl⟩
set_option maxRecDepth 100000 in
theorem vs_RX3_62 : ev_VS RX3 62 yX2_putAll kX2_putAll 3 2 := ⟨Or.inl (ev_in 459 (by decide +kernel) (by decide +kernel)), mo_X2_putAll, ev_in 460 (by decide +kernel) (by decide +kernel), List.mem_of_getElem? (i := 461) (by decide +kernel), ev_in 461 (by decide +kernel) (by decide +kernel), TX2, 1, rfl⟩
set_option maxRecDepth 100000 in
theorem vs_RX2_21 : ev_VS RX2 21 yX2_put kX2_put 2 2 := ⟨Or.inl (ev_in 463 (by decide +kernel) (by decide +kernel)), mo_X2_put, ev_in 58 (by decide +kernel) (by decide +kernel), List.mem_of_getElem? (i := 59) (by decide +kernel), ev_in 59 (by decide +kernel) (by decide +kernel), TX2, 1, rfl⟩
set_option maxRecDepth 100000 in
theorem vs_RL_43 : ev_VS RL 43 yX7_drop kX7_drop 1 7 := ⟨Or.inl (ev_in 464 (by decide +kernel) (by decide +kernel)), mo_X7_drop, ev_in 465 (by decide +kernel) (by decide +kernel), List.mem_of_getElem? (i := 466) (by decide +kernel), ev_in 466 (by decide +kernel) (by decide +kernel), TX7, 4, rfl⟩
set_option maxRecDepth 100000 in
theorem vs_RX7_126 : ev_VS RX7 126 yX3_has kX3_has 1 3 := ⟨Or.inl (ev_in 468 (by decide +kernel) (by decide +kernel)), mo_X3_has, ev_in 469 (by decide +kernel) (by decide +kernel), List.mem_of_getElem? (i := 470) (by decide +kernel), ev_in 470 (by decide +kernel) (by decide +kernel), TX3, 3, rfl⟩
set_option maxRecDepth 100000 in
theorem ss_RX3_27 : ev_SS RX3 27 yX7_isWithin kX7_isWithin 3 := ⟨Or.inr ⟨"StyleCascade", List.mem_of_getElem? (i := 472) (by decide +kernel)⟩, mo_X7_isWithin, ev_in 203 (by decide +kernel) (by decide +kernel)⟩
set_option maxRecDepth 100000 in
theorem vs_RX7_127 : ev_VS RX7 127 yX3_takeOut kX3_takeOut 1 3 := ⟨Or.inl (ev_in 473 (by decide +kernel) (by decide +kernel)), mo_X3_takeOut, ev_in 474 (by decide +kernel) (by decide +kernel), List.mem_of_getElem? (i := 475) (by decide +kernel), ev_in 475 (by decide +kernel) (by decide +kernel), TX3, 3, rfl⟩
set_option maxRecDepth 100000 in
theorem vs_RL_50 : ev_VS RL 50 yX7_declare kX7_declare 3 7 := ⟨Or.inl (ev_in 477 (by decide +kernel) (by decide +kernel)), mo_X7_declare, ev_in 478 (by decide +kernel) (by decide +kernel), List.mem_of_getElem? (i := 479) (by decide +kernel), ev_in 479 (by decide +kernel) (by decide +kernel), TX7, 4, rfl⟩
set_option maxRecDepth 100000 in
theorem ss_RX7_130 : ev_SS RX7 130 yX7_isProperty kX7_isProperty 1 := ⟨Or.inl (ev_in 481 (by decide +kernel) (by decide +kernel)), mo_X7_isProperty, ev_in 482 (by decide +kernel) (by decide +kernel)⟩
set_option maxRecDepth 100000 in
theorem vs_RX7_133 : ev_VS RX7 133 yX3_setDeclaration kX3_setDeclaration 5 3 := ⟨Or.inl (ev_in 484 (by decide +kernel) (by decide +kernel)), mo_X3_setDeclaration, ev_in 485 (by decide +kernel) (by decide +kernel), List.mem_of_getElem? (i := 486) (by decide +kernel), ev_in 486 (by decide +kernel) (by decide +kernel), TX3, 3, rfl⟩
set_option maxRecDepth 100000 in
theorem vs_RX7_137 : ev_VS RX7 137 yX3_declarationsOf kX3_declarationsOf 1 3 := ⟨Or.inl (ev_in 488 (by decide +kernel) (by decide +kernel)), mo_X3_declarationsOf, ev_in 425 (by decide +kernel) (by decide +kernel), List.mem_of_getElem? (i := 426) (by decide +kernel), ev_in 426 (by decide +kernel) (by decide +kernel), TX3, 3, rfl⟩
set_option maxRecDepth 100000 in
theorem vs_RL_71 : ev_VS RL 71 yX7_refer kX7_refer 4 7 := ⟨Or.inl (ev_in 489 (by decide +kernel) (by decide +kernel)), mo_X7_refer, ev_in 490 (by decide +kernel) (by decide +kernel), List.mem_of_getElem? (i := 491) (by decide +kernel), ev_in 491 (by decide +kernel) (by decide +kernel), TX7, 4, rfl⟩
set_option maxRecDepth 100000 in
theorem ss_RX7_140 : ev_SS RX7 140 yX7_isCustom kX7_isCustom 1 := ⟨Or.inl (ev_in 493 (by decide +kernel) (by decide +kernel)), mo_X7_isCustom, ev_in 381 (by decide +kernel) (by decide +kernel)⟩
set_option maxRecDepth 100000 in
theorem ss_RL_63 : ev_SS RL 63 yL_cell kL_cell 2 := ⟨Or.inl (ev_in 494 (by decide +kernel) (by decide +kernel)), mo_L_cell, ev_in 495 (by decide +kernel) (by decide +kernel)⟩
set_option maxRecDepth 100000 in
theorem kc_RL_7 : Cond.constant RL 7 (15485959 : Int32) ∈ ev_T := ev_in 497 (by decide +kernel) (by decide +kernel)
set_option maxRecDepth 100000 in
theorem kc_RL_8 : Cond.constant RL 8 (2147483647 : Int32) ∈ ev_T := ev_in 498 (by decide +kernel) (by decide +kernel)
set_option maxRecDepth 100000 in
theorem ss_RL_34 : ev_SS RL 34 yL_comes kL_comes 3 := ⟨Or.inl (ev_in 499 (by decide +kernel) (by decide +kernel)), mo_L_comes, ev_in 500 (by decide +kernel) (by decide +kernel)⟩
set_option maxRecDepth 100000 in
theorem vs_RL_9 : ev_VS RL 9 yX7_from kX7_from 2 7 := ⟨Or.inl (ev_in 502 (by decide +kernel) (by decide +kernel)), mo_X7_from, ev_in 503 (by decide +kernel) (by decide +kernel), List.mem_of_getElem? (i := 504) (by decide +kernel), ev_in 504 (by decide +kernel) (by decide +kernel), TX7, 4, rfl⟩
set_option maxRecDepth 100000 in
theorem vs_RX7_178 : ev_VS RX7 178 yX1_sourceOn kX1_sourceOn 2 1 := ⟨Or.inl (ev_in 506 (by decide +kernel) (by decide +kernel)), mo_X1_sourceOn, ev_in 400 (by decide +kernel) (by decide +kernel), List.mem_of_getElem? (i := 401) (by decide +kernel), ev_in 401 (by decide +kernel) (by decide +kernel), TX1, 8, rfl⟩
set_option maxRecDepth 100000 in
theorem ss_RX7_159 : ev_SS RX7 159 yX7_foundOr kX7_foundOr 2 := ⟨Or.inl (ev_in 507 (by decide +kernel) (by decide +kernel)), mo_X7_foundOr, ev_in 396 (by decide +kernel) (by decide +kernel)⟩
set_option maxRecDepth 100000 in
theorem vs_RL_15 : ev_VS RL 15 yX7_value kX7_value 2 7 := ⟨Or.inl (ev_in 508 (by decide +kernel) (by decide +kernel)), mo_X7_value, ev_in 509 (by decide +kernel) (by decide +kernel), List.mem_of_getElem? (i := 510) (by decide +kernel), ev_in 510 (by decide +kernel) (by decide +kernel), TX7, 4, rfl⟩
set_option maxRecDepth 100000 in
theorem vs_RX7_165 : ev_VS RX7 165 yX1_valueOn kX1_valueOn 2 1 := ⟨Or.inl (ev_in 512 (by decide +kernel) (by decide +kernel)), mo_X1_valueOn, ev_in 392 (by decide +kernel) (by decide +kernel), List.mem_of_getElem? (i := 393) (by decide +kernel), ev_in 393 (by decide +kernel) (by decide +kernel), TX1, 8, rfl⟩
set_option maxRecDepth 100000 in
theorem vs_RL_18 : ev_VS RL 18 yX7_winner kX7_winner 2 7 := ⟨Or.inl (ev_in 513 (by decide +kernel) (by decide +kernel)), mo_X7_winner, ev_in 514 (by decide +kernel) (by decide +kernel), List.mem_of_getElem? (i := 515) (by decide +kernel), ev_in 515 (by decide +kernel) (by decide +kernel), TX7, 4, rfl⟩
set_option maxRecDepth 100000 in
theorem vs_RX7_168 : ev_VS RX7 168 yX1_winnerOn kX1_winnerOn 2 1 := ⟨Or.inl (ev_in 517 (by decide +kernel) (by decide +kernel)), mo_X1_winnerOn, ev_in 368 (by decide +kernel) (by decide +kernel), List.mem_of_getElem? (i := 369) (by decide +kernel), ev_in 369 (by decide +kernel) (by decide +kernel), TX1, 8, rfl⟩
set_option maxRecDepth 100000 in
theorem vs_RL_21 : ev_VS RL 21 yX7_cycle kX7_cycle 2 7 := ⟨Or.inl (ev_in 518 (by decide +kernel) (by decide +kernel)), mo_X7_cycle, ev_in 519 (by decide +kernel) (by decide +kernel), List.mem_of_getElem? (i := 520) (by decide +kernel), ev_in 520 (by decide +kernel) (by decide +kernel), TX7, 4, rfl⟩
set_option maxRecDepth 100000 in
theorem vs_RX7_181 : ev_VS RX7 181 yX1_cycleOn kX1_cycleOn 2 1 := ⟨Or.inl (ev_in 522 (by decide +kernel) (by decide +kernel)), mo_X1_cycleOn, ev_in 384 (by decide +kernel) (by decide +kernel), List.mem_of_getElem? (i := 385) (by decide +kernel), ev_in 385 (by decide +kernel) (by decide +kernel), TX1, 8, rfl⟩
set_option maxRecDepth 100000 in
theorem vs_RL_24 : ev_VS RL 24 yX7_matches kX7_matches 2 7 := ⟨Or.inl (ev_in 523 (by decide +kernel) (by decide +kernel)), mo_X7_matches, ev_in 524 (by decide +kernel) (by decide +kernel), List.mem_of_getElem? (i := 525) (by decide +kernel), ev_in 525 (by decide +kernel) (by decide +kernel), TX7, 4, rfl⟩
set_option maxRecDepth 100000 in
theorem vs_RX7_162 : ev_VS RX7 162 yX1_isMatch kX1_isMatch 2 1 := ⟨Or.inl (ev_in 527 (by decide +kernel) (by decide +kernel)), mo_X1_isMatch, ev_in 408 (by decide +kernel) (by decide +kernel), List.mem_of_getElem? (i := 409) (by decide +kernel), ev_in 409 (by decide +kernel) (by decide +kernel), TX1, 8, rfl⟩
set_option maxRecDepth 100000 in
theorem ss_RL_59 : ev_SS RL 59 yL_holds kL_holds 1 := ⟨Or.inl (ev_in 528 (by decide +kernel) (by decide +kernel)), mo_L_holds, ev_in 529 (by decide +kernel) (by decide +kernel)⟩
set_option maxRecDepth 100000 in
theorem vs_RL_40 : ev_VS RL 40 yX7_ruleOf kX7_ruleOf 2 7 := ⟨Or.inl (ev_in 531 (by decide +kernel) (by decide +kernel)), mo_X7_ruleOf, ev_in 532 (by decide +kernel) (by decide +kernel), List.mem_of_getElem? (i := 533) (by decide +kernel), ev_in 533 (by decide +kernel) (by decide +kernel), TX7, 4, rfl⟩
set_option maxRecDepth 100000 in
theorem vs_RX7_147 : ev_VS RX7 147 yX3_part kX3_part 2 3 := ⟨Or.inl (ev_in 535 (by decide +kernel) (by decide +kernel)), mo_X3_part, ev_in 308 (by decide +kernel) (by decide +kernel), List.mem_of_getElem? (i := 309) (by decide +kernel), ev_in 309 (by decide +kernel) (by decide +kernel), TX3, 3, rfl⟩
set_option maxRecDepth 100000 in
theorem vs_RX7_150 : ev_VS RX7 150 yX3_specificity kX3_specificity 1 3 := ⟨Or.inl (ev_in 536 (by decide +kernel) (by decide +kernel)), mo_X3_specificity, ev_in 324 (by decide +kernel) (by decide +kernel), List.mem_of_getElem? (i := 325) (by decide +kernel), ev_in 325 (by decide +kernel) (by decide +kernel), TX3, 3, rfl⟩
set_option maxRecDepth 100000 in
theorem vs_RX7_153 : ev_VS RX7 153 yX1_elementsOf kX1_elementsOf 1 1 := ⟨Or.inl (ev_in 537 (by decide +kernel) (by decide +kernel)), mo_X1_elementsOf, ev_in 538 (by decide +kernel) (by decide +kernel), List.mem_of_getElem? (i := 539) (by decide +kernel), ev_in 539 (by decide +kernel) (by decide +kernel), TX1, 8, rfl⟩
set_option maxRecDepth 100000 in
theorem ss_RL_78 : ev_SS RL 78 yL_wins kL_wins 2 := ⟨Or.inl (ev_in 541 (by decide +kernel) (by decide +kernel)), mo_L_wins, ev_in 542 (by decide +kernel) (by decide +kernel)⟩
set_option maxRecDepth 100000 in
theorem vs_RL_54 : ev_VS RL 54 yX7_undo kX7_undo 0 7 := ⟨Or.inl (ev_in 544 (by decide +kernel) (by decide +kernel)), mo_X7_undo, ev_in 545 (by decide +kernel) (by decide +kernel), List.mem_of_getElem? (i := 546) (by decide +kernel), ev_in 546 (by decide +kernel) (by decide +kernel), TX7, 4, rfl⟩
set_option maxRecDepth 100000 in
theorem vs_RX7_116 : ev_VS RX7 116 yX0_restore kX0_restore 1 0 := ⟨Or.inl (ev_in 548 (by decide +kernel) (by decide +kernel)), mo_X0_restore, ev_in 549 (by decide +kernel) (by decide +kernel), List.mem_of_getElem? (i := 550) (by decide +kernel), ev_in 550 (by decide +kernel) (by decide +kernel), TX0, 3, rfl⟩
set_option maxRecDepth 100000 in
theorem kc_RL_70 : Cond.constant RL 70 (32768 : Int32) ∈ ev_T := ev_in 552 (by decide +kernel) (by decide +kernel)
set_option maxRecDepth 100000 in
theorem ar_int : Cond.arrayClass .int ∈ ev_T := ev_in 56 (by decide +kernel) (by decide +kernel)
set_option maxRecDepth 100000 in
theorem ob_ok : Cond.instanceMethod Lib.objectInit ∈ ev_T ∧ Cond.code Lib.objectInit ⟨#[0xb1]⟩ 1 none ∈ ev_T := ⟨ev_in 29 (by decide +kernel) (by decide +kernel), ev_in 30 (by decide +kernel) (by decide +kernel)⟩
