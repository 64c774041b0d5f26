/-! methods, and what a call of each needs -/
abbrev mG_add : mM := (⟨"GoalOrder", "add", "(III)I"⟩, prog_1_method_6_code, 6, (some .int))
theorem fG_add : jm_MF mG_add 3 := ⟨jm_in2 (List.mem_of_getElem? (i := 2) rfl) rfl, jm_in1 (List.mem_of_getElem? (i := 1) rfl) rfl, ⟨by decide, by decide, by decide +kernel⟩, by decide⟩
theorem vG_add : jm_MV mG_add := ⟨jm_in2 (List.mem_of_getElem? (i := 0) rfl) rfl, jm_in2 (List.mem_of_getElem? (i := 1) rfl) rfl⟩
abbrev mG_clear : mM := (⟨"GoalOrder", "clear", "()V"⟩, prog_1_method_4_code, 1, none)
theorem fG_clear : jm_MF mG_clear 0 := ⟨jm_in1 (List.mem_of_getElem? (i := 230) rfl) rfl, jm_in1 (List.mem_of_getElem? (i := 1) rfl) rfl, ⟨by decide, by decide, by decide +kernel⟩, by decide⟩
theorem vG_clear : jm_MV mG_clear := ⟨jm_in1 (List.mem_of_getElem? (i := 228) rfl) rfl, jm_in1 (List.mem_of_getElem? (i := 229) rfl) rfl⟩
abbrev mG_compared : mM := (⟨"GoalOrder", "compared", "(II)Z"⟩, prog_1_method_13_code, 4, (some .boolean))
theorem fG_compared : jm_MF mG_compared 2 := ⟨jm_in2 (List.mem_of_getElem? (i := 186) rfl) rfl, jm_in1 (List.mem_of_getElem? (i := 1) rfl) rfl, ⟨by decide, by decide, by decide +kernel⟩, by decide⟩
theorem vG_compared : jm_MV mG_compared := ⟨jm_in2 (List.mem_of_getElem? (i := 184) rfl) rfl, jm_in2 (List.mem_of_getElem? (i := 185) rfl) rfl⟩
abbrev mG_fits : mM := (⟨"GoalOrder", "fits", "(III)Z"⟩, prog_1_method_17_code, 4, (some .boolean))
theorem fG_fits : jm_MF mG_fits 3 := ⟨jm_in2 (List.mem_of_getElem? (i := 22) rfl) rfl, jm_in1 (List.mem_of_getElem? (i := 1) rfl) rfl, ⟨by decide, by decide, by decide +kernel⟩, by decide⟩
theorem vG_fits : jm_MV mG_fits := ⟨jm_in2 (List.mem_of_getElem? (i := 21) rfl) rfl, jm_inS (q := (⟨"GoalOrder", "fits", "(III)Z"⟩, 9)) (by decide +kernel)⟩
abbrev mG_forgetOrdering : mM := (⟨"GoalOrder", "forgetOrdering", "()V"⟩, prog_1_method_16_code, 1, none)
theorem fG_forgetOrdering : jm_MF mG_forgetOrdering 0 := ⟨jm_in1 (List.mem_of_getElem? (i := 226) rfl) rfl, jm_in1 (List.mem_of_getElem? (i := 1) rfl) rfl, ⟨by decide, by decide, by decide +kernel⟩, by decide⟩
theorem vG_forgetOrdering : jm_MV mG_forgetOrdering := ⟨jm_in1 (List.mem_of_getElem? (i := 225) rfl) rfl, jm_inS (q := (⟨"GoalOrder", "forgetOrdering", "()V"⟩, 9)) (by decide +kernel)⟩
abbrev mG_given : mM := (⟨"GoalOrder", "given", "(IZ)Z"⟩, prog_1_method_7_code, 3, (some .boolean))
theorem fG_given : jm_MF mG_given 2 := ⟨jm_in2 (List.mem_of_getElem? (i := 52) rfl) rfl, jm_in1 (List.mem_of_getElem? (i := 1) rfl) rfl, ⟨by decide, by decide, by decide +kernel⟩, by decide⟩
theorem vG_given : jm_MV mG_given := ⟨jm_in2 (List.mem_of_getElem? (i := 50) rfl) rfl, jm_in2 (List.mem_of_getElem? (i := 51) rfl) rfl⟩
abbrev mG_ground : mM := (⟨"GoalOrder", "ground", "(II)Z"⟩, prog_1_method_14_code, 4, (some .boolean))
theorem fG_ground : jm_MF mG_ground 2 := ⟨jm_in2 (List.mem_of_getElem? (i := 201) rfl) rfl, jm_in1 (List.mem_of_getElem? (i := 1) rfl) rfl, ⟨by decide, by decide, by decide +kernel⟩, by decide⟩
theorem vG_ground : jm_MV mG_ground := ⟨jm_in2 (List.mem_of_getElem? (i := 199) rfl) rfl, jm_in2 (List.mem_of_getElem? (i := 200) rfl) rfl⟩
abbrev mG_hasPlace : mM := (⟨"GoalOrder", "hasPlace", "(II)Z"⟩, prog_1_method_22_code, 2, (some .boolean))
theorem fG_hasPlace : jm_MF mG_hasPlace 2 := ⟨jm_in2 (List.mem_of_getElem? (i := 160) rfl) rfl, jm_in1 (List.mem_of_getElem? (i := 1) rfl) rfl, ⟨by decide, by decide, by decide +kernel⟩, by decide⟩
theorem sG_hasPlace : Cond.static mG_hasPlace.1 ∈ jm_tb := jm_in2 (List.mem_of_getElem? (i := 159) rfl) rfl
abbrev mG_holds : mM := (⟨"GoalOrder", "holds", "(JI)Z"⟩, prog_1_method_20_code, 3, (some .boolean))
theorem fG_holds : jm_MF mG_holds 2 := ⟨jm_in2 (List.mem_of_getElem? (i := 55) rfl) rfl, jm_in1 (List.mem_of_getElem? (i := 1) rfl) rfl, ⟨by decide, by decide, by decide +kernel⟩, by decide⟩
theorem sG_holds : Cond.static mG_holds.1 ∈ jm_tb := jm_in2 (List.mem_of_getElem? (i := 54) rfl) rfl
abbrev mG_init : mM := (⟨"GoalOrder", "<init>", "()V"⟩, prog_1_method_1_code, 1, none)
theorem fG_init : jm_MF mG_init 0 := ⟨jm_in1 (List.mem_of_getElem? (i := 11) rfl) rfl, jm_in1 (List.mem_of_getElem? (i := 1) rfl) rfl, ⟨by decide, by decide, by decide +kernel⟩, by decide⟩
theorem vG_init : Cond.instanceMethod mG_init.1 ∈ jm_tb := jm_in1 (List.mem_of_getElem? (i := 10) rfl) rfl
abbrev mG_isVariable : mM := (⟨"GoalOrder", "isVariable", "(I)Z"⟩, prog_1_method_19_code, 1, (some .boolean))
theorem fG_isVariable : jm_MF mG_isVariable 1 := ⟨jm_in1 (List.mem_of_getElem? (i := 238) rfl) rfl, jm_in1 (List.mem_of_getElem? (i := 1) rfl) rfl, ⟨by decide, by decide, by decide +kernel⟩, by decide⟩
theorem sG_isVariable : Cond.static mG_isVariable.1 ∈ jm_tb := jm_in1 (List.mem_of_getElem? (i := 237) rfl) rfl
abbrev mG_leastOf : mM := (⟨"GoalOrder", "leastOf", "(J)I"⟩, prog_1_method_21_code, 3, (some .int))
theorem fG_leastOf : jm_MF mG_leastOf 1 := ⟨jm_in2 (List.mem_of_getElem? (i := 164) rfl) rfl, jm_in1 (List.mem_of_getElem? (i := 1) rfl) rfl, ⟨by decide, by decide, by decide +kernel⟩, by decide⟩
theorem sG_leastOf : Cond.static mG_leastOf.1 ∈ jm_tb := jm_in2 (List.mem_of_getElem? (i := 163) rfl) rfl
abbrev mG_madeAt : mM := (⟨"GoalOrder", "madeAt", "(LGoalOrder$Node;)I"⟩, prog_1_method_18_code, 2, (some .int))
theorem fG_madeAt : jm_MF mG_madeAt 1 := ⟨jm_in2 (List.mem_of_getElem? (i := 190) rfl) rfl, jm_in1 (List.mem_of_getElem? (i := 1) rfl) rfl, ⟨by decide, by decide, by decide +kernel⟩, by decide⟩
theorem vG_madeAt : jm_MV mG_madeAt := ⟨jm_in2 (List.mem_of_getElem? (i := 189) rfl) rfl, jm_inS (q := (⟨"GoalOrder", "madeAt", "(LGoalOrder$Node;)I"⟩, 9)) (by decide +kernel)⟩
abbrev mG_mode : mM := (⟨"GoalOrder", "mode", "(II)I"⟩, prog_1_method_3_code, 4, (some .int))
theorem fG_mode : jm_MF mG_mode 2 := ⟨jm_in1 (List.mem_of_getElem? (i := 214) rfl) rfl, jm_in1 (List.mem_of_getElem? (i := 1) rfl) rfl, ⟨by decide, by decide, by decide +kernel⟩, by decide⟩
theorem vG_mode : jm_MV mG_mode := ⟨jm_in1 (List.mem_of_getElem? (i := 212) rfl) rfl, jm_in1 (List.mem_of_getElem? (i := 213) rfl) rfl⟩
abbrev mG_node : mM := (⟨"GoalOrder", "node", "(II)I"⟩, prog_1_method_12_code, 4, (some .int))
theorem fG_node : jm_MF mG_node 2 := ⟨jm_in2 (List.mem_of_getElem? (i := 181) rfl) rfl, jm_in1 (List.mem_of_getElem? (i := 1) rfl) rfl, ⟨by decide, by decide, by decide +kernel⟩, by decide⟩
theorem vG_node : jm_MV mG_node := ⟨jm_in2 (List.mem_of_getElem? (i := 179) rfl) rfl, jm_in2 (List.mem_of_getElem? (i := 180) rfl) rfl⟩
abbrev mG_order : mM := (⟨"GoalOrder", "order", "()I"⟩, prog_1_method_9_code, 5, (some .int))
theorem fG_order : jm_MF mG_order 0 := ⟨jm_in2 (List.mem_of_getElem? (i := 63) rfl) rfl, jm_in1 (List.mem_of_getElem? (i := 1) rfl) rfl, ⟨by decide, by decide, by decide +kernel⟩, by decide⟩
theorem vG_order : jm_MV mG_order := ⟨jm_in2 (List.mem_of_getElem? (i := 61) rfl) rfl, jm_in2 (List.mem_of_getElem? (i := 62) rfl) rfl⟩
abbrev mG_outer : mM := (⟨"GoalOrder", "outer", "(II)Z"⟩, prog_1_method_15_code, 4, (some .boolean))
theorem fG_outer : jm_MF mG_outer 2 := ⟨jm_in2 (List.mem_of_getElem? (i := 205) rfl) rfl, jm_in1 (List.mem_of_getElem? (i := 1) rfl) rfl, ⟨by decide, by decide, by decide +kernel⟩, by decide⟩
theorem vG_outer : jm_MV mG_outer := ⟨jm_in2 (List.mem_of_getElem? (i := 203) rfl) rfl, jm_in2 (List.mem_of_getElem? (i := 204) rfl) rfl⟩
abbrev mG_part : mM := (⟨"GoalOrder", "part", "(II)I"⟩, prog_1_method_11_code, 5, (some .int))
theorem fG_part : jm_MF mG_part 2 := ⟨jm_in2 (List.mem_of_getElem? (i := 172) rfl) rfl, jm_in1 (List.mem_of_getElem? (i := 1) rfl) rfl, ⟨by decide, by decide, by decide +kernel⟩, by decide⟩
theorem vG_part : jm_MV mG_part := ⟨jm_in2 (List.mem_of_getElem? (i := 170) rfl) rfl, jm_in2 (List.mem_of_getElem? (i := 171) rfl) rfl⟩
abbrev mG_predicate : mM := (⟨"GoalOrder", "predicate", "(I)I"⟩, prog_1_method_2_code, 2, (some .int))
theorem fG_predicate : jm_MF mG_predicate 1 := ⟨jm_in1 (List.mem_of_getElem? (i := 206) rfl) rfl, jm_in1 (List.mem_of_getElem? (i := 1) rfl) rfl, ⟨by decide, by decide, by decide +kernel⟩, by decide⟩
theorem vG_predicate : jm_MV mG_predicate := ⟨jm_in1 (List.mem_of_getElem? (i := 204) rfl) rfl, jm_in1 (List.mem_of_getElem? (i := 205) rfl) rfl⟩
abbrev mG_put : mM := (⟨"GoalOrder", "put", "(I)Z"⟩, prog_1_method_5_code, 2, (some .boolean))
theorem fG_put : jm_MF mG_put 1 := ⟨jm_in1 (List.mem_of_getElem? (i := 235) rfl) rfl, jm_in1 (List.mem_of_getElem? (i := 1) rfl) rfl, ⟨by decide, by decide, by decide +kernel⟩, by decide⟩
theorem vG_put : jm_MV mG_put := ⟨jm_in1 (List.mem_of_getElem? (i := 233) rfl) rfl, jm_in1 (List.mem_of_getElem? (i := 234) rfl) rfl⟩
abbrev mG_stuck : mM := (⟨"GoalOrder", "stuck", "()I"⟩, prog_1_method_10_code, 1, (some .int))
theorem fG_stuck : jm_MF mG_stuck 0 := ⟨jm_in2 (List.mem_of_getElem? (i := 168) rfl) rfl, jm_in1 (List.mem_of_getElem? (i := 1) rfl) rfl, ⟨by decide, by decide, by decide +kernel⟩, by decide⟩
theorem vG_stuck : jm_MV mG_stuck := ⟨jm_in2 (List.mem_of_getElem? (i := 166) rfl) rfl, jm_in2 (List.mem_of_getElem? (i := 167) rfl) rfl⟩
abbrev mG_wanted : mM := (⟨"GoalOrder", "wanted", "(IZ)Z"⟩, prog_1_method_8_code, 3, (some .boolean))
theorem fG_wanted : jm_MF mG_wanted 2 := ⟨jm_in2 (List.mem_of_getElem? (i := 59) rfl) rfl, jm_in1 (List.mem_of_getElem? (i := 1) rfl) rfl, ⟨by decide, by decide, by decide +kernel⟩, by decide⟩
theorem vG_wanted : jm_MV mG_wanted := ⟨jm_in2 (List.mem_of_getElem? (i := 57) rfl) rfl, jm_in2 (List.mem_of_getElem? (i := 58) rfl) rfl⟩
abbrev mM_add : mM := (⟨"GoalOrderModel", "add", "(III)I"⟩, prog_7_method_14_code, 6, (some .int))
theorem fM_add : jm_MF mM_add 3 := ⟨jm_in3 (List.mem_of_getElem? (i := 135) rfl) rfl, jm_in1 (List.mem_of_getElem? (i := 6) rfl) rfl, ⟨by decide, by decide, by decide +kernel⟩, by decide⟩
theorem vM_add : jm_MV mM_add := ⟨jm_in3 (List.mem_of_getElem? (i := 133) rfl) rfl, jm_in3 (List.mem_of_getElem? (i := 134) rfl) rfl⟩
abbrev mM_areIn : mM := (⟨"GoalOrderModel", "areIn", "(JJ)Z"⟩, prog_7_method_20_code, 5, (some .boolean))
theorem fM_areIn : jm_MF mM_areIn 2 := ⟨jm_in3 (List.mem_of_getElem? (i := 191) rfl) rfl, jm_in1 (List.mem_of_getElem? (i := 6) rfl) rfl, ⟨by decide, by decide, by decide +kernel⟩, by decide⟩
theorem vM_areIn : jm_MV mM_areIn := ⟨jm_in3 (List.mem_of_getElem? (i := 190) rfl) rfl, jm_inS (q := (⟨"GoalOrderModel", "areIn", "(JJ)Z"⟩, 42)) (by decide +kernel)⟩
abbrev mM_atom : mM := (⟨"GoalOrderModel", "atom", "(I)V"⟩, prog_7_method_22_code, 6, none)
theorem fM_atom : jm_MF mM_atom 1 := ⟨jm_in3 (List.mem_of_getElem? (i := 175) rfl) rfl, jm_in1 (List.mem_of_getElem? (i := 6) rfl) rfl, ⟨by decide, by decide, by decide +kernel⟩, by decide⟩
theorem vM_atom : jm_MV mM_atom := ⟨jm_in3 (List.mem_of_getElem? (i := 174) rfl) rfl, jm_inS (q := (⟨"GoalOrderModel", "atom", "(I)V"⟩, 42)) (by decide +kernel)⟩
abbrev mM_begin : mM := (⟨"GoalOrderModel", "begin", "()V"⟩, prog_7_method_3_code, 1, none)
theorem fM_begin : jm_MF mM_begin 0 := ⟨jm_in2 (List.mem_of_getElem? (i := 215) rfl) rfl, jm_in1 (List.mem_of_getElem? (i := 6) rfl) rfl, ⟨by decide, by decide, by decide +kernel⟩, by decide⟩
theorem vM_begin : jm_MV mM_begin := ⟨jm_in2 (List.mem_of_getElem? (i := 214) rfl) rfl, jm_inS (q := (⟨"GoalOrderModel", "begin", "()V"⟩, 42)) (by decide +kernel)⟩
abbrev mM_call : mM := (⟨"GoalOrderModel", "call", "(IJ)V"⟩, prog_7_method_25_code, 9, none)
theorem fM_call : jm_MF mM_call 2 := ⟨jm_in3 (List.mem_of_getElem? (i := 199) rfl) rfl, jm_in1 (List.mem_of_getElem? (i := 6) rfl) rfl, ⟨by decide, by decide, by decide +kernel⟩, by decide⟩
theorem vM_call : jm_MV mM_call := ⟨jm_in3 (List.mem_of_getElem? (i := 198) rfl) rfl, jm_inS (q := (⟨"GoalOrderModel", "call", "(IJ)V"⟩, 42)) (by decide +kernel)⟩
abbrev mM_changed : mM := (⟨"GoalOrderModel", "changed", "()V"⟩, prog_7_method_4_code, 1, none)
theorem fM_changed : jm_MF mM_changed 0 := ⟨jm_in2 (List.mem_of_getElem? (i := 223) rfl) rfl, jm_in1 (List.mem_of_getElem? (i := 6) rfl) rfl, ⟨by decide, by decide, by decide +kernel⟩, by decide⟩
theorem vM_changed : jm_MV mM_changed := ⟨jm_in2 (List.mem_of_getElem? (i := 222) rfl) rfl, jm_inS (q := (⟨"GoalOrderModel", "changed", "()V"⟩, 42)) (by decide +kernel)⟩
abbrev mM_choice : mM := (⟨"GoalOrderModel", "choice", "(II)Z"⟩, prog_7_method_30_code, 6, (some .boolean))
theorem fM_choice : jm_MF mM_choice 2 := ⟨jm_in3 (List.mem_of_getElem? (i := 215) rfl) rfl, jm_in1 (List.mem_of_getElem? (i := 6) rfl) rfl, ⟨by decide, by decide, by decide +kernel⟩, by decide⟩
theorem vM_choice : jm_MV mM_choice := ⟨jm_in3 (List.mem_of_getElem? (i := 214) rfl) rfl, jm_inS (q := (⟨"GoalOrderModel", "choice", "(II)Z"⟩, 42)) (by decide +kernel)⟩
abbrev mM_clear : mM := (⟨"GoalOrderModel", "clear", "()V"⟩, prog_7_method_7_code, 1, none)
theorem fM_clear : jm_MF mM_clear 0 := ⟨jm_in3 (List.mem_of_getElem? (i := 124) rfl) rfl, jm_in1 (List.mem_of_getElem? (i := 6) rfl) rfl, ⟨by decide, by decide, by decide +kernel⟩, by decide⟩
theorem vM_clear : jm_MV mM_clear := ⟨jm_in3 (List.mem_of_getElem? (i := 122) rfl) rfl, jm_in3 (List.mem_of_getElem? (i := 123) rfl) rfl⟩
abbrev mM_comes : mM := (⟨"GoalOrderModel", "comes", "(IIJ)V"⟩, prog_7_method_21_code, 5, none)
theorem fM_comes : jm_MF mM_comes 3 := ⟨jm_in3 (List.mem_of_getElem? (i := 183) rfl) rfl, jm_in1 (List.mem_of_getElem? (i := 6) rfl) rfl, ⟨by decide, by decide, by decide +kernel⟩, by decide⟩
theorem vM_comes : jm_MV mM_comes := ⟨jm_in3 (List.mem_of_getElem? (i := 182) rfl) rfl, jm_inS (q := (⟨"GoalOrderModel", "comes", "(IIJ)V"⟩, 42)) (by decide +kernel)⟩
abbrev mM_compare : mM := (⟨"GoalOrderModel", "compare", "(IIJ)V"⟩, prog_7_method_24_code, 10, none)
theorem fM_compare : jm_MF mM_compare 3 := ⟨jm_in3 (List.mem_of_getElem? (i := 195) rfl) rfl, jm_in1 (List.mem_of_getElem? (i := 6) rfl) rfl, ⟨by decide, by decide, by decide +kernel⟩, by decide⟩
theorem vM_compare : jm_MV mM_compare := ⟨jm_in3 (List.mem_of_getElem? (i := 194) rfl) rfl, jm_inS (q := (⟨"GoalOrderModel", "compare", "(IIJ)V"⟩, 42)) (by decide +kernel)⟩
abbrev mM_compared : mM := (⟨"GoalOrderModel", "compared", "(II)Z"⟩, prog_7_method_38_code, 3, (some .boolean))
theorem fM_compared : jm_MF mM_compared 2 := ⟨jm_in4 (List.mem_of_getElem? (i := 4) rfl) rfl, jm_in1 (List.mem_of_getElem? (i := 6) rfl) rfl, ⟨by decide, by decide, by decide +kernel⟩, by decide⟩
theorem vM_compared : jm_MV mM_compared := ⟨jm_in4 (List.mem_of_getElem? (i := 2) rfl) rfl, jm_in4 (List.mem_of_getElem? (i := 3) rfl) rfl⟩
abbrev mM_ended : mM := (⟨"GoalOrderModel", "ended", "(IZJ)V"⟩, prog_7_method_27_code, 5, none)
theorem fM_ended : jm_MF mM_ended 3 := ⟨jm_in3 (List.mem_of_getElem? (i := 211) rfl) rfl, jm_in1 (List.mem_of_getElem? (i := 6) rfl) rfl, ⟨by decide, by decide, by decide +kernel⟩, by decide⟩
theorem vM_ended : jm_MV mM_ended := ⟨jm_in3 (List.mem_of_getElem? (i := 210) rfl) rfl, jm_inS (q := (⟨"GoalOrderModel", "ended", "(IZJ)V"⟩, 42)) (by decide +kernel)⟩
abbrev mM_given : mM := (⟨"GoalOrderModel", "given", "(IZ)Z"⟩, prog_7_method_15_code, 3, (some .boolean))
theorem fM_given : jm_MF mM_given 2 := ⟨jm_in3 (List.mem_of_getElem? (i := 151) rfl) rfl, jm_in1 (List.mem_of_getElem? (i := 6) rfl) rfl, ⟨by decide, by decide, by decide +kernel⟩, by decide⟩
theorem vM_given : jm_MV mM_given := ⟨jm_in3 (List.mem_of_getElem? (i := 149) rfl) rfl, jm_in3 (List.mem_of_getElem? (i := 150) rfl) rfl⟩
abbrev mM_goesOn : mM := (⟨"GoalOrderModel", "goesOn", "()Z"⟩, prog_7_method_28_code, 3, (some .boolean))
theorem fM_goesOn : jm_MF mM_goesOn 0 := ⟨jm_in3 (List.mem_of_getElem? (i := 203) rfl) rfl, jm_in1 (List.mem_of_getElem? (i := 6) rfl) rfl, ⟨by decide, by decide, by decide +kernel⟩, by decide⟩
theorem vM_goesOn : jm_MV mM_goesOn := ⟨jm_in3 (List.mem_of_getElem? (i := 202) rfl) rfl, jm_inS (q := (⟨"GoalOrderModel", "goesOn", "()Z"⟩, 42)) (by decide +kernel)⟩
abbrev mM_ground : mM := (⟨"GoalOrderModel", "ground", "(II)Z"⟩, prog_7_method_39_code, 3, (some .boolean))
theorem fM_ground : jm_MF mM_ground 2 := ⟨jm_in4 (List.mem_of_getElem? (i := 8) rfl) rfl, jm_in1 (List.mem_of_getElem? (i := 6) rfl) rfl, ⟨by decide, by decide, by decide +kernel⟩, by decide⟩
theorem vM_ground : jm_MV mM_ground := ⟨jm_in4 (List.mem_of_getElem? (i := 6) rfl) rfl, jm_in4 (List.mem_of_getElem? (i := 7) rfl) rfl⟩
abbrev mM_hasRow : mM := (⟨"GoalOrderModel", "hasRow", "(II)Z"⟩, prog_7_method_12_code, 3, (some .boolean))
theorem fM_hasRow : jm_MF mM_hasRow 2 := ⟨jm_in3 (List.mem_of_getElem? (i := 147) rfl) rfl, jm_in1 (List.mem_of_getElem? (i := 6) rfl) rfl, ⟨by decide, by decide, by decide +kernel⟩, by decide⟩
theorem vM_hasRow : jm_MV mM_hasRow := ⟨jm_in3 (List.mem_of_getElem? (i := 146) rfl) rfl, jm_inS (q := (⟨"GoalOrderModel", "hasRow", "(II)Z"⟩, 42)) (by decide +kernel)⟩
abbrev mM_init : mM := (⟨"GoalOrderModel", "<init>", "()V"⟩, prog_7_method_1_code, 1, none)
theorem fM_init : jm_MF mM_init 0 := ⟨jm_in2 (List.mem_of_getElem? (i := 210) rfl) rfl, jm_in1 (List.mem_of_getElem? (i := 6) rfl) rfl, ⟨by decide, by decide, by decide +kernel⟩, by decide⟩
theorem vM_init : Cond.instanceMethod mM_init.1 ∈ jm_tb := jm_in2 (List.mem_of_getElem? (i := 209) rfl) rfl
abbrev mM_isIn : mM := (⟨"GoalOrderModel", "isIn", "(JI)Z"⟩, prog_7_method_19_code, 4, (some .boolean))
theorem fM_isIn : jm_MF mM_isIn 2 := ⟨jm_in3 (List.mem_of_getElem? (i := 179) rfl) rfl, jm_in1 (List.mem_of_getElem? (i := 6) rfl) rfl, ⟨by decide, by decide, by decide +kernel⟩, by decide⟩
theorem vM_isIn : jm_MV mM_isIn := ⟨jm_in3 (List.mem_of_getElem? (i := 178) rfl) rfl, jm_inS (q := (⟨"GoalOrderModel", "isIn", "(JI)Z"⟩, 42)) (by decide +kernel)⟩
abbrev mM_isNode : mM := (⟨"GoalOrderModel", "isNode", "(I)Z"⟩, prog_7_method_10_code, 2, (some .boolean))
theorem fM_isNode : jm_MF mM_isNode 1 := ⟨jm_in3 (List.mem_of_getElem? (i := 143) rfl) rfl, jm_in1 (List.mem_of_getElem? (i := 6) rfl) rfl, ⟨by decide, by decide, by decide +kernel⟩, by decide⟩
theorem vM_isNode : jm_MV mM_isNode := ⟨jm_in3 (List.mem_of_getElem? (i := 142) rfl) rfl, jm_inS (q := (⟨"GoalOrderModel", "isNode", "(I)Z"⟩, 42)) (by decide +kernel)⟩
abbrev mM_isParent : mM := (⟨"GoalOrderModel", "isParent", "(I)Z"⟩, prog_7_method_11_code, 2, (some .boolean))
theorem fM_isParent : jm_MF mM_isParent 1 := ⟨jm_in3 (List.mem_of_getElem? (i := 139) rfl) rfl, jm_in1 (List.mem_of_getElem? (i := 6) rfl) rfl, ⟨by decide, by decide, by decide +kernel⟩, by decide⟩
theorem vM_isParent : jm_MV mM_isParent := ⟨jm_in3 (List.mem_of_getElem? (i := 138) rfl) rfl, jm_inS (q := (⟨"GoalOrderModel", "isParent", "(I)Z"⟩, 42)) (by decide +kernel)⟩
abbrev mM_isVariable : mM := (⟨"GoalOrderModel", "isVariable", "(I)Z"⟩, prog_7_method_8_code, 1, (some .boolean))
theorem fM_isVariable : jm_MF mM_isVariable 1 := ⟨jm_in3 (List.mem_of_getElem? (i := 131) rfl) rfl, jm_in1 (List.mem_of_getElem? (i := 6) rfl) rfl, ⟨by decide, by decide, by decide +kernel⟩, by decide⟩
theorem sM_isVariable : Cond.static mM_isVariable.1 ∈ jm_tb := jm_in3 (List.mem_of_getElem? (i := 130) rfl) rfl
abbrev mM_look : mM := (⟨"GoalOrderModel", "look", "()V"⟩, prog_7_method_18_code, 6, none)
theorem fM_look : jm_MF mM_look 0 := ⟨jm_in3 (List.mem_of_getElem? (i := 163) rfl) rfl, jm_in1 (List.mem_of_getElem? (i := 6) rfl) rfl, ⟨by decide, by decide, by decide +kernel⟩, by decide⟩
theorem vM_look : jm_MV mM_look := ⟨jm_in3 (List.mem_of_getElem? (i := 162) rfl) rfl, jm_inS (q := (⟨"GoalOrderModel", "look", "()V"⟩, 42)) (by decide +kernel)⟩
abbrev mM_made : mM := (⟨"GoalOrderModel", "made", "(II)I"⟩, prog_7_method_13_code, 5, (some .int))
theorem fM_made : jm_MF mM_made 2 := ⟨jm_in2 (List.mem_of_getElem? (i := 219) rfl) rfl, jm_in1 (List.mem_of_getElem? (i := 6) rfl) rfl, ⟨by decide, by decide, by decide +kernel⟩, by decide⟩
theorem vM_made : jm_MV mM_made := ⟨jm_in2 (List.mem_of_getElem? (i := 218) rfl) rfl, jm_inS (q := (⟨"GoalOrderModel", "made", "(II)I"⟩, 42)) (by decide +kernel)⟩
abbrev mM_mode : mM := (⟨"GoalOrderModel", "mode", "(II)I"⟩, prog_7_method_6_code, 4, (some .int))
theorem fM_mode : jm_MF mM_mode 2 := ⟨jm_in3 (List.mem_of_getElem? (i := 120) rfl) rfl, jm_in1 (List.mem_of_getElem? (i := 6) rfl) rfl, ⟨by decide, by decide, by decide +kernel⟩, by decide⟩
theorem vM_mode : jm_MV mM_mode := ⟨jm_in3 (List.mem_of_getElem? (i := 118) rfl) rfl, jm_in3 (List.mem_of_getElem? (i := 119) rfl) rfl⟩
abbrev mM_node : mM := (⟨"GoalOrderModel", "node", "(II)I"⟩, prog_7_method_37_code, 3, (some .int))
theorem fM_node : jm_MF mM_node 2 := ⟨jm_in4 (List.mem_of_getElem? (i := 0) rfl) rfl, jm_in1 (List.mem_of_getElem? (i := 6) rfl) rfl, ⟨by decide, by decide, by decide +kernel⟩, by decide⟩
theorem vM_node : jm_MV mM_node := ⟨jm_in3 (List.mem_of_getElem? (i := 238) rfl) rfl, jm_in3 (List.mem_of_getElem? (i := 239) rfl) rfl⟩
abbrev mM_not : mM := (⟨"GoalOrderModel", "not", "(II)Z"⟩, prog_7_method_31_code, 4, (some .boolean))
theorem fM_not : jm_MF mM_not 2 := ⟨jm_in3 (List.mem_of_getElem? (i := 220) rfl) rfl, jm_in1 (List.mem_of_getElem? (i := 6) rfl) rfl, ⟨by decide, by decide, by decide +kernel⟩, by decide⟩
theorem vM_not : jm_MV mM_not := ⟨jm_in3 (List.mem_of_getElem? (i := 219) rfl) rfl, jm_inS (q := (⟨"GoalOrderModel", "not", "(II)Z"⟩, 42)) (by decide +kernel)⟩
abbrev mM_order : mM := (⟨"GoalOrderModel", "order", "()I"⟩, prog_7_method_34_code, 3, (some .int))
theorem fM_order : jm_MF mM_order 0 := ⟨jm_in3 (List.mem_of_getElem? (i := 159) rfl) rfl, jm_in1 (List.mem_of_getElem? (i := 6) rfl) rfl, ⟨by decide, by decide, by decide +kernel⟩, by decide⟩
theorem vM_order : jm_MV mM_order := ⟨jm_in3 (List.mem_of_getElem? (i := 157) rfl) rfl, jm_in3 (List.mem_of_getElem? (i := 158) rfl) rfl⟩
abbrev mM_outer : mM := (⟨"GoalOrderModel", "outer", "(II)Z"⟩, prog_7_method_40_code, 3, (some .boolean))
theorem fM_outer : jm_MF mM_outer 2 := ⟨jm_in4 (List.mem_of_getElem? (i := 12) rfl) rfl, jm_in1 (List.mem_of_getElem? (i := 6) rfl) rfl, ⟨by decide, by decide, by decide +kernel⟩, by decide⟩
theorem vM_outer : jm_MV mM_outer := ⟨jm_in4 (List.mem_of_getElem? (i := 10) rfl) rfl, jm_in4 (List.mem_of_getElem? (i := 11) rfl) rfl⟩
abbrev mM_part : mM := (⟨"GoalOrderModel", "part", "(II)I"⟩, prog_7_method_36_code, 5, (some .int))
theorem fM_part : jm_MF mM_part 2 := ⟨jm_in3 (List.mem_of_getElem? (i := 236) rfl) rfl, jm_in1 (List.mem_of_getElem? (i := 6) rfl) rfl, ⟨by decide, by decide, by decide +kernel⟩, by decide⟩
theorem vM_part : jm_MV mM_part := ⟨jm_in3 (List.mem_of_getElem? (i := 234) rfl) rfl, jm_in3 (List.mem_of_getElem? (i := 235) rfl) rfl⟩
abbrev mM_predicate : mM := (⟨"GoalOrderModel", "predicate", "(I)I"⟩, prog_7_method_5_code, 2, (some .int))
theorem fM_predicate : jm_MF mM_predicate 1 := ⟨jm_in3 (List.mem_of_getElem? (i := 116) rfl) rfl, jm_in1 (List.mem_of_getElem? (i := 6) rfl) rfl, ⟨by decide, by decide, by decide +kernel⟩, by decide⟩
theorem vM_predicate : jm_MV mM_predicate := ⟨jm_in3 (List.mem_of_getElem? (i := 114) rfl) rfl, jm_in3 (List.mem_of_getElem? (i := 115) rfl) rfl⟩
abbrev mM_put : mM := (⟨"GoalOrderModel", "put", "(I)Z"⟩, prog_7_method_9_code, 2, (some .boolean))
theorem fM_put : jm_MF mM_put 1 := ⟨jm_in3 (List.mem_of_getElem? (i := 128) rfl) rfl, jm_in1 (List.mem_of_getElem? (i := 6) rfl) rfl, ⟨by decide, by decide, by decide +kernel⟩, by decide⟩
theorem vM_put : jm_MV mM_put := ⟨jm_in3 (List.mem_of_getElem? (i := 126) rfl) rfl, jm_in3 (List.mem_of_getElem? (i := 127) rfl) rfl⟩
abbrev mM_row : mM := (⟨"GoalOrderModel", "row", "(II)Z"⟩, prog_7_method_29_code, 4, (some .boolean))
theorem fM_row : jm_MF mM_row 2 := ⟨jm_in3 (List.mem_of_getElem? (i := 207) rfl) rfl, jm_in1 (List.mem_of_getElem? (i := 6) rfl) rfl, ⟨by decide, by decide, by decide +kernel⟩, by decide⟩
theorem vM_row : jm_MV mM_row := ⟨jm_in3 (List.mem_of_getElem? (i := 206) rfl) rfl, jm_inS (q := (⟨"GoalOrderModel", "row", "(II)Z"⟩, 42)) (by decide +kernel)⟩
abbrev mM_rowOf : mM := (⟨"GoalOrderModel", "rowOf", "(II)J"⟩, prog_7_method_17_code, 6, (some .long))
theorem fM_rowOf : jm_MF mM_rowOf 2 := ⟨jm_in3 (List.mem_of_getElem? (i := 167) rfl) rfl, jm_in1 (List.mem_of_getElem? (i := 6) rfl) rfl, ⟨by decide, by decide, by decide +kernel⟩, by decide⟩
theorem vM_rowOf : jm_MV mM_rowOf := ⟨jm_in3 (List.mem_of_getElem? (i := 166) rfl) rfl, jm_inS (q := (⟨"GoalOrderModel", "rowOf", "(II)J"⟩, 42)) (by decide +kernel)⟩
abbrev mM_same : mM := (⟨"GoalOrderModel", "same", "(IIIJ)V"⟩, prog_7_method_23_code, 8, none)
theorem fM_same : jm_MF mM_same 4 := ⟨jm_in3 (List.mem_of_getElem? (i := 187) rfl) rfl, jm_in1 (List.mem_of_getElem? (i := 6) rfl) rfl, ⟨by decide, by decide, by decide +kernel⟩, by decide⟩
theorem vM_same : jm_MV mM_same := ⟨jm_in3 (List.mem_of_getElem? (i := 186) rfl) rfl, jm_inS (q := (⟨"GoalOrderModel", "same", "(IIIJ)V"⟩, 42)) (by decide +kernel)⟩
abbrev mM_stuck : mM := (⟨"GoalOrderModel", "stuck", "()I"⟩, prog_7_method_35_code, 1, (some .int))
theorem fM_stuck : jm_MF mM_stuck 0 := ⟨jm_in3 (List.mem_of_getElem? (i := 232) rfl) rfl, jm_in1 (List.mem_of_getElem? (i := 6) rfl) rfl, ⟨by decide, by decide, by decide +kernel⟩, by decide⟩
theorem vM_stuck : jm_MV mM_stuck := ⟨jm_in3 (List.mem_of_getElem? (i := 230) rfl) rfl, jm_in3 (List.mem_of_getElem? (i := 231) rfl) rfl⟩
abbrev mM_stuckOf : mM := (⟨"GoalOrderModel", "stuckOf", "()I"⟩, prog_7_method_33_code, 2, (some .int))
theorem fM_stuckOf : jm_MF mM_stuckOf 0 := ⟨jm_in3 (List.mem_of_getElem? (i := 228) rfl) rfl, jm_in1 (List.mem_of_getElem? (i := 6) rfl) rfl, ⟨by decide, by decide, by decide +kernel⟩, by decide⟩
theorem vM_stuckOf : jm_MV mM_stuckOf := ⟨jm_in3 (List.mem_of_getElem? (i := 227) rfl) rfl, jm_inS (q := (⟨"GoalOrderModel", "stuckOf", "()I"⟩, 42)) (by decide +kernel)⟩
abbrev mM_test : mM := (⟨"GoalOrderModel", "test", "(II)Z"⟩, prog_7_method_32_code, 10, (some .boolean))
theorem fM_test : jm_MF mM_test 2 := ⟨jm_in3 (List.mem_of_getElem? (i := 224) rfl) rfl, jm_in1 (List.mem_of_getElem? (i := 6) rfl) rfl, ⟨by decide, by decide, by decide +kernel⟩, by decide⟩
theorem vM_test : jm_MV mM_test := ⟨jm_in3 (List.mem_of_getElem? (i := 223) rfl) rfl, jm_inS (q := (⟨"GoalOrderModel", "test", "(II)Z"⟩, 42)) (by decide +kernel)⟩
abbrev mM_tried : mM := (⟨"GoalOrderModel", "tried", "(IJ)Z"⟩, prog_7_method_26_code, 4, (some .boolean))
theorem fM_tried : jm_MF mM_tried 2 := ⟨jm_in3 (List.mem_of_getElem? (i := 171) rfl) rfl, jm_in1 (List.mem_of_getElem? (i := 6) rfl) rfl, ⟨by decide, by decide, by decide +kernel⟩, by decide⟩
theorem vM_tried : jm_MV mM_tried := ⟨jm_in3 (List.mem_of_getElem? (i := 170) rfl) rfl, jm_inS (q := (⟨"GoalOrderModel", "tried", "(IJ)Z"⟩, 42)) (by decide +kernel)⟩
abbrev mM_wanted : mM := (⟨"GoalOrderModel", "wanted", "(IZ)Z"⟩, prog_7_method_16_code, 3, (some .boolean))
theorem fM_wanted : jm_MF mM_wanted 2 := ⟨jm_in3 (List.mem_of_getElem? (i := 155) rfl) rfl, jm_in1 (List.mem_of_getElem? (i := 6) rfl) rfl, ⟨by decide, by decide, by decide +kernel⟩, by decide⟩
theorem vM_wanted : jm_MV mM_wanted := ⟨jm_in3 (List.mem_of_getElem? (i := 153) rfl) rfl, jm_in3 (List.mem_of_getElem? (i := 154) rfl) rfl⟩
abbrev mN_append : mM := (⟨"GoalOrder$Node", "append", "(LGoalOrder$Node;)V"⟩, prog_2_method_4_code, 2, none)
theorem fN_append : jm_MF mN_append 1 := ⟨jm_in2 (List.mem_of_getElem? (i := 44) rfl) rfl, jm_in1 (List.mem_of_getElem? (i := 4) rfl) rfl, ⟨by decide, by decide, by decide +kernel⟩, by decide⟩
theorem vN_append : jm_MV mN_append := ⟨jm_in2 (List.mem_of_getElem? (i := 42) rfl) rfl, jm_in2 (List.mem_of_getElem? (i := 43) rfl) rfl⟩
abbrev mN_become : mM := (⟨"GoalOrder$Node", "become", "(II)V"⟩, prog_2_method_2_code, 3, none)
theorem fN_become : jm_MF mN_become 2 := ⟨jm_in1 (List.mem_of_getElem? (i := 143) rfl) rfl, jm_in1 (List.mem_of_getElem? (i := 4) rfl) rfl, ⟨by decide, by decide, by decide +kernel⟩, by decide⟩
theorem vN_become : jm_MV mN_become := ⟨jm_in1 (List.mem_of_getElem? (i := 141) rfl) rfl, jm_in1 (List.mem_of_getElem? (i := 142) rfl) rfl⟩
abbrev mN_init : mM := (⟨"GoalOrder$Node", "<init>", "(I)V"⟩, prog_2_method_1_code, 2, none)
theorem fN_init : jm_MF mN_init 1 := ⟨jm_in1 (List.mem_of_getElem? (i := 45) rfl) rfl, jm_in1 (List.mem_of_getElem? (i := 4) rfl) rfl, ⟨by decide, by decide, by decide +kernel⟩, by decide⟩
theorem vN_init : Cond.instanceMethod mN_init.1 ∈ jm_tb := jm_in1 (List.mem_of_getElem? (i := 44) rfl) rfl
abbrev mN_isAtom : mM := (⟨"GoalOrder$Node", "isAtom", "()Z"⟩, prog_2_method_5_code, 1, (some .boolean))
theorem fN_isAtom : jm_MF mN_isAtom 0 := ⟨jm_in2 (List.mem_of_getElem? (i := 18) rfl) rfl, jm_in1 (List.mem_of_getElem? (i := 4) rfl) rfl, ⟨by decide, by decide, by decide +kernel⟩, by decide⟩
theorem vN_isAtom : jm_MV mN_isAtom := ⟨jm_in2 (List.mem_of_getElem? (i := 16) rfl) rfl, jm_in2 (List.mem_of_getElem? (i := 17) rfl) rfl⟩
abbrev mN_kthDone : mM := (⟨"GoalOrder$Node", "kthDone", "(I)LGoalOrder$Node;"⟩, prog_2_method_8_code, 4, (some (.object "GoalOrder$Node")))
theorem fN_kthDone : jm_MF mN_kthDone 1 := ⟨jm_in2 (List.mem_of_getElem? (i := 176) rfl) rfl, jm_in1 (List.mem_of_getElem? (i := 4) rfl) rfl, ⟨by decide, by decide, by decide +kernel⟩, by decide⟩
theorem vN_kthDone : jm_MV mN_kthDone := ⟨jm_in2 (List.mem_of_getElem? (i := 174) rfl) rfl, jm_in2 (List.mem_of_getElem? (i := 175) rfl) rfl⟩
abbrev mN_kthPart : mM := (⟨"GoalOrder$Node", "kthPart", "(I)LGoalOrder$Node;"⟩, prog_2_method_7_code, 4, (some (.object "GoalOrder$Node")))
theorem fN_kthPart : jm_MF mN_kthPart 1 := ⟨jm_in2 (List.mem_of_getElem? (i := 114) rfl) rfl, jm_in1 (List.mem_of_getElem? (i := 4) rfl) rfl, ⟨by decide, by decide, by decide +kernel⟩, by decide⟩
theorem vN_kthPart : jm_MV mN_kthPart := ⟨jm_in2 (List.mem_of_getElem? (i := 112) rfl) rfl, jm_in2 (List.mem_of_getElem? (i := 113) rfl) rfl⟩
abbrev mN_meets : mM := (⟨"GoalOrder$Node", "meets", "(II)Z"⟩, prog_2_method_11_code, 6, (some .boolean))
theorem fN_meets : jm_MF mN_meets 2 := ⟨jm_in2 (List.mem_of_getElem? (i := 195) rfl) rfl, jm_in1 (List.mem_of_getElem? (i := 4) rfl) rfl, ⟨by decide, by decide, by decide +kernel⟩, by decide⟩
theorem vN_meets : jm_MV mN_meets := ⟨jm_in2 (List.mem_of_getElem? (i := 193) rfl) rfl, jm_in2 (List.mem_of_getElem? (i := 194) rfl) rfl⟩
abbrev mN_takeVariables : mM := (⟨"GoalOrder$Node", "takeVariables", "([II)V"⟩, prog_2_method_3_code, 4, none)
theorem fN_takeVariables : jm_MF mN_takeVariables 2 := ⟨jm_in2 (List.mem_of_getElem? (i := 40) rfl) rfl, jm_in1 (List.mem_of_getElem? (i := 4) rfl) rfl, ⟨by decide, by decide, by decide +kernel⟩, by decide⟩
theorem vN_takeVariables : jm_MV mN_takeVariables := ⟨jm_in2 (List.mem_of_getElem? (i := 38) rfl) rfl, jm_in2 (List.mem_of_getElem? (i := 39) rfl) rfl⟩
abbrev mN_takesPart : mM := (⟨"GoalOrder$Node", "takesPart", "()Z"⟩, prog_2_method_6_code, 1, (some .boolean))
theorem fN_takesPart : jm_MF mN_takesPart 0 := ⟨jm_in2 (List.mem_of_getElem? (i := 14) rfl) rfl, jm_in1 (List.mem_of_getElem? (i := 4) rfl) rfl, ⟨by decide, by decide, by decide +kernel⟩, by decide⟩
theorem vN_takesPart : jm_MV mN_takesPart := ⟨jm_in2 (List.mem_of_getElem? (i := 12) rfl) rfl, jm_in2 (List.mem_of_getElem? (i := 13) rfl) rfl⟩
abbrev mN_variableAt : mM := (⟨"GoalOrder$Node", "variableAt", "(I)J"⟩, prog_2_method_10_code, 2, (some .long))
theorem fN_variableAt : jm_MF mN_variableAt 1 := ⟨jm_in2 (List.mem_of_getElem? (i := 125) rfl) rfl, jm_in1 (List.mem_of_getElem? (i := 4) rfl) rfl, ⟨by decide, by decide, by decide +kernel⟩, by decide⟩
theorem vN_variableAt : jm_MV mN_variableAt := ⟨jm_in2 (List.mem_of_getElem? (i := 123) rfl) rfl, jm_in2 (List.mem_of_getElem? (i := 124) rfl) rfl⟩
abbrev mN_variablesFrom : mM := (⟨"GoalOrder$Node", "variablesFrom", "(I)J"⟩, prog_2_method_9_code, 5, (some .long))
theorem fN_variablesFrom : jm_MF mN_variablesFrom 1 := ⟨jm_in2 (List.mem_of_getElem? (i := 138) rfl) rfl, jm_in1 (List.mem_of_getElem? (i := 4) rfl) rfl, ⟨by decide, by decide, by decide +kernel⟩, by decide⟩
theorem vN_variablesFrom : jm_MV mN_variablesFrom := ⟨jm_in2 (List.mem_of_getElem? (i := 136) rfl) rfl, jm_in2 (List.mem_of_getElem? (i := 137) rfl) rfl⟩
abbrev mP_argumentsOf : mM := (⟨"GoalOrder$Predicates", "argumentsOf", "(I)I"⟩, prog_3_method_5_code, 2, (some .int))
theorem fP_argumentsOf : jm_MF mP_argumentsOf 1 := ⟨jm_in2 (List.mem_of_getElem? (i := 27) rfl) rfl, jm_in1 (List.mem_of_getElem? (i := 2) rfl) rfl, ⟨by decide, by decide, by decide +kernel⟩, by decide⟩
theorem vP_argumentsOf : jm_MV mP_argumentsOf := ⟨jm_in2 (List.mem_of_getElem? (i := 25) rfl) rfl, jm_in2 (List.mem_of_getElem? (i := 26) rfl) rfl⟩
abbrev mP_define : mM := (⟨"GoalOrder$Predicates", "define", "(I)I"⟩, prog_3_method_2_code, 2, (some .int))
theorem fP_define : jm_MF mP_define 1 := ⟨jm_in1 (List.mem_of_getElem? (i := 210) rfl) rfl, jm_in1 (List.mem_of_getElem? (i := 2) rfl) rfl, ⟨by decide, by decide, by decide +kernel⟩, by decide⟩
theorem vP_define : jm_MV mP_define := ⟨jm_in1 (List.mem_of_getElem? (i := 208) rfl) rfl, jm_in1 (List.mem_of_getElem? (i := 209) rfl) rfl⟩
abbrev mP_defineMode : mM := (⟨"GoalOrder$Predicates", "defineMode", "(II)I"⟩, prog_3_method_3_code, 4, (some .int))
theorem fP_defineMode : jm_MF mP_defineMode 2 := ⟨jm_in1 (List.mem_of_getElem? (i := 218) rfl) rfl, jm_in1 (List.mem_of_getElem? (i := 2) rfl) rfl, ⟨by decide, by decide, by decide +kernel⟩, by decide⟩
theorem vP_defineMode : jm_MV mP_defineMode := ⟨jm_in1 (List.mem_of_getElem? (i := 216) rfl) rfl, jm_in1 (List.mem_of_getElem? (i := 217) rfl) rfl⟩
abbrev mP_has : mM := (⟨"GoalOrder$Predicates", "has", "(I)Z"⟩, prog_3_method_4_code, 2, (some .boolean))
theorem fP_has : jm_MF mP_has 1 := ⟨jm_in1 (List.mem_of_getElem? (i := 222) rfl) rfl, jm_in1 (List.mem_of_getElem? (i := 2) rfl) rfl, ⟨by decide, by decide, by decide +kernel⟩, by decide⟩
theorem vP_has : jm_MV mP_has := ⟨jm_in1 (List.mem_of_getElem? (i := 220) rfl) rfl, jm_in1 (List.mem_of_getElem? (i := 221) rfl) rfl⟩
abbrev mP_init : mM := (⟨"GoalOrder$Predicates", "<init>", "()V"⟩, prog_3_method_1_code, 1, none)
theorem fP_init : jm_MF mP_init 0 := ⟨jm_in1 (List.mem_of_getElem? (i := 19) rfl) rfl, jm_in1 (List.mem_of_getElem? (i := 2) rfl) rfl, ⟨by decide, by decide, by decide +kernel⟩, by decide⟩
theorem vP_init : Cond.instanceMethod mP_init.1 ∈ jm_tb := jm_in1 (List.mem_of_getElem? (i := 18) rfl) rfl
abbrev mP_modesOf : mM := (⟨"GoalOrder$Predicates", "modesOf", "(I)I"⟩, prog_3_method_6_code, 2, (some .int))
theorem fP_modesOf : jm_MF mP_modesOf 1 := ⟨jm_in2 (List.mem_of_getElem? (i := 149) rfl) rfl, jm_in1 (List.mem_of_getElem? (i := 2) rfl) rfl, ⟨by decide, by decide, by decide +kernel⟩, by decide⟩
theorem vP_modesOf : jm_MV mP_modesOf := ⟨jm_in2 (List.mem_of_getElem? (i := 147) rfl) rfl, jm_in2 (List.mem_of_getElem? (i := 148) rfl) rfl⟩
abbrev mP_outsOf : mM := (⟨"GoalOrder$Predicates", "outsOf", "(II)I"⟩, prog_3_method_7_code, 3, (some .int))
theorem fP_outsOf : jm_MF mP_outsOf 2 := ⟨jm_in2 (List.mem_of_getElem? (i := 153) rfl) rfl, jm_in1 (List.mem_of_getElem? (i := 2) rfl) rfl, ⟨by decide, by decide, by decide +kernel⟩, by decide⟩
theorem vP_outsOf : jm_MV mP_outsOf := ⟨jm_in2 (List.mem_of_getElem? (i := 151) rfl) rfl, jm_in2 (List.mem_of_getElem? (i := 152) rfl) rfl⟩
abbrev mR_canDo : mM := (⟨"GoalOrder$Trial", "canDo", "(LGoalOrder$Node;J)Z"⟩, prog_5_method_3_code, 4, (some .boolean))
theorem fR_canDo : jm_MF mR_canDo 2 := ⟨jm_in2 (List.mem_of_getElem? (i := 71) rfl) rfl, jm_in1 (List.mem_of_getElem? (i := 5) rfl) rfl, ⟨by decide, by decide, by decide +kernel⟩, by decide⟩
theorem vR_canDo : jm_MV mR_canDo := ⟨jm_in2 (List.mem_of_getElem? (i := 70) rfl) rfl, jm_inS (q := (⟨"GoalOrder$Trial", "canDo", "(LGoalOrder$Node;J)Z"⟩, 4)) (by decide +kernel)⟩
abbrev mR_canDoAtom : mM := (⟨"GoalOrder$Trial", "canDoAtom", "(LGoalOrder$Node;)Z"⟩, prog_5_method_14_code, 2, (some .boolean))
theorem fR_canDoAtom : jm_MF mR_canDoAtom 1 := ⟨jm_in2 (List.mem_of_getElem? (i := 118) rfl) rfl, jm_in1 (List.mem_of_getElem? (i := 5) rfl) rfl, ⟨by decide, by decide, by decide +kernel⟩, by decide⟩
theorem vR_canDoAtom : jm_MV mR_canDoAtom := ⟨jm_in2 (List.mem_of_getElem? (i := 117) rfl) rfl, jm_inS (q := (⟨"GoalOrder$Trial", "canDoAtom", "(LGoalOrder$Node;)Z"⟩, 4)) (by decide +kernel)⟩
abbrev mR_canDoCall : mM := (⟨"GoalOrder$Trial", "canDoCall", "(LGoalOrder$Node;)Z"⟩, prog_5_method_18_code, 4, (some .boolean))
theorem fR_canDoCall : jm_MF mR_canDoCall 1 := ⟨jm_in2 (List.mem_of_getElem? (i := 145) rfl) rfl, jm_in1 (List.mem_of_getElem? (i := 5) rfl) rfl, ⟨by decide, by decide, by decide +kernel⟩, by decide⟩
theorem vR_canDoCall : jm_MV mR_canDoCall := ⟨jm_in2 (List.mem_of_getElem? (i := 144) rfl) rfl, jm_inS (q := (⟨"GoalOrder$Trial", "canDoCall", "(LGoalOrder$Node;)Z"⟩, 4)) (by decide +kernel)⟩
abbrev mR_canDoChoice : mM := (⟨"GoalOrder$Trial", "canDoChoice", "(LGoalOrder$Node;)Z"⟩, prog_5_method_7_code, 7, (some .boolean))
theorem fR_canDoChoice : jm_MF mR_canDoChoice 1 := ⟨jm_in2 (List.mem_of_getElem? (i := 86) rfl) rfl, jm_in1 (List.mem_of_getElem? (i := 5) rfl) rfl, ⟨by decide, by decide, by decide +kernel⟩, by decide⟩
theorem vR_canDoChoice : jm_MV mR_canDoChoice := ⟨jm_in2 (List.mem_of_getElem? (i := 85) rfl) rfl, jm_inS (q := (⟨"GoalOrder$Trial", "canDoChoice", "(LGoalOrder$Node;)Z"⟩, 4)) (by decide +kernel)⟩
abbrev mR_canDoForm : mM := (⟨"GoalOrder$Trial", "canDoForm", "(LGoalOrder$Node;)Z"⟩, prog_5_method_16_code, 5, (some .boolean))
theorem fR_canDoForm : jm_MF mR_canDoForm 1 := ⟨jm_in2 (List.mem_of_getElem? (i := 134) rfl) rfl, jm_in1 (List.mem_of_getElem? (i := 5) rfl) rfl, ⟨by decide, by decide, by decide +kernel⟩, by decide⟩
theorem sR_canDoForm : Cond.static mR_canDoForm.1 ∈ jm_tb := jm_in2 (List.mem_of_getElem? (i := 133) rfl) rfl
abbrev mR_canDoNot : mM := (⟨"GoalOrder$Trial", "canDoNot", "(LGoalOrder$Node;)Z"⟩, prog_5_method_8_code, 3, (some .boolean))
theorem fR_canDoNot : jm_MF mR_canDoNot 1 := ⟨jm_in2 (List.mem_of_getElem? (i := 103) rfl) rfl, jm_in1 (List.mem_of_getElem? (i := 5) rfl) rfl, ⟨by decide, by decide, by decide +kernel⟩, by decide⟩
theorem vR_canDoNot : jm_MV mR_canDoNot := ⟨jm_in2 (List.mem_of_getElem? (i := 102) rfl) rfl, jm_inS (q := (⟨"GoalOrder$Trial", "canDoNot", "(LGoalOrder$Node;)Z"⟩, 4)) (by decide +kernel)⟩
abbrev mR_canDoPart : mM := (⟨"GoalOrder$Trial", "canDoPart", "(LGoalOrder$Node;LGoalOrder$Node;J)Z"⟩, prog_5_method_10_code, 5, (some .boolean))
theorem fR_canDoPart : jm_MF mR_canDoPart 3 := ⟨jm_in2 (List.mem_of_getElem? (i := 91) rfl) rfl, jm_in1 (List.mem_of_getElem? (i := 5) rfl) rfl, ⟨by decide, by decide, by decide +kernel⟩, by decide⟩
theorem vR_canDoPart : jm_MV mR_canDoPart := ⟨jm_in2 (List.mem_of_getElem? (i := 90) rfl) rfl, jm_inS (q := (⟨"GoalOrder$Trial", "canDoPart", "(LGoalOrder$Node;LGoalOrder$Node;J)Z"⟩, 4)) (by decide +kernel)⟩
abbrev mR_canDoRow : mM := (⟨"GoalOrder$Trial", "canDoRow", "(LGoalOrder$Node;)Z"⟩, prog_5_method_4_code, 5, (some .boolean))
theorem fR_canDoRow : jm_MF mR_canDoRow 1 := ⟨jm_in2 (List.mem_of_getElem? (i := 75) rfl) rfl, jm_in1 (List.mem_of_getElem? (i := 5) rfl) rfl, ⟨by decide, by decide, by decide +kernel⟩, by decide⟩
theorem vR_canDoRow : jm_MV mR_canDoRow := ⟨jm_in2 (List.mem_of_getElem? (i := 74) rfl) rfl, jm_inS (q := (⟨"GoalOrder$Trial", "canDoRow", "(LGoalOrder$Node;)Z"⟩, 4)) (by decide +kernel)⟩
abbrev mR_canDoSame : mM := (⟨"GoalOrder$Trial", "canDoSame", "(LGoalOrder$Node;)Z"⟩, prog_5_method_15_code, 5, (some .boolean))
theorem fR_canDoSame : jm_MF mR_canDoSame 1 := ⟨jm_in2 (List.mem_of_getElem? (i := 121) rfl) rfl, jm_in1 (List.mem_of_getElem? (i := 5) rfl) rfl, ⟨by decide, by decide, by decide +kernel⟩, by decide⟩
theorem sR_canDoSame : Cond.static mR_canDoSame.1 ∈ jm_tb := jm_in2 (List.mem_of_getElem? (i := 120) rfl) rfl
abbrev mR_canDoSum : mM := (⟨"GoalOrder$Trial", "canDoSum", "(LGoalOrder$Node;)Z"⟩, prog_5_method_17_code, 3, (some .boolean))
theorem fR_canDoSum : jm_MF mR_canDoSum 1 := ⟨jm_in2 (List.mem_of_getElem? (i := 141) rfl) rfl, jm_in1 (List.mem_of_getElem? (i := 5) rfl) rfl, ⟨by decide, by decide, by decide +kernel⟩, by decide⟩
theorem sR_canDoSum : Cond.static mR_canDoSum.1 ∈ jm_tb := jm_in2 (List.mem_of_getElem? (i := 140) rfl) rfl
abbrev mR_canDoTest : mM := (⟨"GoalOrder$Trial", "canDoTest", "(LGoalOrder$Node;)Z"⟩, prog_5_method_9_code, 5, (some .boolean))
theorem fR_canDoTest : jm_MF mR_canDoTest 1 := ⟨jm_in2 (List.mem_of_getElem? (i := 110) rfl) rfl, jm_in1 (List.mem_of_getElem? (i := 5) rfl) rfl, ⟨by decide, by decide, by decide +kernel⟩, by decide⟩
theorem vR_canDoTest : jm_MV mR_canDoTest := ⟨jm_in2 (List.mem_of_getElem? (i := 109) rfl) rfl, jm_inS (q := (⟨"GoalOrder$Trial", "canDoTest", "(LGoalOrder$Node;)Z"⟩, 4)) (by decide +kernel)⟩
abbrev mR_canJoin : mM := (⟨"GoalOrder$Trial", "canJoin", "(LGoalOrder$Node;JJ)Z"⟩, prog_5_method_11_code, 8, (some .boolean))
theorem fR_canJoin : jm_MF mR_canJoin 3 := ⟨jm_in2 (List.mem_of_getElem? (i := 95) rfl) rfl, jm_in1 (List.mem_of_getElem? (i := 5) rfl) rfl, ⟨by decide, by decide, by decide +kernel⟩, by decide⟩
theorem vR_canJoin : jm_MV mR_canJoin := ⟨jm_in2 (List.mem_of_getElem? (i := 94) rfl) rfl, jm_inS (q := (⟨"GoalOrder$Trial", "canJoin", "(LGoalOrder$Node;JJ)Z"⟩, 4)) (by decide +kernel)⟩
abbrev mR_doLeftmost : mM := (⟨"GoalOrder$Trial", "doLeftmost", "(LGoalOrder$Node;)LGoalOrder$Node;"⟩, prog_5_method_5_code, 3, (some (.object "GoalOrder$Node")))
theorem fR_doLeftmost : jm_MF mR_doLeftmost 1 := ⟨jm_in2 (List.mem_of_getElem? (i := 79) rfl) rfl, jm_in1 (List.mem_of_getElem? (i := 5) rfl) rfl, ⟨by decide, by decide, by decide +kernel⟩, by decide⟩
theorem vR_doLeftmost : jm_MV mR_doLeftmost := ⟨jm_in2 (List.mem_of_getElem? (i := 78) rfl) rfl, jm_inS (q := (⟨"GoalOrder$Trial", "doLeftmost", "(LGoalOrder$Node;)LGoalOrder$Node;"⟩, 4)) (by decide +kernel)⟩
abbrev mR_init : mM := (⟨"GoalOrder$Trial", "<init>", "(LGoalOrder$Predicates;)V"⟩, prog_5_method_1_code, 2, none)
theorem fR_init : jm_MF mR_init 1 := ⟨jm_in1 (List.mem_of_getElem? (i := 159) rfl) rfl, jm_in1 (List.mem_of_getElem? (i := 5) rfl) rfl, ⟨by decide, by decide, by decide +kernel⟩, by decide⟩
theorem vR_init : Cond.instanceMethod mR_init.1 ∈ jm_tb := jm_in1 (List.mem_of_getElem? (i := 158) rfl) rfl
abbrev mR_insOf : mM := (⟨"GoalOrder$Trial", "insOf", "(LGoalOrder$Node;I)J"⟩, prog_5_method_19_code, 5, (some .long))
theorem fR_insOf : jm_MF mR_insOf 2 := ⟨jm_in2 (List.mem_of_getElem? (i := 157) rfl) rfl, jm_in1 (List.mem_of_getElem? (i := 5) rfl) rfl, ⟨by decide, by decide, by decide +kernel⟩, by decide⟩
theorem sR_insOf : Cond.static mR_insOf.1 ∈ jm_tb := jm_in2 (List.mem_of_getElem? (i := 156) rfl) rfl
abbrev mR_isGround : mM := (⟨"GoalOrder$Trial", "isGround", "(LGoalOrder$Node;J)Z"⟩, prog_5_method_20_code, 3, (some .boolean))
theorem fR_isGround : jm_MF mR_isGround 2 := ⟨jm_in2 (List.mem_of_getElem? (i := 128) rfl) rfl, jm_in1 (List.mem_of_getElem? (i := 5) rfl) rfl, ⟨by decide, by decide, by decide +kernel⟩, by decide⟩
theorem sR_isGround : Cond.static mR_isGround.1 ∈ jm_tb := jm_in2 (List.mem_of_getElem? (i := 127) rfl) rfl
abbrev mR_madeBy : mM := (⟨"GoalOrder$Trial", "madeBy", "(LGoalOrder$Node;)J"⟩, prog_5_method_13_code, 1, (some .long))
theorem fR_madeBy : jm_MF mR_madeBy 1 := ⟨jm_in2 (List.mem_of_getElem? (i := 106) rfl) rfl, jm_in1 (List.mem_of_getElem? (i := 5) rfl) rfl, ⟨by decide, by decide, by decide +kernel⟩, by decide⟩
theorem sR_madeBy : Cond.static mR_madeBy.1 ∈ jm_tb := jm_in2 (List.mem_of_getElem? (i := 105) rfl) rfl
abbrev mR_outerOf : mM := (⟨"GoalOrder$Trial", "outerOf", "(LGoalOrder$Node;)J"⟩, prog_5_method_12_code, 2, (some .long))
theorem fR_outerOf : jm_MF mR_outerOf 1 := ⟨jm_in2 (List.mem_of_getElem? (i := 99) rfl) rfl, jm_in1 (List.mem_of_getElem? (i := 5) rfl) rfl, ⟨by decide, by decide, by decide +kernel⟩, by decide⟩
theorem vR_outerOf : jm_MV mR_outerOf := ⟨jm_in2 (List.mem_of_getElem? (i := 98) rfl) rfl, jm_inS (q := (⟨"GoalOrder$Trial", "outerOf", "(LGoalOrder$Node;)J"⟩, 4)) (by decide +kernel)⟩
abbrev mR_run : mM := (⟨"GoalOrder$Trial", "run", "(LGoalOrder$Node;JJ)Z"⟩, prog_5_method_2_code, 6, (some .boolean))
theorem fR_run : jm_MF mR_run 3 := ⟨jm_in2 (List.mem_of_getElem? (i := 67) rfl) rfl, jm_in1 (List.mem_of_getElem? (i := 5) rfl) rfl, ⟨by decide, by decide, by decide +kernel⟩, by decide⟩
theorem vR_run : jm_MV mR_run := ⟨jm_in2 (List.mem_of_getElem? (i := 65) rfl) rfl, jm_in2 (List.mem_of_getElem? (i := 66) rfl) rfl⟩
abbrev mR_settle : mM := (⟨"GoalOrder$Trial", "settle", "(LGoalOrder$Node;IJ)Z"⟩, prog_5_method_21_code, 4, (some .boolean))
theorem fR_settle : jm_MF mR_settle 3 := ⟨jm_in2 (List.mem_of_getElem? (i := 131) rfl) rfl, jm_in1 (List.mem_of_getElem? (i := 5) rfl) rfl, ⟨by decide, by decide, by decide +kernel⟩, by decide⟩
theorem sR_settle : Cond.static mR_settle.1 ∈ jm_tb := jm_in2 (List.mem_of_getElem? (i := 130) rfl) rfl
abbrev mR_stuckOfLeftmost : mM := (⟨"GoalOrder$Trial", "stuckOfLeftmost", "(LGoalOrder$Node;)I"⟩, prog_5_method_6_code, 2, (some .int))
theorem fR_stuckOfLeftmost : jm_MF mR_stuckOfLeftmost 1 := ⟨jm_in2 (List.mem_of_getElem? (i := 82) rfl) rfl, jm_in1 (List.mem_of_getElem? (i := 5) rfl) rfl, ⟨by decide, by decide, by decide +kernel⟩, by decide⟩
theorem sR_stuckOfLeftmost : Cond.static mR_stuckOfLeftmost.1 ∈ jm_tb := jm_in2 (List.mem_of_getElem? (i := 81) rfl) rfl
abbrev mT_find : mM := (⟨"GoalOrder$Tree", "find", "(I)LGoalOrder$Node;"⟩, prog_4_method_4_code, 2, (some (.object "GoalOrder$Node")))
theorem fT_find : jm_MF mT_find 1 := ⟨jm_in2 (List.mem_of_getElem? (i := 6) rfl) rfl, jm_in1 (List.mem_of_getElem? (i := 3) rfl) rfl, ⟨by decide, by decide, by decide +kernel⟩, by decide⟩
theorem vT_find : jm_MV mT_find := ⟨jm_in2 (List.mem_of_getElem? (i := 4) rfl) rfl, jm_in2 (List.mem_of_getElem? (i := 5) rfl) rfl⟩
abbrev mT_grow : mM := (⟨"GoalOrder$Tree", "grow", "(LGoalOrder$Node;II[II)I"⟩, prog_4_method_5_code, 7, (some .int))
theorem fT_grow : jm_MF mT_grow 5 := ⟨jm_in2 (List.mem_of_getElem? (i := 35) rfl) rfl, jm_in1 (List.mem_of_getElem? (i := 3) rfl) rfl, ⟨by decide, by decide, by decide +kernel⟩, by decide⟩
theorem vT_grow : jm_MV mT_grow := ⟨jm_in2 (List.mem_of_getElem? (i := 33) rfl) rfl, jm_in2 (List.mem_of_getElem? (i := 34) rfl) rfl⟩
abbrev mT_init : mM := (⟨"GoalOrder$Tree", "<init>", "()V"⟩, prog_4_method_1_code, 1, none)
theorem fT_init : jm_MF mT_init 0 := ⟨jm_in1 (List.mem_of_getElem? (i := 39) rfl) rfl, jm_in1 (List.mem_of_getElem? (i := 3) rfl) rfl, ⟨by decide, by decide, by decide +kernel⟩, by decide⟩
theorem vT_init : Cond.instanceMethod mT_init.1 ∈ jm_tb := jm_in1 (List.mem_of_getElem? (i := 38) rfl) rfl
abbrev mT_isFull : mM := (⟨"GoalOrder$Tree", "isFull", "()Z"⟩, prog_4_method_3_code, 1, (some .boolean))
theorem fT_isFull : jm_MF mT_isFull 0 := ⟨jm_in2 (List.mem_of_getElem? (i := 10) rfl) rfl, jm_in1 (List.mem_of_getElem? (i := 3) rfl) rfl, ⟨by decide, by decide, by decide +kernel⟩, by decide⟩
theorem vT_isFull : jm_MV mT_isFull := ⟨jm_in2 (List.mem_of_getElem? (i := 8) rfl) rfl, jm_in2 (List.mem_of_getElem? (i := 9) rfl) rfl⟩
abbrev mT_reset : mM := (⟨"GoalOrder$Tree", "reset", "()V"⟩, prog_4_method_2_code, 1, none)
theorem fT_reset : jm_MF mT_reset 0 := ⟨jm_in1 (List.mem_of_getElem? (i := 139) rfl) rfl, jm_in1 (List.mem_of_getElem? (i := 3) rfl) rfl, ⟨by decide, by decide, by decide +kernel⟩, by decide⟩
theorem vT_reset : jm_MV mT_reset := ⟨jm_in1 (List.mem_of_getElem? (i := 137) rfl) rfl, jm_in1 (List.mem_of_getElem? (i := 138) rfl) rfl⟩
abbrev mT_spreadVariables : mM := (⟨"GoalOrder$Tree", "spreadVariables", "(LGoalOrder$Node;)V"⟩, prog_4_method_6_code, 5, none)
theorem fT_spreadVariables : jm_MF mT_spreadVariables 1 := ⟨jm_in2 (List.mem_of_getElem? (i := 48) rfl) rfl, jm_in1 (List.mem_of_getElem? (i := 3) rfl) rfl, ⟨by decide, by decide, by decide +kernel⟩, by decide⟩
theorem vT_spreadVariables : jm_MV mT_spreadVariables := ⟨jm_in2 (List.mem_of_getElem? (i := 47) rfl) rfl, jm_inS (q := (⟨"GoalOrder$Tree", "spreadVariables", "(LGoalOrder$Node;)V"⟩, 3)) (by decide +kernel)⟩
/-! links of fields: l<class>_<index> for reading, and puts by the method where the field is final -/
theorem lG_10 : jm_FL "GoalOrder" 10 4 0 := ⟨_, rfl, by decide, Or.inl (jm_in1 (List.mem_of_getElem? (i := 175) rfl) rfl)⟩
theorem lG_19 : jm_FL "GoalOrder" 19 4 1 := ⟨_, rfl, by decide, Or.inl (jm_in1 (List.mem_of_getElem? (i := 176) rfl) rfl)⟩
theorem lG_28 : jm_FL "GoalOrder" 28 4 2 := ⟨_, rfl, by decide, Or.inl (jm_in1 (List.mem_of_getElem? (i := 177) rfl) rfl)⟩
theorem lG_32 : jm_FL "GoalOrder" 32 4 3 := ⟨_, rfl, by decide, Or.inl (jm_in1 (List.mem_of_getElem? (i := 178) rfl) rfl)⟩
theorem lG_36 : jm_FL "GoalOrder" 36 4 4 := ⟨_, rfl, by decide, Or.inl (jm_in1 (List.mem_of_getElem? (i := 179) rfl) rfl)⟩
theorem lG_40 : jm_FL "GoalOrder" 40 4 5 := ⟨_, rfl, by decide, Or.inl (jm_in1 (List.mem_of_getElem? (i := 180) rfl) rfl)⟩
theorem lG_44 : jm_FL "GoalOrder" 44 4 6 := ⟨_, rfl, by decide, Or.inl (jm_in1 (List.mem_of_getElem? (i := 181) rfl) rfl)⟩
theorem lG_47 : jm_FL "GoalOrder" 47 4 7 := ⟨_, rfl, by decide, Or.inl (jm_in1 (List.mem_of_getElem? (i := 182) rfl) rfl)⟩
theorem lG_51 : jm_FL "GoalOrder" 51 4 8 := ⟨_, rfl, by decide, Or.inl (jm_in1 (List.mem_of_getElem? (i := 183) rfl) rfl)⟩
theorem lG_97 : jm_FL "GoalOrder" 97 2 0 := ⟨_, rfl, by decide, Or.inr ⟨"GoalOrder", by decide +kernel⟩⟩
theorem lG_105 : jm_FL "GoalOrder" 105 3 3 := ⟨_, rfl, by decide, Or.inr ⟨"GoalOrder", by decide +kernel⟩⟩
theorem lG_108 : jm_FL "GoalOrder" 108 0 16 := ⟨_, rfl, by decide, Or.inl (jm_in1 (List.mem_of_getElem? (i := 88) rfl) rfl)⟩
theorem lG_111 : jm_FL "GoalOrder" 111 0 14 := ⟨_, rfl, by decide, Or.inl (jm_in1 (List.mem_of_getElem? (i := 84) rfl) rfl)⟩
theorem lG_120 : jm_FL "GoalOrder" 120 0 6 := ⟨_, rfl, by decide, Or.inl (jm_in1 (List.mem_of_getElem? (i := 65) rfl) rfl)⟩
theorem lG_123 : jm_FL "GoalOrder" 123 0 3 := ⟨_, rfl, by decide, Or.inl (jm_in1 (List.mem_of_getElem? (i := 58) rfl) rfl)⟩
theorem lG_132 : jm_FL "GoalOrder" 132 0 0 := ⟨_, rfl, by decide, Or.inl (jm_in1 (List.mem_of_getElem? (i := 50) rfl) rfl)⟩
theorem lG_138 : jm_FL "GoalOrder" 138 0 15 := ⟨_, rfl, by decide, Or.inl (jm_in1 (List.mem_of_getElem? (i := 85) rfl) rfl)⟩
theorem lG_141 : jm_FL "GoalOrder" 141 0 2 := ⟨_, rfl, by decide, Or.inl (jm_in1 (List.mem_of_getElem? (i := 54) rfl) rfl)⟩
theorem lG_144 : jm_FL "GoalOrder" 144 0 1 := ⟨_, rfl, by decide, Or.inl (jm_in1 (List.mem_of_getElem? (i := 52) rfl) rfl)⟩
theorem lG_155 : jm_FL "GoalOrder" 155 0 13 := ⟨_, rfl, by decide, Or.inl (jm_in1 (List.mem_of_getElem? (i := 82) rfl) rfl)⟩
theorem lG_158 : jm_FL "GoalOrder" 158 0 12 := ⟨_, rfl, by decide, Or.inl (jm_in1 (List.mem_of_getElem? (i := 79) rfl) rfl)⟩
theorem lG_173 : jm_FL "GoalOrder" 173 0 4 := ⟨_, rfl, by decide, Or.inl (jm_in1 (List.mem_of_getElem? (i := 61) rfl) rfl)⟩
theorem lN_9 : jm_FL "GoalOrder$Node" 9 0 0 := ⟨_, rfl, by decide, Or.inl (jm_in1 (List.mem_of_getElem? (i := 47) rfl) rfl)⟩
theorem lN_15 : jm_FL "GoalOrder$Node" 15 0 1 := ⟨_, rfl, by decide, Or.inl (jm_in1 (List.mem_of_getElem? (i := 51) rfl) rfl)⟩
theorem lN_19 : jm_FL "GoalOrder$Node" 19 0 3 := ⟨_, rfl, by decide, Or.inl (jm_in1 (List.mem_of_getElem? (i := 56) rfl) rfl)⟩
theorem lN_22 : jm_FL "GoalOrder$Node" 22 0 4 := ⟨_, rfl, by decide, Or.inl (jm_in1 (List.mem_of_getElem? (i := 59) rfl) rfl)⟩
theorem lN_25 : jm_FL "GoalOrder$Node" 25 0 2 := ⟨_, rfl, by decide, Or.inl (jm_in1 (List.mem_of_getElem? (i := 53) rfl) rfl)⟩
theorem lN_28 : jm_FL "GoalOrder$Node" 28 0 5 := ⟨_, rfl, by decide, Or.inl (jm_in1 (List.mem_of_getElem? (i := 62) rfl) rfl)⟩
theorem lN_31 : jm_FL "GoalOrder$Node" 31 0 6 := ⟨_, rfl, by decide, Or.inl (jm_in1 (List.mem_of_getElem? (i := 63) rfl) rfl)⟩
theorem lN_34 : jm_FL "GoalOrder$Node" 34 0 7 := ⟨_, rfl, by decide, Or.inl (jm_in1 (List.mem_of_getElem? (i := 66) rfl) rfl)⟩
theorem lN_38 : jm_FL "GoalOrder$Node" 38 0 8 := ⟨_, rfl, by decide, Or.inl (jm_in1 (List.mem_of_getElem? (i := 68) rfl) rfl)⟩
theorem lN_41 : jm_FL "GoalOrder$Node" 41 0 9 := ⟨_, rfl, by decide, Or.inl (jm_in1 (List.mem_of_getElem? (i := 70) rfl) rfl)⟩
theorem lN_44 : jm_FL "GoalOrder$Node" 44 0 10 := ⟨_, rfl, by decide, Or.inl (jm_in1 (List.mem_of_getElem? (i := 71) rfl) rfl)⟩
theorem lN_47 : jm_FL "GoalOrder$Node" 47 0 11 := ⟨_, rfl, by decide, Or.inl (jm_in1 (List.mem_of_getElem? (i := 73) rfl) rfl)⟩
theorem lN_51 : jm_FL "GoalOrder$Node" 51 0 12 := ⟨_, rfl, by decide, Or.inl (jm_in1 (List.mem_of_getElem? (i := 76) rfl) rfl)⟩
theorem lN_58 : jm_FL "GoalOrder$Node" 58 0 18 := ⟨_, rfl, by decide, Or.inl (jm_in1 (List.mem_of_getElem? (i := 91) rfl) rfl)⟩
theorem lN_61 : jm_FL "GoalOrder$Node" 61 0 19 := ⟨_, rfl, by decide, Or.inl (jm_in1 (List.mem_of_getElem? (i := 93) rfl) rfl)⟩
theorem lN_68 : jm_FL "GoalOrder$Node" 68 0 13 := ⟨_, rfl, by decide, Or.inl (jm_in1 (List.mem_of_getElem? (i := 81) rfl) rfl)⟩
theorem lP_9 : jm_FL "GoalOrder$Predicates" 9 1 0 := ⟨_, rfl, by decide, Or.inl (jm_in1 (List.mem_of_getElem? (i := 21) rfl) rfl)⟩
theorem lP_15 : jm_FL "GoalOrder$Predicates" 15 1 1 := ⟨_, rfl, by decide, Or.inl (jm_in1 (List.mem_of_getElem? (i := 22) rfl) rfl)⟩
theorem lP_18 : jm_FL "GoalOrder$Predicates" 18 1 2 := ⟨_, rfl, by decide, Or.inl (jm_in1 (List.mem_of_getElem? (i := 23) rfl) rfl)⟩
theorem lP_21 : jm_FL "GoalOrder$Predicates" 21 1 3 := ⟨_, rfl, by decide, Or.inl (jm_in1 (List.mem_of_getElem? (i := 24) rfl) rfl)⟩
theorem lT_14 : jm_FL "GoalOrder$Tree" 14 2 0 := ⟨_, rfl, by decide, Or.inl (jm_in1 (List.mem_of_getElem? (i := 144) rfl) rfl)⟩
theorem lT_20 : jm_FL "GoalOrder$Tree" 20 2 1 := ⟨_, rfl, by decide, Or.inl (jm_in1 (List.mem_of_getElem? (i := 146) rfl) rfl)⟩
theorem lT_31 : jm_FL "GoalOrder$Tree" 31 2 2 := ⟨_, rfl, by decide, Or.inl (jm_in1 (List.mem_of_getElem? (i := 147) rfl) rfl)⟩
theorem lT_39 : jm_FL "GoalOrder$Tree" 39 0 11 := ⟨_, rfl, by decide, Or.inl (jm_in1 (List.mem_of_getElem? (i := 74) rfl) rfl)⟩
theorem lT_43 : jm_FL "GoalOrder$Tree" 43 0 12 := ⟨_, rfl, by decide, Or.inl (jm_in1 (List.mem_of_getElem? (i := 77) rfl) rfl)⟩
theorem lT_57 : jm_FL "GoalOrder$Tree" 57 0 0 := ⟨_, rfl, by decide, Or.inl (jm_in1 (List.mem_of_getElem? (i := 49) rfl) rfl)⟩
theorem lT_60 : jm_FL "GoalOrder$Tree" 60 0 7 := ⟨_, rfl, by decide, Or.inl (jm_in1 (List.mem_of_getElem? (i := 67) rfl) rfl)⟩
theorem lR_9 : jm_FL "GoalOrder$Trial" 9 3 0 := ⟨_, rfl, by decide, Or.inl (jm_in1 (List.mem_of_getElem? (i := 161) rfl) rfl)⟩
theorem lR_15 : jm_FL "GoalOrder$Trial" 15 3 1 := ⟨_, rfl, by decide, Or.inl (jm_in1 (List.mem_of_getElem? (i := 162) rfl) rfl)⟩
theorem lR_19 : jm_FL "GoalOrder$Trial" 19 3 2 := ⟨_, rfl, by decide, Or.inl (jm_in1 (List.mem_of_getElem? (i := 163) rfl) rfl)⟩
theorem lR_23 : jm_FL "GoalOrder$Trial" 23 3 3 := ⟨_, rfl, by decide, Or.inl (jm_in1 (List.mem_of_getElem? (i := 164) rfl) rfl)⟩
theorem lR_31 : jm_FL "GoalOrder$Trial" 31 0 13 := ⟨_, rfl, by decide, Or.inl (jm_in1 (List.mem_of_getElem? (i := 80) rfl) rfl)⟩
theorem lR_36 : jm_FL "GoalOrder$Trial" 36 0 14 := ⟨_, rfl, by decide, Or.inl (jm_in1 (List.mem_of_getElem? (i := 83) rfl) rfl)⟩
theorem lR_39 : jm_FL "GoalOrder$Trial" 39 0 0 := ⟨_, rfl, by decide, Or.inl (jm_in1 (List.mem_of_getElem? (i := 48) rfl) rfl)⟩
theorem lR_42 : jm_FL "GoalOrder$Trial" 42 0 16 := ⟨_, rfl, by decide, Or.inl (jm_in1 (List.mem_of_getElem? (i := 87) rfl) rfl)⟩
theorem lR_45 : jm_FL "GoalOrder$Trial" 45 0 3 := ⟨_, rfl, by decide, Or.inl (jm_in1 (List.mem_of_getElem? (i := 57) rfl) rfl)⟩
theorem lR_64 : jm_FL "GoalOrder$Trial" 64 0 8 := ⟨_, rfl, by decide, Or.inl (jm_in1 (List.mem_of_getElem? (i := 69) rfl) rfl)⟩
theorem lR_68 : jm_FL "GoalOrder$Trial" 68 0 17 := ⟨_, rfl, by decide, Or.inl (jm_in1 (List.mem_of_getElem? (i := 89) rfl) rfl)⟩
theorem lR_71 : jm_FL "GoalOrder$Trial" 71 0 19 := ⟨_, rfl, by decide, Or.inl (jm_in1 (List.mem_of_getElem? (i := 92) rfl) rfl)⟩
theorem lR_74 : jm_FL "GoalOrder$Trial" 74 0 10 := ⟨_, rfl, by decide, Or.inl (jm_in1 (List.mem_of_getElem? (i := 72) rfl) rfl)⟩
theorem lR_77 : jm_FL "GoalOrder$Trial" 77 0 18 := ⟨_, rfl, by decide, Or.inl (jm_in1 (List.mem_of_getElem? (i := 90) rfl) rfl)⟩
theorem lR_80 : jm_FL "GoalOrder$Trial" 80 0 6 := ⟨_, rfl, by decide, Or.inl (jm_in1 (List.mem_of_getElem? (i := 64) rfl) rfl)⟩
theorem lR_112 : jm_FL "GoalOrder$Trial" 112 0 11 := ⟨_, rfl, by decide, Or.inl (jm_in1 (List.mem_of_getElem? (i := 75) rfl) rfl)⟩
theorem lR_115 : jm_FL "GoalOrder$Trial" 115 0 12 := ⟨_, rfl, by decide, Or.inl (jm_in1 (List.mem_of_getElem? (i := 78) rfl) rfl)⟩
theorem lR_144 : jm_FL "GoalOrder$Trial" 144 0 4 := ⟨_, rfl, by decide, Or.inl (jm_in1 (List.mem_of_getElem? (i := 60) rfl) rfl)⟩
theorem lR_161 : jm_FL "GoalOrder$Trial" 161 0 2 := ⟨_, rfl, by decide, Or.inl (jm_in1 (List.mem_of_getElem? (i := 55) rfl) rfl)⟩
theorem lR_168 : jm_FL "GoalOrder$Trial" 168 0 15 := ⟨_, rfl, by decide, Or.inl (jm_in1 (List.mem_of_getElem? (i := 86) rfl) rfl)⟩
theorem lM_7 : jm_FL "GoalOrderModel" 7 5 2 := ⟨_, rfl, by decide, Or.inl (jm_in2 (List.mem_of_getElem? (i := 226) rfl) rfl)⟩
theorem lM_13 : jm_FL "GoalOrderModel" 13 5 3 := ⟨_, rfl, by decide, Or.inl (jm_in2 (List.mem_of_getElem? (i := 227) rfl) rfl)⟩
theorem lM_16 : jm_FL "GoalOrderModel" 16 5 4 := ⟨_, rfl, by decide, Or.inl (jm_in2 (List.mem_of_getElem? (i := 228) rfl) rfl)⟩
theorem lM_19 : jm_FL "GoalOrderModel" 19 5 6 := ⟨_, rfl, by decide, Or.inl (jm_in2 (List.mem_of_getElem? (i := 230) rfl) rfl)⟩
theorem lM_22 : jm_FL "GoalOrderModel" 22 5 7 := ⟨_, rfl, by decide, Or.inl (jm_in2 (List.mem_of_getElem? (i := 231) rfl) rfl)⟩
theorem lM_25 : jm_FL "GoalOrderModel" 25 5 8 := ⟨_, rfl, by decide, Or.inl (jm_in2 (List.mem_of_getElem? (i := 232) rfl) rfl)⟩
theorem lM_28 : jm_FL "GoalOrderModel" 28 5 9 := ⟨_, rfl, by decide, Or.inl (jm_in2 (List.mem_of_getElem? (i := 233) rfl) rfl)⟩
theorem lM_31 : jm_FL "GoalOrderModel" 31 5 10 := ⟨_, rfl, by decide, Or.inl (jm_in2 (List.mem_of_getElem? (i := 234) rfl) rfl)⟩
theorem lM_34 : jm_FL "GoalOrderModel" 34 5 11 := ⟨_, rfl, by decide, Or.inl (jm_in2 (List.mem_of_getElem? (i := 235) rfl) rfl)⟩
theorem lM_37 : jm_FL "GoalOrderModel" 37 5 12 := ⟨_, rfl, by decide, Or.inl (jm_in2 (List.mem_of_getElem? (i := 236) rfl) rfl)⟩
theorem lM_40 : jm_FL "GoalOrderModel" 40 5 13 := ⟨_, rfl, by decide, Or.inl (jm_in2 (List.mem_of_getElem? (i := 237) rfl) rfl)⟩
theorem lM_43 : jm_FL "GoalOrderModel" 43 5 14 := ⟨_, rfl, by decide, Or.inl (jm_in2 (List.mem_of_getElem? (i := 238) rfl) rfl)⟩
theorem lM_46 : jm_FL "GoalOrderModel" 46 5 15 := ⟨_, rfl, by decide, Or.inl (jm_in2 (List.mem_of_getElem? (i := 239) rfl) rfl)⟩
theorem lM_49 : jm_FL "GoalOrderModel" 49 5 16 := ⟨_, rfl, by decide, Or.inl (jm_in3 (List.mem_of_getElem? (i := 0) rfl) rfl)⟩
theorem lM_52 : jm_FL "GoalOrderModel" 52 5 20 := ⟨_, rfl, by decide, Or.inl (jm_in3 (List.mem_of_getElem? (i := 4) rfl) rfl)⟩
theorem lM_55 : jm_FL "GoalOrderModel" 55 5 21 := ⟨_, rfl, by decide, Or.inl (jm_in3 (List.mem_of_getElem? (i := 5) rfl) rfl)⟩
theorem lM_59 : jm_FL "GoalOrderModel" 59 5 22 := ⟨_, rfl, by decide, Or.inl (jm_in3 (List.mem_of_getElem? (i := 6) rfl) rfl)⟩
theorem lM_62 : jm_FL "GoalOrderModel" 62 5 23 := ⟨_, rfl, by decide, Or.inl (jm_in3 (List.mem_of_getElem? (i := 7) rfl) rfl)⟩
theorem lM_65 : jm_FL "GoalOrderModel" 65 5 24 := ⟨_, rfl, by decide, Or.inl (jm_in3 (List.mem_of_getElem? (i := 8) rfl) rfl)⟩
theorem lM_68 : jm_FL "GoalOrderModel" 68 5 25 := ⟨_, rfl, by decide, Or.inl (jm_in3 (List.mem_of_getElem? (i := 9) rfl) rfl)⟩
theorem lM_72 : jm_FL "GoalOrderModel" 72 5 26 := ⟨_, rfl, by decide, Or.inl (jm_in3 (List.mem_of_getElem? (i := 10) rfl) rfl)⟩
theorem lM_75 : jm_FL "GoalOrderModel" 75 5 27 := ⟨_, rfl, by decide, Or.inl (jm_in3 (List.mem_of_getElem? (i := 11) rfl) rfl)⟩
theorem lM_78 : jm_FL "GoalOrderModel" 78 5 28 := ⟨_, rfl, by decide, Or.inl (jm_in3 (List.mem_of_getElem? (i := 12) rfl) rfl)⟩
theorem lM_81 : jm_FL "GoalOrderModel" 81 5 29 := ⟨_, rfl, by decide, Or.inl (jm_in3 (List.mem_of_getElem? (i := 13) rfl) rfl)⟩
theorem lM_84 : jm_FL "GoalOrderModel" 84 5 30 := ⟨_, rfl, by decide, Or.inl (jm_in3 (List.mem_of_getElem? (i := 14) rfl) rfl)⟩
theorem lM_87 : jm_FL "GoalOrderModel" 87 5 31 := ⟨_, rfl, by decide, Or.inl (jm_in3 (List.mem_of_getElem? (i := 15) rfl) rfl)⟩
theorem lM_90 : jm_FL "GoalOrderModel" 90 5 32 := ⟨_, rfl, by decide, Or.inl (jm_in3 (List.mem_of_getElem? (i := 16) rfl) rfl)⟩
theorem lM_93 : jm_FL "GoalOrderModel" 93 5 33 := ⟨_, rfl, by decide, Or.inl (jm_in3 (List.mem_of_getElem? (i := 17) rfl) rfl)⟩
theorem lM_96 : jm_FL "GoalOrderModel" 96 5 34 := ⟨_, rfl, by decide, Or.inl (jm_in3 (List.mem_of_getElem? (i := 18) rfl) rfl)⟩
theorem lM_99 : jm_FL "GoalOrderModel" 99 5 35 := ⟨_, rfl, by decide, Or.inl (jm_in3 (List.mem_of_getElem? (i := 19) rfl) rfl)⟩
theorem lM_102 : jm_FL "GoalOrderModel" 102 5 36 := ⟨_, rfl, by decide, Or.inl (jm_in3 (List.mem_of_getElem? (i := 20) rfl) rfl)⟩
theorem lM_105 : jm_FL "GoalOrderModel" 105 5 37 := ⟨_, rfl, by decide, Or.inl (jm_in3 (List.mem_of_getElem? (i := 21) rfl) rfl)⟩
theorem lM_108 : jm_FL "GoalOrderModel" 108 5 41 := ⟨_, rfl, by decide, Or.inl (jm_in3 (List.mem_of_getElem? (i := 25) rfl) rfl)⟩
theorem lM_115 : jm_FL "GoalOrderModel" 115 5 0 := ⟨_, rfl, by decide, Or.inl (jm_in2 (List.mem_of_getElem? (i := 224) rfl) rfl)⟩
theorem lM_118 : jm_FL "GoalOrderModel" 118 5 5 := ⟨_, rfl, by decide, Or.inl (jm_in2 (List.mem_of_getElem? (i := 229) rfl) rfl)⟩
theorem lM_121 : jm_FL "GoalOrderModel" 121 5 17 := ⟨_, rfl, by decide, Or.inl (jm_in3 (List.mem_of_getElem? (i := 1) rfl) rfl)⟩
theorem lM_124 : jm_FL "GoalOrderModel" 124 5 18 := ⟨_, rfl, by decide, Or.inl (jm_in3 (List.mem_of_getElem? (i := 2) rfl) rfl)⟩
theorem lM_128 : jm_FL "GoalOrderModel" 128 5 19 := ⟨_, rfl, by decide, Or.inl (jm_in3 (List.mem_of_getElem? (i := 3) rfl) rfl)⟩
theorem lM_138 : jm_FL "GoalOrderModel" 138 5 40 := ⟨_, rfl, by decide, Or.inl (jm_in3 (List.mem_of_getElem? (i := 24) rfl) rfl)⟩
theorem lM_142 : jm_FL "GoalOrderModel" 142 5 1 := ⟨_, rfl, by decide, Or.inl (jm_in2 (List.mem_of_getElem? (i := 225) rfl) rfl)⟩
theorem lM_186 : jm_FL "GoalOrderModel" 186 5 39 := ⟨_, rfl, by decide, Or.inl (jm_in3 (List.mem_of_getElem? (i := 23) rfl) rfl)⟩
theorem lM_193 : jm_FL "GoalOrderModel" 193 5 38 := ⟨_, rfl, by decide, Or.inl (jm_in3 (List.mem_of_getElem? (i := 22) rfl) rfl)⟩
theorem pG_add_36 : jm_FP mG_add 36 4 4 (.int) := ⟨_, rfl, by decide, tyX4_ok 4 (by decide), Or.inl ⟨rfl, Or.inl (jm_in1 (List.mem_of_getElem? (i := 179) rfl) rfl)⟩⟩
theorem pG_clear_36 : jm_FP mG_clear 36 4 4 (.int) := ⟨_, rfl, by decide, tyX4_ok 4 (by decide), Or.inl ⟨rfl, Or.inl (jm_in1 (List.mem_of_getElem? (i := 179) rfl) rfl)⟩⟩
theorem pG_clear_40 : jm_FP mG_clear 40 4 5 (.long) := ⟨_, rfl, by decide, tyX4_ok 5 (by decide), Or.inl ⟨rfl, Or.inl (jm_in1 (List.mem_of_getElem? (i := 180) rfl) rfl)⟩⟩
theorem pG_clear_44 : jm_FP mG_clear 44 4 6 (.long) := ⟨_, rfl, by decide, tyX4_ok 6 (by decide), Or.inl ⟨rfl, Or.inl (jm_in1 (List.mem_of_getElem? (i := 181) rfl) rfl)⟩⟩
theorem pG_forgetOrdering_47 : jm_FP mG_forgetOrdering 47 4 7 (.boolean) := ⟨_, rfl, by decide, tyX4_ok 7 (by decide), Or.inl ⟨rfl, Or.inl (jm_in1 (List.mem_of_getElem? (i := 182) rfl) rfl)⟩⟩
theorem pG_forgetOrdering_51 : jm_FP mG_forgetOrdering 51 4 8 (.int) := ⟨_, rfl, by decide, tyX4_ok 8 (by decide), Or.inl ⟨rfl, Or.inl (jm_in1 (List.mem_of_getElem? (i := 183) rfl) rfl)⟩⟩
theorem pG_given_40 : jm_FP mG_given 40 4 5 (.long) := ⟨_, rfl, by decide, tyX4_ok 5 (by decide), Or.inl ⟨rfl, Or.inl (jm_in1 (List.mem_of_getElem? (i := 180) rfl) rfl)⟩⟩
theorem pG_order_47 : jm_FP mG_order 47 4 7 (.boolean) := ⟨_, rfl, by decide, tyX4_ok 7 (by decide), Or.inl ⟨rfl, Or.inl (jm_in1 (List.mem_of_getElem? (i := 182) rfl) rfl)⟩⟩
theorem pG_order_51 : jm_FP mG_order 51 4 8 (.int) := ⟨_, rfl, by decide, tyX4_ok 8 (by decide), Or.inl ⟨rfl, Or.inl (jm_in1 (List.mem_of_getElem? (i := 183) rfl) rfl)⟩⟩
theorem pG_put_36 : jm_FP mG_put 36 4 4 (.int) := ⟨_, rfl, by decide, tyX4_ok 4 (by decide), Or.inl ⟨rfl, Or.inl (jm_in1 (List.mem_of_getElem? (i := 179) rfl) rfl)⟩⟩
theorem pG_wanted_44 : jm_FP mG_wanted 44 4 6 (.long) := ⟨_, rfl, by decide, tyX4_ok 6 (by decide), Or.inl ⟨rfl, Or.inl (jm_in1 (List.mem_of_getElem? (i := 181) rfl) rfl)⟩⟩
theorem pG_init_10 : jm_FP mG_init 10 4 0 (.object "GoalOrder$Predicates") := ⟨_, rfl, by decide, tyX4_ok 0 (by decide), Or.inr ⟨rfl, rfl, rfl, jm_in1 (List.mem_of_getElem? (i := 175) rfl) rfl⟩⟩
theorem pG_init_19 : jm_FP mG_init 19 4 1 (.object "GoalOrder$Tree") := ⟨_, rfl, by decide, tyX4_ok 1 (by decide), Or.inr ⟨rfl, rfl, rfl, jm_in1 (List.mem_of_getElem? (i := 176) rfl) rfl⟩⟩
theorem pG_init_28 : jm_FP mG_init 28 4 2 (.object "GoalOrder$Trial") := ⟨_, rfl, by decide, tyX4_ok 2 (by decide), Or.inr ⟨rfl, rfl, rfl, jm_in1 (List.mem_of_getElem? (i := 177) rfl) rfl⟩⟩
theorem pG_init_32 : jm_FP mG_init 32 4 3 (.array .int) := ⟨_, rfl, by decide, tyX4_ok 3 (by decide), Or.inr ⟨rfl, rfl, rfl, jm_in1 (List.mem_of_getElem? (i := 178) rfl) rfl⟩⟩
theorem pG_init_36 : jm_FP mG_init 36 4 4 (.int) := ⟨_, rfl, by decide, tyX4_ok 4 (by decide), Or.inl ⟨rfl, Or.inl (jm_in1 (List.mem_of_getElem? (i := 179) rfl) rfl)⟩⟩
theorem pG_init_40 : jm_FP mG_init 40 4 5 (.long) := ⟨_, rfl, by decide, tyX4_ok 5 (by decide), Or.inl ⟨rfl, Or.inl (jm_in1 (List.mem_of_getElem? (i := 180) rfl) rfl)⟩⟩
theorem pG_init_44 : jm_FP mG_init 44 4 6 (.long) := ⟨_, rfl, by decide, tyX4_ok 6 (by decide), Or.inl ⟨rfl, Or.inl (jm_in1 (List.mem_of_getElem? (i := 181) rfl) rfl)⟩⟩
theorem pG_init_47 : jm_FP mG_init 47 4 7 (.boolean) := ⟨_, rfl, by decide, tyX4_ok 7 (by decide), Or.inl ⟨rfl, Or.inl (jm_in1 (List.mem_of_getElem? (i := 182) rfl) rfl)⟩⟩
theorem pG_init_51 : jm_FP mG_init 51 4 8 (.int) := ⟨_, rfl, by decide, tyX4_ok 8 (by decide), Or.inl ⟨rfl, Or.inl (jm_in1 (List.mem_of_getElem? (i := 183) rfl) rfl)⟩⟩
theorem pN_append_28 : jm_FP mN_append 28 0 5 (.int) := ⟨_, rfl, by decide, tyX0_ok 5 (by decide), Or.inl ⟨rfl, Or.inl (jm_in1 (List.mem_of_getElem? (i := 62) rfl) rfl)⟩⟩
theorem pN_append_31 : jm_FP mN_append 31 0 6 (.int) := ⟨_, rfl, by decide, tyX0_ok 6 (by decide), Or.inl ⟨rfl, Or.inl (jm_in1 (List.mem_of_getElem? (i := 63) rfl) rfl)⟩⟩
theorem pN_append_34 : jm_FP mN_append 34 0 7 (.object "GoalOrder$Node") := ⟨_, rfl, by decide, tyX0_ok 7 (by decide), Or.inl ⟨rfl, Or.inl (jm_in1 (List.mem_of_getElem? (i := 66) rfl) rfl)⟩⟩
theorem pN_append_38 : jm_FP mN_append 38 0 8 (.object "GoalOrder$Node") := ⟨_, rfl, by decide, tyX0_ok 8 (by decide), Or.inl ⟨rfl, Or.inl (jm_in1 (List.mem_of_getElem? (i := 68) rfl) rfl)⟩⟩
theorem pN_append_41 : jm_FP mN_append 41 0 9 (.object "GoalOrder$Node") := ⟨_, rfl, by decide, tyX0_ok 9 (by decide), Or.inl ⟨rfl, Or.inl (jm_in1 (List.mem_of_getElem? (i := 70) rfl) rfl)⟩⟩
theorem pN_append_44 : jm_FP mN_append 44 0 10 (.object "GoalOrder$Node") := ⟨_, rfl, by decide, tyX0_ok 10 (by decide), Or.inl ⟨rfl, Or.inl (jm_in1 (List.mem_of_getElem? (i := 71) rfl) rfl)⟩⟩
theorem pN_become_19 : jm_FP mN_become 19 0 3 (.int) := ⟨_, rfl, by decide, tyX0_ok 3 (by decide), Or.inl ⟨rfl, Or.inl (jm_in1 (List.mem_of_getElem? (i := 56) rfl) rfl)⟩⟩
theorem pN_become_22 : jm_FP mN_become 22 0 4 (.int) := ⟨_, rfl, by decide, tyX0_ok 4 (by decide), Or.inl ⟨rfl, Or.inl (jm_in1 (List.mem_of_getElem? (i := 59) rfl) rfl)⟩⟩
theorem pN_become_25 : jm_FP mN_become 25 0 2 (.int) := ⟨_, rfl, by decide, tyX0_ok 2 (by decide), Or.inl ⟨rfl, Or.inl (jm_in1 (List.mem_of_getElem? (i := 53) rfl) rfl)⟩⟩
theorem pN_become_28 : jm_FP mN_become 28 0 5 (.int) := ⟨_, rfl, by decide, tyX0_ok 5 (by decide), Or.inl ⟨rfl, Or.inl (jm_in1 (List.mem_of_getElem? (i := 62) rfl) rfl)⟩⟩
theorem pN_become_31 : jm_FP mN_become 31 0 6 (.int) := ⟨_, rfl, by decide, tyX0_ok 6 (by decide), Or.inl ⟨rfl, Or.inl (jm_in1 (List.mem_of_getElem? (i := 63) rfl) rfl)⟩⟩
theorem pN_become_34 : jm_FP mN_become 34 0 7 (.object "GoalOrder$Node") := ⟨_, rfl, by decide, tyX0_ok 7 (by decide), Or.inl ⟨rfl, Or.inl (jm_in1 (List.mem_of_getElem? (i := 66) rfl) rfl)⟩⟩
theorem pN_become_38 : jm_FP mN_become 38 0 8 (.object "GoalOrder$Node") := ⟨_, rfl, by decide, tyX0_ok 8 (by decide), Or.inl ⟨rfl, Or.inl (jm_in1 (List.mem_of_getElem? (i := 68) rfl) rfl)⟩⟩
theorem pN_become_41 : jm_FP mN_become 41 0 9 (.object "GoalOrder$Node") := ⟨_, rfl, by decide, tyX0_ok 9 (by decide), Or.inl ⟨rfl, Or.inl (jm_in1 (List.mem_of_getElem? (i := 70) rfl) rfl)⟩⟩
theorem pN_become_44 : jm_FP mN_become 44 0 10 (.object "GoalOrder$Node") := ⟨_, rfl, by decide, tyX0_ok 10 (by decide), Or.inl ⟨rfl, Or.inl (jm_in1 (List.mem_of_getElem? (i := 71) rfl) rfl)⟩⟩
theorem pN_become_47 : jm_FP mN_become 47 0 11 (.long) := ⟨_, rfl, by decide, tyX0_ok 11 (by decide), Or.inl ⟨rfl, Or.inl (jm_in1 (List.mem_of_getElem? (i := 73) rfl) rfl)⟩⟩
theorem pN_become_51 : jm_FP mN_become 51 0 12 (.long) := ⟨_, rfl, by decide, tyX0_ok 12 (by decide), Or.inl ⟨rfl, Or.inl (jm_in1 (List.mem_of_getElem? (i := 76) rfl) rfl)⟩⟩
theorem pN_takeVariables_25 : jm_FP mN_takeVariables 25 0 2 (.int) := ⟨_, rfl, by decide, tyX0_ok 2 (by decide), Or.inl ⟨rfl, Or.inl (jm_in1 (List.mem_of_getElem? (i := 53) rfl) rfl)⟩⟩
theorem pN_takeVariables_47 : jm_FP mN_takeVariables 47 0 11 (.long) := ⟨_, rfl, by decide, tyX0_ok 11 (by decide), Or.inl ⟨rfl, Or.inl (jm_in1 (List.mem_of_getElem? (i := 73) rfl) rfl)⟩⟩
theorem pN_init_9 : jm_FP mN_init 9 0 0 (.int) := ⟨_, rfl, by decide, tyX0_ok 0 (by decide), Or.inr ⟨rfl, rfl, rfl, jm_in1 (List.mem_of_getElem? (i := 47) rfl) rfl⟩⟩
theorem pN_init_15 : jm_FP mN_init 15 0 1 (.array .int) := ⟨_, rfl, by decide, tyX0_ok 1 (by decide), Or.inr ⟨rfl, rfl, rfl, jm_in1 (List.mem_of_getElem? (i := 51) rfl) rfl⟩⟩
theorem pP_define_21 : jm_FP mP_define 21 1 3 (.int) := ⟨_, rfl, by decide, tyX1_ok 3 (by decide), Or.inl ⟨rfl, Or.inl (jm_in1 (List.mem_of_getElem? (i := 24) rfl) rfl)⟩⟩
theorem pP_init_9 : jm_FP mP_init 9 1 0 (.array .int) := ⟨_, rfl, by decide, tyX1_ok 0 (by decide), Or.inr ⟨rfl, rfl, rfl, jm_in1 (List.mem_of_getElem? (i := 21) rfl) rfl⟩⟩
theorem pP_init_15 : jm_FP mP_init 15 1 1 (.array .int) := ⟨_, rfl, by decide, tyX1_ok 1 (by decide), Or.inr ⟨rfl, rfl, rfl, jm_in1 (List.mem_of_getElem? (i := 22) rfl) rfl⟩⟩
theorem pP_init_18 : jm_FP mP_init 18 1 2 (.array .int) := ⟨_, rfl, by decide, tyX1_ok 2 (by decide), Or.inr ⟨rfl, rfl, rfl, jm_in1 (List.mem_of_getElem? (i := 23) rfl) rfl⟩⟩
theorem pP_init_21 : jm_FP mP_init 21 1 3 (.int) := ⟨_, rfl, by decide, tyX1_ok 3 (by decide), Or.inl ⟨rfl, Or.inl (jm_in1 (List.mem_of_getElem? (i := 24) rfl) rfl)⟩⟩
theorem pT_grow_31 : jm_FP mT_grow 31 2 2 (.int) := ⟨_, rfl, by decide, tyX2_ok 2 (by decide), Or.inl ⟨rfl, Or.inl (jm_in1 (List.mem_of_getElem? (i := 147) rfl) rfl)⟩⟩
theorem pT_grow_43 : jm_FP mT_grow 43 0 12 (.long) := ⟨_, rfl, by decide, tyX0_ok 12 (by decide), Or.inl ⟨rfl, Or.inl (jm_in1 (List.mem_of_getElem? (i := 77) rfl) rfl)⟩⟩
theorem pT_reset_31 : jm_FP mT_reset 31 2 2 (.int) := ⟨_, rfl, by decide, tyX2_ok 2 (by decide), Or.inl ⟨rfl, Or.inl (jm_in1 (List.mem_of_getElem? (i := 147) rfl) rfl)⟩⟩
theorem pT_spreadVariables_39 : jm_FP mT_spreadVariables 39 0 11 (.long) := ⟨_, rfl, by decide, tyX0_ok 11 (by decide), Or.inl ⟨rfl, Or.inl (jm_in1 (List.mem_of_getElem? (i := 74) rfl) rfl)⟩⟩
theorem pT_spreadVariables_43 : jm_FP mT_spreadVariables 43 0 12 (.long) := ⟨_, rfl, by decide, tyX0_ok 12 (by decide), Or.inl ⟨rfl, Or.inl (jm_in1 (List.mem_of_getElem? (i := 77) rfl) rfl)⟩⟩
theorem pT_init_14 : jm_FP mT_init 14 2 0 (.object "GoalOrder$Node") := ⟨_, rfl, by decide, tyX2_ok 0 (by decide), Or.inr ⟨rfl, rfl, rfl, jm_in1 (List.mem_of_getElem? (i := 144) rfl) rfl⟩⟩
theorem pT_init_20 : jm_FP mT_init 20 2 1 (.array (.object "GoalOrder$Node")) := ⟨_, rfl, by decide, tyX2_ok 1 (by decide), Or.inr ⟨rfl, rfl, rfl, jm_in1 (List.mem_of_getElem? (i := 146) rfl) rfl⟩⟩
theorem pR_canDo_19 : jm_FP mR_canDo 19 3 2 (.int) := ⟨_, rfl, by decide, tyX3_ok 2 (by decide), Or.inl ⟨rfl, Or.inl (jm_in1 (List.mem_of_getElem? (i := 163) rfl) rfl)⟩⟩
theorem pR_canDo_23 : jm_FP mR_canDo 23 3 3 (.boolean) := ⟨_, rfl, by decide, tyX3_ok 3 (by decide), Or.inl ⟨rfl, Or.inl (jm_in1 (List.mem_of_getElem? (i := 164) rfl) rfl)⟩⟩
theorem pR_canDo_31 : jm_FP mR_canDo 31 0 13 (.long) := ⟨_, rfl, by decide, tyX0_ok 13 (by decide), Or.inl ⟨rfl, Or.inl (jm_in1 (List.mem_of_getElem? (i := 80) rfl) rfl)⟩⟩
theorem pR_canDo_36 : jm_FP mR_canDo 36 0 14 (.long) := ⟨_, rfl, by decide, tyX0_ok 14 (by decide), Or.inl ⟨rfl, Or.inl (jm_in1 (List.mem_of_getElem? (i := 83) rfl) rfl)⟩⟩
theorem pR_canDo_42 : jm_FP mR_canDo 42 0 16 (.int) := ⟨_, rfl, by decide, tyX0_ok 16 (by decide), Or.inl ⟨rfl, Or.inl (jm_in1 (List.mem_of_getElem? (i := 87) rfl) rfl)⟩⟩
theorem pR_canDoPart_42 : jm_FP mR_canDoPart 42 0 16 (.int) := ⟨_, rfl, by decide, tyX0_ok 16 (by decide), Or.inl ⟨rfl, Or.inl (jm_in1 (List.mem_of_getElem? (i := 87) rfl) rfl)⟩⟩
theorem pR_canDoRow_42 : jm_FP mR_canDoRow 42 0 16 (.int) := ⟨_, rfl, by decide, tyX0_ok 16 (by decide), Or.inl ⟨rfl, Or.inl (jm_in1 (List.mem_of_getElem? (i := 87) rfl) rfl)⟩⟩
theorem pR_canDoRow_68 : jm_FP mR_canDoRow 68 0 17 (.boolean) := ⟨_, rfl, by decide, tyX0_ok 17 (by decide), Or.inl ⟨rfl, Or.inl (jm_in1 (List.mem_of_getElem? (i := 89) rfl) rfl)⟩⟩
theorem pR_canDoRow_71 : jm_FP mR_canDoRow 71 0 19 (.object "GoalOrder$Node") := ⟨_, rfl, by decide, tyX0_ok 19 (by decide), Or.inl ⟨rfl, Or.inl (jm_in1 (List.mem_of_getElem? (i := 92) rfl) rfl)⟩⟩
theorem pR_canDoRow_77 : jm_FP mR_canDoRow 77 0 18 (.object "GoalOrder$Node") := ⟨_, rfl, by decide, tyX0_ok 18 (by decide), Or.inl ⟨rfl, Or.inl (jm_in1 (List.mem_of_getElem? (i := 90) rfl) rfl)⟩⟩
theorem pR_canJoin_36 : jm_FP mR_canJoin 36 0 14 (.long) := ⟨_, rfl, by decide, tyX0_ok 14 (by decide), Or.inl ⟨rfl, Or.inl (jm_in1 (List.mem_of_getElem? (i := 83) rfl) rfl)⟩⟩
theorem pR_doLeftmost_36 : jm_FP mR_doLeftmost 36 0 14 (.long) := ⟨_, rfl, by decide, tyX0_ok 14 (by decide), Or.inl ⟨rfl, Or.inl (jm_in1 (List.mem_of_getElem? (i := 83) rfl) rfl)⟩⟩
theorem pR_doLeftmost_68 : jm_FP mR_doLeftmost 68 0 17 (.boolean) := ⟨_, rfl, by decide, tyX0_ok 17 (by decide), Or.inl ⟨rfl, Or.inl (jm_in1 (List.mem_of_getElem? (i := 89) rfl) rfl)⟩⟩
theorem pR_run_15 : jm_FP mR_run 15 3 1 (.long) := ⟨_, rfl, by decide, tyX3_ok 1 (by decide), Or.inl ⟨rfl, Or.inl (jm_in1 (List.mem_of_getElem? (i := 162) rfl) rfl)⟩⟩
theorem pR_run_19 : jm_FP mR_run 19 3 2 (.int) := ⟨_, rfl, by decide, tyX3_ok 2 (by decide), Or.inl ⟨rfl, Or.inl (jm_in1 (List.mem_of_getElem? (i := 163) rfl) rfl)⟩⟩
theorem pR_run_23 : jm_FP mR_run 23 3 3 (.boolean) := ⟨_, rfl, by decide, tyX3_ok 3 (by decide), Or.inl ⟨rfl, Or.inl (jm_in1 (List.mem_of_getElem? (i := 164) rfl) rfl)⟩⟩
theorem pR_settle_36 : jm_FP mR_settle 36 0 14 (.long) := ⟨_, rfl, by decide, tyX0_ok 14 (by decide), Or.inl ⟨rfl, Or.inl (jm_in1 (List.mem_of_getElem? (i := 83) rfl) rfl)⟩⟩
theorem pR_settle_168 : jm_FP mR_settle 168 0 15 (.int) := ⟨_, rfl, by decide, tyX0_ok 15 (by decide), Or.inl ⟨rfl, Or.inl (jm_in1 (List.mem_of_getElem? (i := 86) rfl) rfl)⟩⟩
theorem pR_init_9 : jm_FP mR_init 9 3 0 (.object "GoalOrder$Predicates") := ⟨_, rfl, by decide, tyX3_ok 0 (by decide), Or.inr ⟨rfl, rfl, rfl, jm_in1 (List.mem_of_getElem? (i := 161) rfl) rfl⟩⟩
theorem pM_add_115 : jm_FP mM_add 115 5 0 (.int) := ⟨_, rfl, by decide, tyX5_ok 0 (by decide), Or.inl ⟨rfl, Or.inl (jm_in2 (List.mem_of_getElem? (i := 224) rfl) rfl)⟩⟩
theorem pM_add_121 : jm_FP mM_add 121 5 17 (.int) := ⟨_, rfl, by decide, tyX5_ok 17 (by decide), Or.inl ⟨rfl, Or.inl (jm_in3 (List.mem_of_getElem? (i := 1) rfl) rfl)⟩⟩
theorem pM_begin_118 : jm_FP mM_begin 118 5 5 (.int) := ⟨_, rfl, by decide, tyX5_ok 5 (by decide), Or.inl ⟨rfl, Or.inl (jm_in2 (List.mem_of_getElem? (i := 229) rfl) rfl)⟩⟩
theorem pM_begin_121 : jm_FP mM_begin 121 5 17 (.int) := ⟨_, rfl, by decide, tyX5_ok 17 (by decide), Or.inl ⟨rfl, Or.inl (jm_in3 (List.mem_of_getElem? (i := 1) rfl) rfl)⟩⟩
theorem pM_begin_124 : jm_FP mM_begin 124 5 18 (.long) := ⟨_, rfl, by decide, tyX5_ok 18 (by decide), Or.inl ⟨rfl, Or.inl (jm_in3 (List.mem_of_getElem? (i := 2) rfl) rfl)⟩⟩
theorem pM_begin_128 : jm_FP mM_begin 128 5 19 (.long) := ⟨_, rfl, by decide, tyX5_ok 19 (by decide), Or.inl ⟨rfl, Or.inl (jm_in3 (List.mem_of_getElem? (i := 3) rfl) rfl)⟩⟩
theorem pM_changed_108 : jm_FP mM_changed 108 5 41 (.int) := ⟨_, rfl, by decide, tyX5_ok 41 (by decide), Or.inl ⟨rfl, Or.inl (jm_in3 (List.mem_of_getElem? (i := 25) rfl) rfl)⟩⟩
theorem pM_changed_138 : jm_FP mM_changed 138 5 40 (.boolean) := ⟨_, rfl, by decide, tyX5_ok 40 (by decide), Or.inl ⟨rfl, Or.inl (jm_in3 (List.mem_of_getElem? (i := 24) rfl) rfl)⟩⟩
theorem pM_clear_115 : jm_FP mM_clear 115 5 0 (.int) := ⟨_, rfl, by decide, tyX5_ok 0 (by decide), Or.inl ⟨rfl, Or.inl (jm_in2 (List.mem_of_getElem? (i := 224) rfl) rfl)⟩⟩
theorem pM_compared_115 : jm_FP mM_compared 115 5 0 (.int) := ⟨_, rfl, by decide, tyX5_ok 0 (by decide), Or.inl ⟨rfl, Or.inl (jm_in2 (List.mem_of_getElem? (i := 224) rfl) rfl)⟩⟩
theorem pM_ended_193 : jm_FP mM_ended 193 5 38 (.int) := ⟨_, rfl, by decide, tyX5_ok 38 (by decide), Or.inl ⟨rfl, Or.inl (jm_in3 (List.mem_of_getElem? (i := 22) rfl) rfl)⟩⟩
theorem pM_given_115 : jm_FP mM_given 115 5 0 (.int) := ⟨_, rfl, by decide, tyX5_ok 0 (by decide), Or.inl ⟨rfl, Or.inl (jm_in2 (List.mem_of_getElem? (i := 224) rfl) rfl)⟩⟩
theorem pM_given_124 : jm_FP mM_given 124 5 18 (.long) := ⟨_, rfl, by decide, tyX5_ok 18 (by decide), Or.inl ⟨rfl, Or.inl (jm_in3 (List.mem_of_getElem? (i := 2) rfl) rfl)⟩⟩
theorem pM_ground_115 : jm_FP mM_ground 115 5 0 (.int) := ⟨_, rfl, by decide, tyX5_ok 0 (by decide), Or.inl ⟨rfl, Or.inl (jm_in2 (List.mem_of_getElem? (i := 224) rfl) rfl)⟩⟩
theorem pM_made_118 : jm_FP mM_made 118 5 5 (.int) := ⟨_, rfl, by decide, tyX5_ok 5 (by decide), Or.inl ⟨rfl, Or.inl (jm_in2 (List.mem_of_getElem? (i := 229) rfl) rfl)⟩⟩
theorem pM_mode_115 : jm_FP mM_mode 115 5 0 (.int) := ⟨_, rfl, by decide, tyX5_ok 0 (by decide), Or.inl ⟨rfl, Or.inl (jm_in2 (List.mem_of_getElem? (i := 224) rfl) rfl)⟩⟩
theorem pM_node_115 : jm_FP mM_node 115 5 0 (.int) := ⟨_, rfl, by decide, tyX5_ok 0 (by decide), Or.inl ⟨rfl, Or.inl (jm_in2 (List.mem_of_getElem? (i := 224) rfl) rfl)⟩⟩
theorem pM_order_108 : jm_FP mM_order 108 5 41 (.int) := ⟨_, rfl, by decide, tyX5_ok 41 (by decide), Or.inl ⟨rfl, Or.inl (jm_in3 (List.mem_of_getElem? (i := 25) rfl) rfl)⟩⟩
theorem pM_order_115 : jm_FP mM_order 115 5 0 (.int) := ⟨_, rfl, by decide, tyX5_ok 0 (by decide), Or.inl ⟨rfl, Or.inl (jm_in2 (List.mem_of_getElem? (i := 224) rfl) rfl)⟩⟩
theorem pM_order_138 : jm_FP mM_order 138 5 40 (.boolean) := ⟨_, rfl, by decide, tyX5_ok 40 (by decide), Or.inl ⟨rfl, Or.inl (jm_in3 (List.mem_of_getElem? (i := 24) rfl) rfl)⟩⟩
theorem pM_order_186 : jm_FP mM_order 186 5 39 (.int) := ⟨_, rfl, by decide, tyX5_ok 39 (by decide), Or.inl ⟨rfl, Or.inl (jm_in3 (List.mem_of_getElem? (i := 23) rfl) rfl)⟩⟩
theorem pM_order_193 : jm_FP mM_order 193 5 38 (.int) := ⟨_, rfl, by decide, tyX5_ok 38 (by decide), Or.inl ⟨rfl, Or.inl (jm_in3 (List.mem_of_getElem? (i := 22) rfl) rfl)⟩⟩
theorem pM_outer_115 : jm_FP mM_outer 115 5 0 (.int) := ⟨_, rfl, by decide, tyX5_ok 0 (by decide), Or.inl ⟨rfl, Or.inl (jm_in2 (List.mem_of_getElem? (i := 224) rfl) rfl)⟩⟩
theorem pM_part_115 : jm_FP mM_part 115 5 0 (.int) := ⟨_, rfl, by decide, tyX5_ok 0 (by decide), Or.inl ⟨rfl, Or.inl (jm_in2 (List.mem_of_getElem? (i := 224) rfl) rfl)⟩⟩
theorem pM_predicate_115 : jm_FP mM_predicate 115 5 0 (.int) := ⟨_, rfl, by decide, tyX5_ok 0 (by decide), Or.inl ⟨rfl, Or.inl (jm_in2 (List.mem_of_getElem? (i := 224) rfl) rfl)⟩⟩
theorem pM_predicate_142 : jm_FP mM_predicate 142 5 1 (.int) := ⟨_, rfl, by decide, tyX5_ok 1 (by decide), Or.inl ⟨rfl, Or.inl (jm_in2 (List.mem_of_getElem? (i := 225) rfl) rfl)⟩⟩
theorem pM_put_115 : jm_FP mM_put 115 5 0 (.int) := ⟨_, rfl, by decide, tyX5_ok 0 (by decide), Or.inl ⟨rfl, Or.inl (jm_in2 (List.mem_of_getElem? (i := 224) rfl) rfl)⟩⟩
theorem pM_put_121 : jm_FP mM_put 121 5 17 (.int) := ⟨_, rfl, by decide, tyX5_ok 17 (by decide), Or.inl ⟨rfl, Or.inl (jm_in3 (List.mem_of_getElem? (i := 1) rfl) rfl)⟩⟩
theorem pM_stuck_115 : jm_FP mM_stuck 115 5 0 (.int) := ⟨_, rfl, by decide, tyX5_ok 0 (by decide), Or.inl ⟨rfl, Or.inl (jm_in2 (List.mem_of_getElem? (i := 224) rfl) rfl)⟩⟩
theorem pM_tried_186 : jm_FP mM_tried 186 5 39 (.int) := ⟨_, rfl, by decide, tyX5_ok 39 (by decide), Or.inl ⟨rfl, Or.inl (jm_in3 (List.mem_of_getElem? (i := 23) rfl) rfl)⟩⟩
theorem pM_tried_193 : jm_FP mM_tried 193 5 38 (.int) := ⟨_, rfl, by decide, tyX5_ok 38 (by decide), Or.inl ⟨rfl, Or.inl (jm_in3 (List.mem_of_getElem? (i := 22) rfl) rfl)⟩⟩
theorem pM_wanted_115 : jm_FP mM_wanted 115 5 0 (.int) := ⟨_, rfl, by decide, tyX5_ok 0 (by decide), Or.inl ⟨rfl, Or.inl (jm_in2 (List.mem_of_getElem? (i := 224) rfl) rfl)⟩⟩
theorem pM_wanted_128 : jm_FP mM_wanted 128 5 19 (.long) := ⟨_, rfl, by decide, tyX5_ok 19 (by decide), Or.inl ⟨rfl, Or.inl (jm_in3 (List.mem_of_getElem? (i := 3) rfl) rfl)⟩⟩
theorem pM_init_7 : jm_FP mM_init 7 5 2 (.array .int) := ⟨_, rfl, by decide, tyX5_ok 2 (by decide), Or.inr ⟨rfl, rfl, rfl, jm_in2 (List.mem_of_getElem? (i := 226) rfl) rfl⟩⟩
theorem pM_init_13 : jm_FP mM_init 13 5 3 (.array .int) := ⟨_, rfl, by decide, tyX5_ok 3 (by decide), Or.inr ⟨rfl, rfl, rfl, jm_in2 (List.mem_of_getElem? (i := 227) rfl) rfl⟩⟩
theorem pM_init_16 : jm_FP mM_init 16 5 4 (.array .int) := ⟨_, rfl, by decide, tyX5_ok 4 (by decide), Or.inr ⟨rfl, rfl, rfl, jm_in2 (List.mem_of_getElem? (i := 228) rfl) rfl⟩⟩
theorem pM_init_19 : jm_FP mM_init 19 5 6 (.array .int) := ⟨_, rfl, by decide, tyX5_ok 6 (by decide), Or.inr ⟨rfl, rfl, rfl, jm_in2 (List.mem_of_getElem? (i := 230) rfl) rfl⟩⟩
theorem pM_init_22 : jm_FP mM_init 22 5 7 (.array .int) := ⟨_, rfl, by decide, tyX5_ok 7 (by decide), Or.inr ⟨rfl, rfl, rfl, jm_in2 (List.mem_of_getElem? (i := 231) rfl) rfl⟩⟩
theorem pM_init_25 : jm_FP mM_init 25 5 8 (.array .int) := ⟨_, rfl, by decide, tyX5_ok 8 (by decide), Or.inr ⟨rfl, rfl, rfl, jm_in2 (List.mem_of_getElem? (i := 232) rfl) rfl⟩⟩
theorem pM_init_28 : jm_FP mM_init 28 5 9 (.array .int) := ⟨_, rfl, by decide, tyX5_ok 9 (by decide), Or.inr ⟨rfl, rfl, rfl, jm_in2 (List.mem_of_getElem? (i := 233) rfl) rfl⟩⟩
theorem pM_init_31 : jm_FP mM_init 31 5 10 (.array .int) := ⟨_, rfl, by decide, tyX5_ok 10 (by decide), Or.inr ⟨rfl, rfl, rfl, jm_in2 (List.mem_of_getElem? (i := 234) rfl) rfl⟩⟩
theorem pM_init_34 : jm_FP mM_init 34 5 11 (.array .int) := ⟨_, rfl, by decide, tyX5_ok 11 (by decide), Or.inr ⟨rfl, rfl, rfl, jm_in2 (List.mem_of_getElem? (i := 235) rfl) rfl⟩⟩
theorem pM_init_37 : jm_FP mM_init 37 5 12 (.array .int) := ⟨_, rfl, by decide, tyX5_ok 12 (by decide), Or.inr ⟨rfl, rfl, rfl, jm_in2 (List.mem_of_getElem? (i := 236) rfl) rfl⟩⟩
theorem pM_init_40 : jm_FP mM_init 40 5 13 (.array .int) := ⟨_, rfl, by decide, tyX5_ok 13 (by decide), Or.inr ⟨rfl, rfl, rfl, jm_in2 (List.mem_of_getElem? (i := 237) rfl) rfl⟩⟩
theorem pM_init_43 : jm_FP mM_init 43 5 14 (.array .int) := ⟨_, rfl, by decide, tyX5_ok 14 (by decide), Or.inr ⟨rfl, rfl, rfl, jm_in2 (List.mem_of_getElem? (i := 238) rfl) rfl⟩⟩
theorem pM_init_46 : jm_FP mM_init 46 5 15 (.array .int) := ⟨_, rfl, by decide, tyX5_ok 15 (by decide), Or.inr ⟨rfl, rfl, rfl, jm_in2 (List.mem_of_getElem? (i := 239) rfl) rfl⟩⟩
theorem pM_init_49 : jm_FP mM_init 49 5 16 (.array .int) := ⟨_, rfl, by decide, tyX5_ok 16 (by decide), Or.inr ⟨rfl, rfl, rfl, jm_in3 (List.mem_of_getElem? (i := 0) rfl) rfl⟩⟩
theorem pM_init_52 : jm_FP mM_init 52 5 20 (.array .int) := ⟨_, rfl, by decide, tyX5_ok 20 (by decide), Or.inr ⟨rfl, rfl, rfl, jm_in3 (List.mem_of_getElem? (i := 4) rfl) rfl⟩⟩
theorem pM_init_55 : jm_FP mM_init 55 5 21 (.array .long) := ⟨_, rfl, by decide, tyX5_ok 21 (by decide), Or.inr ⟨rfl, rfl, rfl, jm_in3 (List.mem_of_getElem? (i := 5) rfl) rfl⟩⟩
theorem pM_init_59 : jm_FP mM_init 59 5 22 (.array .long) := ⟨_, rfl, by decide, tyX5_ok 22 (by decide), Or.inr ⟨rfl, rfl, rfl, jm_in3 (List.mem_of_getElem? (i := 6) rfl) rfl⟩⟩
theorem pM_init_62 : jm_FP mM_init 62 5 23 (.array .long) := ⟨_, rfl, by decide, tyX5_ok 23 (by decide), Or.inr ⟨rfl, rfl, rfl, jm_in3 (List.mem_of_getElem? (i := 7) rfl) rfl⟩⟩
theorem pM_init_65 : jm_FP mM_init 65 5 24 (.array .long) := ⟨_, rfl, by decide, tyX5_ok 24 (by decide), Or.inr ⟨rfl, rfl, rfl, jm_in3 (List.mem_of_getElem? (i := 8) rfl) rfl⟩⟩
theorem pM_init_68 : jm_FP mM_init 68 5 25 (.array .boolean) := ⟨_, rfl, by decide, tyX5_ok 25 (by decide), Or.inr ⟨rfl, rfl, rfl, jm_in3 (List.mem_of_getElem? (i := 9) rfl) rfl⟩⟩
theorem pM_init_72 : jm_FP mM_init 72 5 26 (.array .boolean) := ⟨_, rfl, by decide, tyX5_ok 26 (by decide), Or.inr ⟨rfl, rfl, rfl, jm_in3 (List.mem_of_getElem? (i := 10) rfl) rfl⟩⟩
theorem pM_init_75 : jm_FP mM_init 75 5 27 (.array .int) := ⟨_, rfl, by decide, tyX5_ok 27 (by decide), Or.inr ⟨rfl, rfl, rfl, jm_in3 (List.mem_of_getElem? (i := 11) rfl) rfl⟩⟩
theorem pM_init_78 : jm_FP mM_init 78 5 28 (.array .int) := ⟨_, rfl, by decide, tyX5_ok 28 (by decide), Or.inr ⟨rfl, rfl, rfl, jm_in3 (List.mem_of_getElem? (i := 12) rfl) rfl⟩⟩
theorem pM_init_81 : jm_FP mM_init 81 5 29 (.array .int) := ⟨_, rfl, by decide, tyX5_ok 29 (by decide), Or.inr ⟨rfl, rfl, rfl, jm_in3 (List.mem_of_getElem? (i := 13) rfl) rfl⟩⟩
theorem pM_init_84 : jm_FP mM_init 84 5 30 (.array .int) := ⟨_, rfl, by decide, tyX5_ok 30 (by decide), Or.inr ⟨rfl, rfl, rfl, jm_in3 (List.mem_of_getElem? (i := 14) rfl) rfl⟩⟩
theorem pM_init_87 : jm_FP mM_init 87 5 31 (.array .int) := ⟨_, rfl, by decide, tyX5_ok 31 (by decide), Or.inr ⟨rfl, rfl, rfl, jm_in3 (List.mem_of_getElem? (i := 15) rfl) rfl⟩⟩
theorem pM_init_90 : jm_FP mM_init 90 5 32 (.array .int) := ⟨_, rfl, by decide, tyX5_ok 32 (by decide), Or.inr ⟨rfl, rfl, rfl, jm_in3 (List.mem_of_getElem? (i := 16) rfl) rfl⟩⟩
theorem pM_init_93 : jm_FP mM_init 93 5 33 (.array .int) := ⟨_, rfl, by decide, tyX5_ok 33 (by decide), Or.inr ⟨rfl, rfl, rfl, jm_in3 (List.mem_of_getElem? (i := 17) rfl) rfl⟩⟩
theorem pM_init_96 : jm_FP mM_init 96 5 34 (.array .int) := ⟨_, rfl, by decide, tyX5_ok 34 (by decide), Or.inr ⟨rfl, rfl, rfl, jm_in3 (List.mem_of_getElem? (i := 18) rfl) rfl⟩⟩
theorem pM_init_99 : jm_FP mM_init 99 5 35 (.array .long) := ⟨_, rfl, by decide, tyX5_ok 35 (by decide), Or.inr ⟨rfl, rfl, rfl, jm_in3 (List.mem_of_getElem? (i := 19) rfl) rfl⟩⟩
theorem pM_init_102 : jm_FP mM_init 102 5 36 (.array .long) := ⟨_, rfl, by decide, tyX5_ok 36 (by decide), Or.inr ⟨rfl, rfl, rfl, jm_in3 (List.mem_of_getElem? (i := 20) rfl) rfl⟩⟩
theorem pM_init_105 : jm_FP mM_init 105 5 37 (.array .long) := ⟨_, rfl, by decide, tyX5_ok 37 (by decide), Or.inr ⟨rfl, rfl, rfl, jm_in3 (List.mem_of_getElem? (i := 21) rfl) rfl⟩⟩
theorem pM_init_108 : jm_FP mM_init 108 5 41 (.int) := ⟨_, rfl, by decide, tyX5_ok 41 (by decide), Or.inl ⟨rfl, Or.inl (jm_in3 (List.mem_of_getElem? (i := 25) rfl) rfl)⟩⟩
/-! links of methods -/
theorem cG_9 : jm_ML "GoalOrder" 9 mP_init := Or.inl (jm_in1 (List.mem_of_getElem? (i := 17) rfl) rfl)
theorem cG_18 : jm_ML "GoalOrder" 18 mT_init := Or.inl (jm_in1 (List.mem_of_getElem? (i := 37) rfl) rfl)
theorem cG_25 : jm_ML "GoalOrder" 25 mR_init := Or.inl (jm_in1 (List.mem_of_getElem? (i := 157) rfl) rfl)
theorem cG_54 : jm_ML "GoalOrder" 54 mP_define := Or.inl (jm_in1 (List.mem_of_getElem? (i := 207) rfl) rfl)
theorem cG_58 : jm_ML "GoalOrder" 58 mP_defineMode := Or.inl (jm_in1 (List.mem_of_getElem? (i := 215) rfl) rfl)
theorem cG_62 : jm_ML "GoalOrder" 62 mG_forgetOrdering := Or.inl (jm_in1 (List.mem_of_getElem? (i := 223) rfl) rfl)
theorem cG_65 : jm_ML "GoalOrder" 65 mT_reset := Or.inl (jm_in1 (List.mem_of_getElem? (i := 231) rfl) rfl)
theorem cG_68 : jm_ML "GoalOrder" 68 mG_isVariable := Or.inl (jm_in1 (List.mem_of_getElem? (i := 236) rfl) rfl)
theorem cG_72 : jm_ML "GoalOrder" 72 mT_find := Or.inl (jm_in2 (List.mem_of_getElem? (i := 3) rfl) rfl)
theorem cG_76 : jm_ML "GoalOrder" 76 mT_isFull := Or.inl (jm_in2 (List.mem_of_getElem? (i := 7) rfl) rfl)
theorem cG_80 : jm_ML "GoalOrder" 80 mN_takesPart := Or.inl (jm_in2 (List.mem_of_getElem? (i := 11) rfl) rfl)
theorem cG_85 : jm_ML "GoalOrder" 85 mG_fits := Or.inl (jm_in2 (List.mem_of_getElem? (i := 19) rfl) rfl)
theorem cG_89 : jm_ML "GoalOrder" 89 mT_grow := Or.inl (jm_in2 (List.mem_of_getElem? (i := 32) rfl) rfl)
theorem cG_93 : jm_ML "GoalOrder" 93 mG_holds := Or.inl (jm_in2 (List.mem_of_getElem? (i := 53) rfl) rfl)
theorem cG_101 : jm_ML "GoalOrder" 101 mR_run := Or.inl (jm_in2 (List.mem_of_getElem? (i := 64) rfl) rfl)
theorem cG_116 : jm_ML "GoalOrder" 116 mG_leastOf := Or.inl (jm_in2 (List.mem_of_getElem? (i := 162) rfl) rfl)
theorem cG_126 : jm_ML "GoalOrder" 126 mN_kthDone := Or.inl (jm_in2 (List.mem_of_getElem? (i := 173) rfl) rfl)
theorem cG_129 : jm_ML "GoalOrder" 129 mN_kthPart := Or.inl (jm_in2 (List.mem_of_getElem? (i := 177) rfl) rfl)
theorem cG_135 : jm_ML "GoalOrder" 135 mN_isAtom := Or.inl (jm_in2 (List.mem_of_getElem? (i := 182) rfl) rfl)
theorem cG_147 : jm_ML "GoalOrder" 147 mG_madeAt := Or.inl (jm_in2 (List.mem_of_getElem? (i := 187) rfl) rfl)
theorem cG_151 : jm_ML "GoalOrder" 151 mN_meets := Or.inl (jm_in2 (List.mem_of_getElem? (i := 192) rfl) rfl)
theorem cG_161 : jm_ML "GoalOrder" 161 mP_has := Or.inl (jm_in2 (List.mem_of_getElem? (i := 23) rfl) rfl)
theorem cG_164 : jm_ML "GoalOrder" 164 mP_argumentsOf := Or.inl (jm_in2 (List.mem_of_getElem? (i := 24) rfl) rfl)
theorem cG_176 : jm_ML "GoalOrder" 176 mP_outsOf := Or.inl (jm_in2 (List.mem_of_getElem? (i := 191) rfl) rfl)
theorem cN_54 : jm_ML "GoalOrder$Node" 54 mN_isAtom := Or.inl (jm_in2 (List.mem_of_getElem? (i := 15) rfl) rfl)
theorem cN_64 : jm_ML "GoalOrder$Node" 64 mG_hasPlace := Or.inr ⟨"GoalOrder", by decide +kernel⟩
theorem cN_71 : jm_ML "GoalOrder$Node" 71 mN_variableAt := Or.inl (jm_in2 (List.mem_of_getElem? (i := 197) rfl) rfl)
theorem cP_25 : jm_ML "GoalOrder$Predicates" 25 mP_has := Or.inl (jm_in1 (List.mem_of_getElem? (i := 219) rfl) rfl)
theorem cP_29 : jm_ML "GoalOrder$Predicates" 29 mP_modesOf := Or.inl (jm_in2 (List.mem_of_getElem? (i := 154) rfl) rfl)
theorem cT_11 : jm_ML "GoalOrder$Tree" 11 mN_init := Or.inl (jm_in1 (List.mem_of_getElem? (i := 43) rfl) rfl)
theorem cT_24 : jm_ML "GoalOrder$Tree" 24 mT_reset := Or.inl (jm_in1 (List.mem_of_getElem? (i := 136) rfl) rfl)
theorem cT_27 : jm_ML "GoalOrder$Tree" 27 mN_become := Or.inl (jm_in1 (List.mem_of_getElem? (i := 140) rfl) rfl)
theorem cT_35 : jm_ML "GoalOrder$Tree" 35 mT_isFull := Or.inl (jm_in2 (List.mem_of_getElem? (i := 36) rfl) rfl)
theorem cT_46 : jm_ML "GoalOrder$Tree" 46 mN_takeVariables := Or.inl (jm_in2 (List.mem_of_getElem? (i := 37) rfl) rfl)
theorem cT_50 : jm_ML "GoalOrder$Tree" 50 mN_append := Or.inl (jm_in2 (List.mem_of_getElem? (i := 41) rfl) rfl)
theorem cT_54 : jm_ML "GoalOrder$Tree" 54 mT_spreadVariables := Or.inl (jm_in2 (List.mem_of_getElem? (i := 45) rfl) rfl)
theorem cR_27 : jm_ML "GoalOrder$Trial" 27 mR_canDo := Or.inl (jm_in2 (List.mem_of_getElem? (i := 68) rfl) rfl)
theorem cR_48 : jm_ML "GoalOrder$Trial" 48 mR_canDoRow := Or.inl (jm_in2 (List.mem_of_getElem? (i := 72) rfl) rfl)
theorem cR_52 : jm_ML "GoalOrder$Trial" 52 mR_canDoChoice := Or.inl (jm_in2 (List.mem_of_getElem? (i := 83) rfl) rfl)
theorem cR_55 : jm_ML "GoalOrder$Trial" 55 mR_canDoNot := Or.inl (jm_in2 (List.mem_of_getElem? (i := 100) rfl) rfl)
theorem cR_58 : jm_ML "GoalOrder$Trial" 58 mR_canDoTest := Or.inl (jm_in2 (List.mem_of_getElem? (i := 107) rfl) rfl)
theorem cR_61 : jm_ML "GoalOrder$Trial" 61 mR_canDoAtom := Or.inl (jm_in2 (List.mem_of_getElem? (i := 115) rfl) rfl)
theorem cR_83 : jm_ML "GoalOrder$Trial" 83 mR_doLeftmost := Or.inl (jm_in2 (List.mem_of_getElem? (i := 76) rfl) rfl)
theorem cR_87 : jm_ML "GoalOrder$Trial" 87 mR_stuckOfLeftmost := Or.inl (jm_in2 (List.mem_of_getElem? (i := 80) rfl) rfl)
theorem cR_93 : jm_ML "GoalOrder$Trial" 93 mR_canDoPart := Or.inl (jm_in2 (List.mem_of_getElem? (i := 88) rfl) rfl)
theorem cR_97 : jm_ML "GoalOrder$Trial" 97 mR_canJoin := Or.inl (jm_in2 (List.mem_of_getElem? (i := 92) rfl) rfl)
theorem cR_101 : jm_ML "GoalOrder$Trial" 101 mR_madeBy := Or.inl (jm_in2 (List.mem_of_getElem? (i := 104) rfl) rfl)
theorem cR_105 : jm_ML "GoalOrder$Trial" 105 mR_outerOf := Or.inl (jm_in2 (List.mem_of_getElem? (i := 96) rfl) rfl)
theorem cR_108 : jm_ML "GoalOrder$Trial" 108 mN_kthPart := Or.inl (jm_in2 (List.mem_of_getElem? (i := 111) rfl) rfl)
theorem cR_118 : jm_ML "GoalOrder$Trial" 118 mR_canDoSame := Or.inl (jm_in2 (List.mem_of_getElem? (i := 119) rfl) rfl)
theorem cR_121 : jm_ML "GoalOrder$Trial" 121 mR_isGround := Or.inl (jm_in2 (List.mem_of_getElem? (i := 126) rfl) rfl)
theorem cR_124 : jm_ML "GoalOrder$Trial" 124 mR_settle := Or.inl (jm_in2 (List.mem_of_getElem? (i := 129) rfl) rfl)
theorem cR_128 : jm_ML "GoalOrder$Trial" 128 mR_canDoForm := Or.inl (jm_in2 (List.mem_of_getElem? (i := 132) rfl) rfl)
theorem cR_131 : jm_ML "GoalOrder$Trial" 131 mR_canDoSum := Or.inl (jm_in2 (List.mem_of_getElem? (i := 139) rfl) rfl)
theorem cR_134 : jm_ML "GoalOrder$Trial" 134 mR_canDoCall := Or.inl (jm_in2 (List.mem_of_getElem? (i := 142) rfl) rfl)
theorem cR_137 : jm_ML "GoalOrder$Trial" 137 mN_variableAt := Or.inl (jm_in2 (List.mem_of_getElem? (i := 122) rfl) rfl)
theorem cR_141 : jm_ML "GoalOrder$Trial" 141 mN_variablesFrom := Or.inl (jm_in2 (List.mem_of_getElem? (i := 135) rfl) rfl)
theorem cR_147 : jm_ML "GoalOrder$Trial" 147 mP_modesOf := Or.inl (jm_in2 (List.mem_of_getElem? (i := 146) rfl) rfl)
theorem cR_153 : jm_ML "GoalOrder$Trial" 153 mP_outsOf := Or.inl (jm_in2 (List.mem_of_getElem? (i := 150) rfl) rfl)
theorem cR_157 : jm_ML "GoalOrder$Trial" 157 mR_insOf := Or.inl (jm_in2 (List.mem_of_getElem? (i := 155) rfl) rfl)
theorem cR_164 : jm_ML "GoalOrder$Trial" 164 mG_hasPlace := Or.inr ⟨"GoalOrder", by decide +kernel⟩
theorem cL_9 : jm_ML "GoalOrderLaw" 9 mG_init := Or.inl (jm_in1 (List.mem_of_getElem? (i := 9) rfl) rfl)
theorem cL_12 : jm_ML "GoalOrderLaw" 12 mM_init := Or.inl (jm_in2 (List.mem_of_getElem? (i := 208) rfl) rfl)
theorem cL_13 : jm_ML "GoalOrderLaw" 13 mG_predicate := Or.inl (jm_in1 (List.mem_of_getElem? (i := 203) rfl) rfl)
theorem cL_17 : jm_ML "GoalOrderLaw" 17 mM_predicate := Or.inl (jm_in3 (List.mem_of_getElem? (i := 113) rfl) rfl)
theorem cL_18 : jm_ML "GoalOrderLaw" 18 mG_mode := Or.inl (jm_in1 (List.mem_of_getElem? (i := 211) rfl) rfl)
theorem cL_22 : jm_ML "GoalOrderLaw" 22 mM_mode := Or.inl (jm_in3 (List.mem_of_getElem? (i := 117) rfl) rfl)
theorem cL_23 : jm_ML "GoalOrderLaw" 23 mG_clear := Or.inl (jm_in1 (List.mem_of_getElem? (i := 227) rfl) rfl)
theorem cL_26 : jm_ML "GoalOrderLaw" 26 mM_clear := Or.inl (jm_in3 (List.mem_of_getElem? (i := 121) rfl) rfl)
theorem cL_27 : jm_ML "GoalOrderLaw" 27 mG_put := Or.inl (jm_in1 (List.mem_of_getElem? (i := 232) rfl) rfl)
theorem cL_31 : jm_ML "GoalOrderLaw" 31 mM_put := Or.inl (jm_in3 (List.mem_of_getElem? (i := 125) rfl) rfl)
theorem cL_32 : jm_ML "GoalOrderLaw" 32 mG_add := Or.inl (jm_in1 (List.mem_of_getElem? (i := 239) rfl) rfl)
theorem cL_36 : jm_ML "GoalOrderLaw" 36 mM_add := Or.inl (jm_in3 (List.mem_of_getElem? (i := 132) rfl) rfl)
theorem cL_37 : jm_ML "GoalOrderLaw" 37 mG_given := Or.inl (jm_in2 (List.mem_of_getElem? (i := 49) rfl) rfl)
theorem cL_41 : jm_ML "GoalOrderLaw" 41 mM_given := Or.inl (jm_in3 (List.mem_of_getElem? (i := 148) rfl) rfl)
theorem cL_42 : jm_ML "GoalOrderLaw" 42 mG_wanted := Or.inl (jm_in2 (List.mem_of_getElem? (i := 56) rfl) rfl)
theorem cL_45 : jm_ML "GoalOrderLaw" 45 mM_wanted := Or.inl (jm_in3 (List.mem_of_getElem? (i := 152) rfl) rfl)
theorem cL_46 : jm_ML "GoalOrderLaw" 46 mG_order := Or.inl (jm_in2 (List.mem_of_getElem? (i := 60) rfl) rfl)
theorem cL_50 : jm_ML "GoalOrderLaw" 50 mM_order := Or.inl (jm_in3 (List.mem_of_getElem? (i := 156) rfl) rfl)
theorem cL_51 : jm_ML "GoalOrderLaw" 51 mG_stuck := Or.inl (jm_in2 (List.mem_of_getElem? (i := 165) rfl) rfl)
theorem cL_54 : jm_ML "GoalOrderLaw" 54 mM_stuck := Or.inl (jm_in3 (List.mem_of_getElem? (i := 229) rfl) rfl)
theorem cL_55 : jm_ML "GoalOrderLaw" 55 mG_part := Or.inl (jm_in2 (List.mem_of_getElem? (i := 169) rfl) rfl)
theorem cL_58 : jm_ML "GoalOrderLaw" 58 mM_part := Or.inl (jm_in3 (List.mem_of_getElem? (i := 233) rfl) rfl)
theorem cL_59 : jm_ML "GoalOrderLaw" 59 mG_node := Or.inl (jm_in2 (List.mem_of_getElem? (i := 178) rfl) rfl)
theorem cL_62 : jm_ML "GoalOrderLaw" 62 mM_node := Or.inl (jm_in3 (List.mem_of_getElem? (i := 237) rfl) rfl)
theorem cL_63 : jm_ML "GoalOrderLaw" 63 mG_compared := Or.inl (jm_in2 (List.mem_of_getElem? (i := 183) rfl) rfl)
theorem cL_67 : jm_ML "GoalOrderLaw" 67 mM_compared := Or.inl (jm_in4 (List.mem_of_getElem? (i := 1) rfl) rfl)
theorem cL_68 : jm_ML "GoalOrderLaw" 68 mG_ground := Or.inl (jm_in2 (List.mem_of_getElem? (i := 198) rfl) rfl)
theorem cL_71 : jm_ML "GoalOrderLaw" 71 mM_ground := Or.inl (jm_in4 (List.mem_of_getElem? (i := 5) rfl) rfl)
theorem cL_72 : jm_ML "GoalOrderLaw" 72 mG_outer := Or.inl (jm_in2 (List.mem_of_getElem? (i := 202) rfl) rfl)
theorem cL_75 : jm_ML "GoalOrderLaw" 75 mM_outer := Or.inl (jm_in4 (List.mem_of_getElem? (i := 9) rfl) rfl)
theorem cM_112 : jm_ML "GoalOrderModel" 112 mM_begin := Or.inl (jm_in2 (List.mem_of_getElem? (i := 212) rfl) rfl)
theorem cM_131 : jm_ML "GoalOrderModel" 131 mM_made := Or.inl (jm_in2 (List.mem_of_getElem? (i := 216) rfl) rfl)
theorem cM_135 : jm_ML "GoalOrderModel" 135 mM_changed := Or.inl (jm_in2 (List.mem_of_getElem? (i := 220) rfl) rfl)
theorem cM_145 : jm_ML "GoalOrderModel" 145 mM_isVariable := Or.inl (jm_in3 (List.mem_of_getElem? (i := 129) rfl) rfl)
theorem cM_149 : jm_ML "GoalOrderModel" 149 mM_isNode := Or.inl (jm_in3 (List.mem_of_getElem? (i := 140) rfl) rfl)
theorem cM_152 : jm_ML "GoalOrderModel" 152 mM_isParent := Or.inl (jm_in3 (List.mem_of_getElem? (i := 136) rfl) rfl)
theorem cM_155 : jm_ML "GoalOrderModel" 155 mM_hasRow := Or.inl (jm_in3 (List.mem_of_getElem? (i := 144) rfl) rfl)
theorem cM_159 : jm_ML "GoalOrderModel" 159 mM_rowOf := Or.inl (jm_in3 (List.mem_of_getElem? (i := 164) rfl) rfl)
theorem cM_163 : jm_ML "GoalOrderModel" 163 mM_isIn := Or.inl (jm_in3 (List.mem_of_getElem? (i := 176) rfl) rfl)
theorem cM_167 : jm_ML "GoalOrderModel" 167 mM_comes := Or.inl (jm_in3 (List.mem_of_getElem? (i := 180) rfl) rfl)
theorem cM_171 : jm_ML "GoalOrderModel" 171 mM_same := Or.inl (jm_in3 (List.mem_of_getElem? (i := 184) rfl) rfl)
theorem cM_175 : jm_ML "GoalOrderModel" 175 mM_areIn := Or.inl (jm_in3 (List.mem_of_getElem? (i := 188) rfl) rfl)
theorem cM_179 : jm_ML "GoalOrderModel" 179 mM_compare := Or.inl (jm_in3 (List.mem_of_getElem? (i := 192) rfl) rfl)
theorem cM_182 : jm_ML "GoalOrderModel" 182 mM_call := Or.inl (jm_in3 (List.mem_of_getElem? (i := 196) rfl) rfl)
theorem cM_189 : jm_ML "GoalOrderModel" 189 mM_atom := Or.inl (jm_in3 (List.mem_of_getElem? (i := 172) rfl) rfl)
theorem cM_196 : jm_ML "GoalOrderModel" 196 mM_row := Or.inl (jm_in3 (List.mem_of_getElem? (i := 204) rfl) rfl)
theorem cM_198 : jm_ML "GoalOrderModel" 198 mM_choice := Or.inl (jm_in3 (List.mem_of_getElem? (i := 212) rfl) rfl)
theorem cM_201 : jm_ML "GoalOrderModel" 201 mM_not := Or.inl (jm_in3 (List.mem_of_getElem? (i := 217) rfl) rfl)
theorem cM_204 : jm_ML "GoalOrderModel" 204 mM_test := Or.inl (jm_in3 (List.mem_of_getElem? (i := 221) rfl) rfl)
theorem cM_207 : jm_ML "GoalOrderModel" 207 mM_tried := Or.inl (jm_in3 (List.mem_of_getElem? (i := 168) rfl) rfl)
theorem cM_211 : jm_ML "GoalOrderModel" 211 mM_ended := Or.inl (jm_in3 (List.mem_of_getElem? (i := 208) rfl) rfl)
theorem cM_217 : jm_ML "GoalOrderModel" 217 mM_look := Or.inl (jm_in3 (List.mem_of_getElem? (i := 160) rfl) rfl)
theorem cM_220 : jm_ML "GoalOrderModel" 220 mM_goesOn := Or.inl (jm_in3 (List.mem_of_getElem? (i := 200) rfl) rfl)
theorem cM_224 : jm_ML "GoalOrderModel" 224 mM_stuckOf := Or.inl (jm_in3 (List.mem_of_getElem? (i := 225) rfl) rfl)
theorem oiG_1 : Cond.methodLink "GoalOrder" 1 Lib.objectInit ∈ jm_tb := jm_in1 (List.mem_of_getElem? (i := 12) rfl) rfl
theorem oiN_3 : Cond.methodLink "GoalOrder$Node" 3 Lib.objectInit ∈ jm_tb := jm_in1 (List.mem_of_getElem? (i := 46) rfl) rfl
theorem oiP_3 : Cond.methodLink "GoalOrder$Predicates" 3 Lib.objectInit ∈ jm_tb := jm_in1 (List.mem_of_getElem? (i := 20) rfl) rfl
theorem oiT_3 : Cond.methodLink "GoalOrder$Tree" 3 Lib.objectInit ∈ jm_tb := jm_in1 (List.mem_of_getElem? (i := 40) rfl) rfl
theorem oiR_3 : Cond.methodLink "GoalOrder$Trial" 3 Lib.objectInit ∈ jm_tb := jm_in1 (List.mem_of_getElem? (i := 160) rfl) rfl
theorem oiM_1 : Cond.methodLink "GoalOrderModel" 1 Lib.objectInit ∈ jm_tb := jm_in2 (List.mem_of_getElem? (i := 211) rfl) rfl
theorem oi_inst : Cond.instanceMethod Lib.objectInit ∈ jm_tb := jm_in1 (List.mem_of_getElem? (i := 13) rfl) rfl
theorem oi_code : Cond.code Lib.objectInit ⟨#[0xb1]⟩ 1 none ∈ jm_tb := jm_in1 (List.mem_of_getElem? (i := 14) rfl) rfl
theorem nkG_7 : Cond.classLink "GoalOrder" 7 "GoalOrder$Predicates" ∈ jm_tb := jm_in1 (List.mem_of_getElem? (i := 15) rfl) rfl
theorem nkG_16 : Cond.classLink "GoalOrder" 16 "GoalOrder$Tree" ∈ jm_tb := jm_in1 (List.mem_of_getElem? (i := 35) rfl) rfl
theorem nkG_23 : Cond.classLink "GoalOrder" 23 "GoalOrder$Trial" ∈ jm_tb := jm_in1 (List.mem_of_getElem? (i := 155) rfl) rfl
theorem nkT_9 : Cond.classLink "GoalOrder$Tree" 9 "GoalOrder$Node" ∈ jm_tb := jm_in1 (List.mem_of_getElem? (i := 41) rfl) rfl
theorem nkL_7 : Cond.classLink "GoalOrderLaw" 7 "GoalOrder" ∈ jm_tb := jm_in1 (List.mem_of_getElem? (i := 7) rfl) rfl
theorem nkL_10 : Cond.classLink "GoalOrderLaw" 10 "GoalOrderModel" ∈ jm_tb := jm_in2 (List.mem_of_getElem? (i := 206) rfl) rfl
theorem niG : Cond.instantiable "GoalOrder" 9 ∈ jm_tb := jm_in1 (List.mem_of_getElem? (i := 8) rfl) rfl
theorem niP : Cond.instantiable "GoalOrder$Predicates" 4 ∈ jm_tb := jm_in1 (List.mem_of_getElem? (i := 16) rfl) rfl
theorem niT : Cond.instantiable "GoalOrder$Tree" 3 ∈ jm_tb := jm_in1 (List.mem_of_getElem? (i := 36) rfl) rfl
theorem niN : Cond.instantiable "GoalOrder$Node" 20 ∈ jm_tb := jm_in1 (List.mem_of_getElem? (i := 42) rfl) rfl
theorem niR : Cond.instantiable "GoalOrder$Trial" 4 ∈ jm_tb := jm_in1 (List.mem_of_getElem? (i := 156) rfl) rfl
theorem niM : Cond.instantiable "GoalOrderModel" 42 ∈ jm_tb := jm_in2 (List.mem_of_getElem? (i := 207) rfl) rfl
theorem nzL : Cond.initialized "GoalOrderLaw" ∈ jm_tb := jm_in1 (List.mem_of_getElem? (i := 0) rfl) rfl
theorem nzG : Cond.initialized "GoalOrder" ∈ jm_tb := jm_in1 (List.mem_of_getElem? (i := 1) rfl) rfl
theorem nzP : Cond.initialized "GoalOrder$Predicates" ∈ jm_tb := jm_in1 (List.mem_of_getElem? (i := 2) rfl) rfl
theorem nzT : Cond.initialized "GoalOrder$Tree" ∈ jm_tb := jm_in1 (List.mem_of_getElem? (i := 3) rfl) rfl
theorem nzN : Cond.initialized "GoalOrder$Node" ∈ jm_tb := jm_in1 (List.mem_of_getElem? (i := 4) rfl) rfl
theorem nzR : Cond.initialized "GoalOrder$Trial" ∈ jm_tb := jm_in1 (List.mem_of_getElem? (i := 5) rfl) rfl
theorem nzM : Cond.initialized "GoalOrderModel" ∈ jm_tb := jm_in1 (List.mem_of_getElem? (i := 6) rfl) rfl
theorem klR_91 : Cond.constantLong "GoalOrder$Trial" 91 (-1) ∈ jm_tb := jm_in2 (List.mem_of_getElem? (i := 87) rfl) rfl
theorem klG_114 : Cond.constantLong "GoalOrder" 114 (-1) ∈ jm_tb := jm_in2 (List.mem_of_getElem? (i := 161) rfl) rfl
theorem klM_215 : Cond.constantLong "GoalOrderModel" 215 (-1) ∈ jm_tb := jm_in3 (List.mem_of_getElem? (i := 216) rfl) rfl
theorem ac_int : Cond.arrayClass .int ∈ jm_tb := jm_in1 (List.mem_of_getElem? (i := 34) rfl) rfl
theorem ac_long : Cond.arrayClass .long ∈ jm_tb := jm_in3 (List.mem_of_getElem? (i := 111) rfl) rfl
theorem ac_boolean : Cond.arrayClass .boolean ∈ jm_tb := jm_in3 (List.mem_of_getElem? (i := 112) rfl) rfl
theorem st_FEWEST : Cond.fieldLink "GoalOrder" 167 "GoalOrder" "FEWEST" "[I" ∈ jm_tb := jm_in2 (List.mem_of_getElem? (i := 28) rfl) rfl
theorem st_MOST : Cond.fieldLink "GoalOrder" 170 "GoalOrder" "MOST" "[I" ∈ jm_tb := jm_in2 (List.mem_of_getElem? (i := 30) rfl) rfl
