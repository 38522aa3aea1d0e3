set_option maxRecDepth 100000 in
theorem mc_min : Cond.code Lib.Math.min.name Lib.Math.min.code 2 (some .int) ∈ lw_tbl := List.mem_append_right _ (List.mem_append_right _ (List.mem_append_right _ (List.mem_append_left _ (List.mem_of_getElem? (i := 27) rfl))))
theorem fl_F_11 : Cond.fieldLink R_F 11 R_F "eleven" "[J" ∈ lw_tbl ∧ sx_okw (Cond.fieldLink R_F 11 R_F "eleven" "[J") = true := by decide +kernel
theorem fl_F_15 : Cond.fieldLink R_F 15 R_F "ten" "[J" ∈ lw_tbl ∧ sx_okw (Cond.fieldLink R_F 15 R_F "ten" "[J") = true := by decide +kernel
theorem fl_F_18 : Cond.fieldLink R_F 18 R_F "fifty" "[J" ∈ lw_tbl ∧ sx_okw (Cond.fieldLink R_F 18 R_F "fifty" "[J") = true := by decide +kernel
theorem fl_F_21 : Cond.fieldLink R_F 21 R_F "ones" "[J" ∈ lw_tbl ∧ sx_okw (Cond.fieldLink R_F 21 R_F "ones" "[J") = true := by decide +kernel
theorem fl_F_24 : Cond.fieldLink R_F 24 R_F "first" "[J" ∈ lw_tbl ∧ sx_okw (Cond.fieldLink R_F 24 R_F "first" "[J") = true := by decide +kernel
theorem fl_F_27 : Cond.fieldLink R_F 27 R_F "second" "[J" ∈ lw_tbl ∧ sx_okw (Cond.fieldLink R_F 27 R_F "second" "[J") = true := by decide +kernel
theorem fl_F_30 : Cond.fieldLink R_F 30 R_F "spare" "[J" ∈ lw_tbl ∧ sx_okw (Cond.fieldLink R_F 30 R_F "spare" "[J") = true := by decide +kernel
theorem fl_F_57 : Cond.fieldLink R_F 57 R_F "FIRST_BIT" "[I" ∈ lw_tbl ∧ sx_okw (Cond.fieldLink R_F 57 R_F "FIRST_BIT" "[I") = true := by decide +kernel
set_option maxRecDepth 100000 in
theorem mc_JA_fill : Cond.code y_JA_fill b_JA_fill 5 none ∈ lw_tbl := List.mem_append_right _ (List.mem_append_left _ (List.mem_of_getElem? (i := 192) rfl))
theorem w_F_33 : sx_w [.methodLink R_F 33 y_JA_fill, .static y_JA_fill, .initialized y_JA_fill.cls, .code y_JA_fill b_JA_fill 5 none] y_JA_fill 2 := ⟨sx_wc (ws := [.methodLink R_F 33 y_JA_fill, .static y_JA_fill, .initialized y_JA_fill.cls]) (by decide +kernel) mc_JA_fill, by decide +kernel⟩
set_option maxRecDepth 100000 in
theorem mc_F_carry : Cond.code y_F_carry b_F_carry 8 none ∈ lw_tbl := List.mem_append_right _ (List.mem_append_left _ (List.mem_of_getElem? (i := 200) rfl))
theorem w_F_45 : sx_w [.methodLink R_F 45 y_F_carry, .static y_F_carry, .initialized y_F_carry.cls, .code y_F_carry b_F_carry 8 none] y_F_carry 1 := ⟨sx_wc (ws := [.methodLink R_F 45 y_F_carry, .static y_F_carry, .initialized y_F_carry.cls]) (by decide +kernel) mc_F_carry, by decide +kernel⟩
set_option maxRecDepth 100000 in
theorem mc_F_widthOf : Cond.code y_F_widthOf b_F_widthOf 1 (some .int) ∈ lw_tbl := List.mem_append_right _ (List.mem_append_right _ (List.mem_append_right _ (List.mem_append_left _ (List.mem_of_getElem? (i := 143) rfl))))
theorem w_F_67 : sx_w [.methodLink R_F 67 y_F_widthOf, .static y_F_widthOf, .initialized y_F_widthOf.cls, .code y_F_widthOf b_F_widthOf 1 (some .int)] y_F_widthOf 1 := ⟨sx_wc (ws := [.methodLink R_F 67 y_F_widthOf, .static y_F_widthOf, .initialized y_F_widthOf.cls]) (by decide +kernel) mc_F_widthOf, by decide +kernel⟩
set_option maxRecDepth 100000 in
theorem mc_F_settle : Cond.code y_F_settle b_F_settle 9 none ∈ lw_tbl := List.mem_append_right _ (List.mem_append_right _ (List.mem_append_right _ (List.mem_append_left _ (List.mem_of_getElem? (i := 186) rfl))))
theorem w_F_71 : sx_w [.methodLink R_F 71 y_F_settle, .instanceMethod y_F_settle, .selects R_F y_F_settle y_F_settle, .initialized R_F, .code y_F_settle b_F_settle 9 none] y_F_settle 1 := ⟨sx_wc (ws := [.methodLink R_F 71 y_F_settle, .instanceMethod y_F_settle, .selects R_F y_F_settle y_F_settle, .initialized R_F]) (by decide +kernel) mc_F_settle, by decide +kernel⟩
set_option maxRecDepth 100000 in
theorem mc_F_raiseToOnes : Cond.code y_F_raiseToOnes b_F_raiseToOnes 2 none ∈ lw_tbl := List.mem_append_right _ (List.mem_append_right _ (List.mem_append_right _ (List.mem_append_left _ (List.mem_of_getElem? (i := 171) rfl))))
theorem w_F_74 : sx_w [.methodLink R_F 74 y_F_raiseToOnes, .instanceMethod y_F_raiseToOnes, .selects R_F y_F_raiseToOnes y_F_raiseToOnes, .initialized R_F, .code y_F_raiseToOnes b_F_raiseToOnes 2 none] y_F_raiseToOnes 1 := ⟨sx_wc (ws := [.methodLink R_F 74 y_F_raiseToOnes, .instanceMethod y_F_raiseToOnes, .selects R_F y_F_raiseToOnes y_F_raiseToOnes, .initialized R_F]) (by decide +kernel) mc_F_raiseToOnes, by decide +kernel⟩
set_option maxRecDepth 100000 in
theorem mc_F_stretch : Cond.code y_F_stretch b_F_stretch 6 none ∈ lw_tbl := List.mem_append_right _ (List.mem_append_right _ (List.mem_append_right _ (List.mem_append_left _ (List.mem_of_getElem? (i := 176) rfl))))
theorem w_F_77 : sx_w [.methodLink R_F 77 y_F_stretch, .instanceMethod y_F_stretch, .selects R_F y_F_stretch y_F_stretch, .initialized R_F, .code y_F_stretch b_F_stretch 6 none] y_F_stretch 4 := ⟨sx_wc (ws := [.methodLink R_F 77 y_F_stretch, .instanceMethod y_F_stretch, .selects R_F y_F_stretch y_F_stretch, .initialized R_F]) (by decide +kernel) mc_F_stretch, by decide +kernel⟩
set_option maxRecDepth 100000 in
theorem mc_F_square : Cond.code y_F_square b_F_square 42 none ∈ lw_tbl := List.mem_append_right _ (List.mem_append_right _ (List.mem_append_right _ (List.mem_append_left _ (List.mem_of_getElem? (i := 159) rfl))))
theorem w_F_81 : sx_w [.methodLink R_F 81 y_F_square, .static y_F_square, .initialized y_F_square.cls, .code y_F_square b_F_square 42 none] y_F_square 2 := ⟨sx_wc (ws := [.methodLink R_F 81 y_F_square, .static y_F_square, .initialized y_F_square.cls]) (by decide +kernel) mc_F_square, by decide +kernel⟩
set_option maxRecDepth 100000 in
theorem mc_F_times : Cond.code y_F_times b_F_times 53 none ∈ lw_tbl := List.mem_append_right _ (List.mem_append_left _ (List.mem_of_getElem? (i := 195) rfl))
theorem w_F_85 : sx_w [.methodLink R_F 85 y_F_times, .static y_F_times, .initialized y_F_times.cls, .code y_F_times b_F_times 53 none] y_F_times 3 := ⟨sx_wc (ws := [.methodLink R_F 85 y_F_times, .static y_F_times, .initialized y_F_times.cls]) (by decide +kernel) mc_F_times, by decide +kernel⟩
set_option maxRecDepth 100000 in
theorem mc_F_copy : Cond.code y_F_copy b_F_copy 2 none ∈ lw_tbl := List.mem_append_right _ (List.mem_append_left _ (List.mem_of_getElem? (i := 183) rfl))
theorem w_F_89 : sx_w [.methodLink R_F 89 y_F_copy, .static y_F_copy, .initialized y_F_copy.cls, .code y_F_copy b_F_copy 2 none] y_F_copy 2 := ⟨sx_wc (ws := [.methodLink R_F 89 y_F_copy, .static y_F_copy, .initialized y_F_copy.cls]) (by decide +kernel) mc_F_copy, by decide +kernel⟩
set_option maxRecDepth 100000 in
theorem mc_JA_rangeCheck : Cond.code y_JA_rangeCheck b_JA_rangeCheck 3 none ∈ lw_tbl := List.mem_append_right _ (List.mem_append_right _ (List.mem_append_right _ (List.mem_append_left _ (List.mem_of_getElem? (i := 222) rfl))))
theorem w_JA_13 : sx_w [.methodLink R_JA 13 y_JA_rangeCheck, .static y_JA_rangeCheck, .initialized y_JA_rangeCheck.cls, .code y_JA_rangeCheck b_JA_rangeCheck 3 none] y_JA_rangeCheck 3 := ⟨sx_wc (ws := [.methodLink R_JA 13 y_JA_rangeCheck, .static y_JA_rangeCheck, .initialized y_JA_rangeCheck.cls]) (by decide +kernel) mc_JA_rangeCheck, by decide +kernel⟩
