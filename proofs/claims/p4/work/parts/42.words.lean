theorem fl_Ad_9 : Cond.fieldLink R_Ad 9 R_Ad "less" "[J" ∈ lw_tbl ∧ sx_okw (Cond.fieldLink R_Ad 9 R_Ad "less" "[J") = true := by decide +kernel
theorem fl_Ad_15 : Cond.fieldLink R_Ad 15 R_Ad "more" "[J" ∈ lw_tbl ∧ sx_okw (Cond.fieldLink R_Ad 15 R_Ad "more" "[J") = true := by decide +kernel
theorem fl_Ad_18 : Cond.fieldLink R_Ad 18 R_Ad "twiceZ" "[J" ∈ lw_tbl ∧ sx_okw (Cond.fieldLink R_Ad 18 R_Ad "twiceZ" "[J") = true := by decide +kernel
theorem fl_Ad_21 : Cond.fieldLink R_Ad 21 R_Ad "twiceDT" "[J" ∈ lw_tbl ∧ sx_okw (Cond.fieldLink R_Ad 21 R_Ad "twiceDT" "[J") = true := by decide +kernel
theorem fl_Ed_12 : Cond.fieldLink R_Ed 12 R_Ed "sum" "LCurveKeys$Point;" ∈ lw_tbl ∧ sx_okw (Cond.fieldLink R_Ed 12 R_Ed "sum" "LCurveKeys$Point;") = true := by decide +kernel
theorem fl_Ed_18 : Cond.fieldLink R_Ed 18 R_Ed "found" "LCurveKeys$Point;" ∈ lw_tbl ∧ sx_okw (Cond.fieldLink R_Ed 18 R_Ed "found" "LCurveKeys$Point;") = true := by decide +kernel
theorem fl_Ed_23 : Cond.fieldLink R_Ed 23 R_Ed "ofBase" "[LCurveKeys$Addend;" ∈ lw_tbl ∧ sx_okw (Cond.fieldLink R_Ed 23 R_Ed "ofBase" "[LCurveKeys$Addend;") = true := by decide +kernel
theorem fl_Ed_27 : Cond.fieldLink R_Ed 27 R_Ed "ofOther" "[LCurveKeys$Addend;" ∈ lw_tbl ∧ sx_okw (Cond.fieldLink R_Ed 27 R_Ed "ofOther" "[LCurveKeys$Addend;") = true := by decide +kernel
theorem fl_Ed_30 : Cond.fieldLink R_Ed 30 R_Ed "zeroScalar" "[B" ∈ lw_tbl ∧ sx_okw (Cond.fieldLink R_Ed 30 R_Ed "zeroScalar" "[B") = true := by decide +kernel
theorem fl_Ed_34 : Cond.fieldLink R_Ed 34 R_Ed "form" "[B" ∈ lw_tbl ∧ sx_okw (Cond.fieldLink R_Ed 34 R_Ed "form" "[B") = true := by decide +kernel
theorem fl_Ed_39 : Cond.fieldLink R_Ed 39 R_Ed "a" "[J" ∈ lw_tbl ∧ sx_okw (Cond.fieldLink R_Ed 39 R_Ed "a" "[J") = true := by decide +kernel
theorem fl_Ed_43 : Cond.fieldLink R_Ed 43 R_Ed "b" "[J" ∈ lw_tbl ∧ sx_okw (Cond.fieldLink R_Ed 43 R_Ed "b" "[J") = true := by decide +kernel
theorem fl_Ed_46 : Cond.fieldLink R_Ed 46 R_Ed "c" "[J" ∈ lw_tbl ∧ sx_okw (Cond.fieldLink R_Ed 46 R_Ed "c" "[J") = true := by decide +kernel
theorem fl_Ed_49 : Cond.fieldLink R_Ed 49 R_Ed "d" "[J" ∈ lw_tbl ∧ sx_okw (Cond.fieldLink R_Ed 49 R_Ed "d" "[J") = true := by decide +kernel
theorem fl_Ed_52 : Cond.fieldLink R_Ed 52 R_Ed "e" "[J" ∈ lw_tbl ∧ sx_okw (Cond.fieldLink R_Ed 52 R_Ed "e" "[J") = true := by decide +kernel
theorem fl_Ed_55 : Cond.fieldLink R_Ed 55 R_Ed "f" "[J" ∈ lw_tbl ∧ sx_okw (Cond.fieldLink R_Ed 55 R_Ed "f" "[J") = true := by decide +kernel
theorem fl_Ed_58 : Cond.fieldLink R_Ed 58 R_Ed "g" "[J" ∈ lw_tbl ∧ sx_okw (Cond.fieldLink R_Ed 58 R_Ed "g" "[J") = true := by decide +kernel
theorem fl_Ed_61 : Cond.fieldLink R_Ed 61 R_Ed "h" "[J" ∈ lw_tbl ∧ sx_okw (Cond.fieldLink R_Ed 61 R_Ed "h" "[J") = true := by decide +kernel
theorem fl_Ed_64 : Cond.fieldLink R_Ed 64 R_Ed "field" "LCurveKeys$Field;" ∈ lw_tbl ∧ sx_okw (Cond.fieldLink R_Ed 64 R_Ed "field" "LCurveKeys$Field;") = true := by decide +kernel
theorem fl_Ed_183 : Cond.fieldLink R_Ed 183 R_Ed "CURVE_D" "[J" ∈ lw_tbl ∧ sx_okw (Cond.fieldLink R_Ed 183 R_Ed "CURVE_D" "[J") = true := by decide +kernel
theorem fl_Ed_190 : Cond.fieldLink R_Ed 190 R_Ed "ROOT_OF_MINUS_1" "[J" ∈ lw_tbl ∧ sx_okw (Cond.fieldLink R_Ed 190 R_Ed "ROOT_OF_MINUS_1" "[J") = true := by decide +kernel
theorem fl_Pt_9 : Cond.fieldLink R_Pt 9 R_Pt "x" "[J" ∈ lw_tbl ∧ sx_okw (Cond.fieldLink R_Pt 9 R_Pt "x" "[J") = true := by decide +kernel
theorem fl_Pt_15 : Cond.fieldLink R_Pt 15 R_Pt "y" "[J" ∈ lw_tbl ∧ sx_okw (Cond.fieldLink R_Pt 15 R_Pt "y" "[J") = true := by decide +kernel
theorem fl_Pt_18 : Cond.fieldLink R_Pt 18 R_Pt "z" "[J" ∈ lw_tbl ∧ sx_okw (Cond.fieldLink R_Pt 18 R_Pt "z" "[J") = true := by decide +kernel
theorem fl_Pt_21 : Cond.fieldLink R_Pt 21 R_Pt "t" "[J" ∈ lw_tbl ∧ sx_okw (Cond.fieldLink R_Pt 21 R_Pt "t" "[J") = true := by decide +kernel
theorem fn_Ad_24 : Cond.fieldLinkNest R_Ad 24 R_Pt "y" "[J" "CurveKeys" ∈ lw_tbl := by decide +kernel
theorem fn_Ad_29 : Cond.fieldLinkNest R_Ad 29 R_Pt "x" "[J" "CurveKeys" ∈ lw_tbl := by decide +kernel
theorem fn_Ad_39 : Cond.fieldLinkNest R_Ad 39 R_Pt "z" "[J" "CurveKeys" ∈ lw_tbl := by decide +kernel
theorem fn_Ad_42 : Cond.fieldLinkNest R_Ad 42 R_Pt "t" "[J" "CurveKeys" ∈ lw_tbl := by decide +kernel
theorem fn_Ad_45 : Cond.fieldLinkNest R_Ad 45 R_Ed "TWICE_CURVE_D" "[J" "CurveKeys" ∈ lw_tbl := by decide +kernel
theorem fn_Ed_91 : Cond.fieldLinkNest R_Ed 91 R_Pt "y" "[J" "CurveKeys" ∈ lw_tbl := by decide +kernel
theorem fn_Ed_94 : Cond.fieldLinkNest R_Ed 94 R_Pt "x" "[J" "CurveKeys" ∈ lw_tbl := by decide +kernel
theorem fn_Ed_101 : Cond.fieldLinkNest R_Ed 101 R_Ad "less" "[J" "CurveKeys" ∈ lw_tbl := by decide +kernel
theorem fn_Ed_109 : Cond.fieldLinkNest R_Ed 109 R_Ad "more" "[J" "CurveKeys" ∈ lw_tbl := by decide +kernel
theorem fn_Ed_112 : Cond.fieldLinkNest R_Ed 112 R_Pt "t" "[J" "CurveKeys" ∈ lw_tbl := by decide +kernel
theorem fn_Ed_115 : Cond.fieldLinkNest R_Ed 115 R_Ad "twiceDT" "[J" "CurveKeys" ∈ lw_tbl := by decide +kernel
theorem fn_Ed_118 : Cond.fieldLinkNest R_Ed 118 R_Pt "z" "[J" "CurveKeys" ∈ lw_tbl := by decide +kernel
theorem fn_Ed_121 : Cond.fieldLinkNest R_Ed 121 R_Ad "twiceZ" "[J" "CurveKeys" ∈ lw_tbl := by decide +kernel
set_option maxRecDepth 100000 in
theorem mc_F_subtract : Cond.code y_F_subtract b_F_subtract 4 none ∈ lw_tbl := List.mem_append_right _ (List.mem_append_left _ (List.mem_of_getElem? (i := 213) rfl))
theorem w_Ad_32 : sx_w [.methodLink R_Ad 32 y_F_subtract, .static y_F_subtract, .initialized y_F_subtract.cls, .code y_F_subtract b_F_subtract 4 none] y_F_subtract 3 := ⟨sx_wc (ws := [.methodLink R_Ad 32 y_F_subtract, .static y_F_subtract, .initialized y_F_subtract.cls]) (by decide +kernel) mc_F_subtract, by decide +kernel⟩
set_option maxRecDepth 100000 in
theorem mc_F_add : Cond.code y_F_add b_F_add 4 none ∈ lw_tbl := List.mem_append_right _ (List.mem_append_left _ (List.mem_of_getElem? (i := 216) rfl))
theorem w_Ad_36 : sx_w [.methodLink R_Ad 36 y_F_add, .static y_F_add, .initialized y_F_add.cls, .code y_F_add b_F_add 4 none] y_F_add 3 := ⟨sx_wc (ws := [.methodLink R_Ad 36 y_F_add, .static y_F_add, .initialized y_F_add.cls]) (by decide +kernel) mc_F_add, by decide +kernel⟩
theorem w_Ad_50 : sx_w [.methodLink R_Ad 50 y_F_times, .static y_F_times, .initialized y_F_times.cls, .code y_F_times b_F_times 53 none] y_F_times 3 := ⟨sx_wc (ws := [.methodLink R_Ad 50 y_F_times, .static y_F_times, .initialized y_F_times.cls]) (by decide +kernel) mc_F_times, by decide +kernel⟩
set_option maxRecDepth 100000 in
theorem mc_Pt_setAffine : Cond.code y_Pt_setAffine b_Pt_setAffine 3 none ∈ lw_tbl := List.mem_append_right _ (List.mem_append_left _ (List.mem_of_getElem? (i := 180) rfl))
theorem w_Ed_75 : sx_w [.methodLink R_Ed 75 y_Pt_setAffine, .instanceMethod y_Pt_setAffine, .selects R_Pt y_Pt_setAffine y_Pt_setAffine, .initialized R_Pt, .code y_Pt_setAffine b_Pt_setAffine 3 none] y_Pt_setAffine 2 := ⟨sx_wc (ws := [.methodLink R_Ed 75 y_Pt_setAffine, .instanceMethod y_Pt_setAffine, .selects R_Pt y_Pt_setAffine y_Pt_setAffine, .initialized R_Pt]) (by decide +kernel) mc_Pt_setAffine, by decide +kernel⟩
set_option maxRecDepth 100000 in
theorem mc_Ed_fillMultiples : Cond.code y_Ed_fillMultiples b_Ed_fillMultiples 4 none ∈ lw_tbl := List.mem_append_right _ (List.mem_append_left _ (List.mem_of_getElem? (i := 206) rfl))
theorem w_Ed_79 : sx_w [.methodLink R_Ed 79 y_Ed_fillMultiples, .instanceMethod y_Ed_fillMultiples, .selects R_Ed y_Ed_fillMultiples y_Ed_fillMultiples, .initialized R_Ed, .code y_Ed_fillMultiples b_Ed_fillMultiples 4 none] y_Ed_fillMultiples 2 := ⟨sx_wc (ws := [.methodLink R_Ed 79 y_Ed_fillMultiples, .instanceMethod y_Ed_fillMultiples, .selects R_Ed y_Ed_fillMultiples y_Ed_fillMultiples, .initialized R_Ed]) (by decide +kernel) mc_Ed_fillMultiples, by decide +kernel⟩
set_option maxRecDepth 100000 in
theorem mc_Ad_set : Cond.code y_Ad_set b_Ad_set 2 none ∈ lw_tbl := List.mem_append_right _ (List.mem_append_left _ (List.mem_of_getElem? (i := 210) rfl))
theorem w_Ed_83 : sx_w [.methodLink R_Ed 83 y_Ad_set, .instanceMethod y_Ad_set, .selects R_Ad y_Ad_set y_Ad_set, .initialized R_Ad, .code y_Ad_set b_Ad_set 2 none] y_Ad_set 1 := ⟨sx_wc (ws := [.methodLink R_Ed 83 y_Ad_set, .instanceMethod y_Ad_set, .selects R_Ad y_Ad_set y_Ad_set, .initialized R_Ad]) (by decide +kernel) mc_Ad_set, by decide +kernel⟩
set_option maxRecDepth 100000 in
theorem mc_Ed_add : Cond.code y_Ed_add b_Ed_add 3 none ∈ lw_tbl := List.mem_append_right _ (List.mem_append_left _ (List.mem_of_getElem? (i := 223) rfl))
theorem w_Ed_87 : sx_w [.methodLink R_Ed 87 y_Ed_add, .instanceMethod y_Ed_add, .selects R_Ed y_Ed_add y_Ed_add, .initialized R_Ed, .code y_Ed_add b_Ed_add 3 none] y_Ed_add 2 := ⟨sx_wc (ws := [.methodLink R_Ed 87 y_Ed_add, .instanceMethod y_Ed_add, .selects R_Ed y_Ed_add y_Ed_add, .initialized R_Ed]) (by decide +kernel) mc_Ed_add, by decide +kernel⟩
theorem w_Ed_97 : sx_w [.methodLink R_Ed 97 y_F_subtract, .static y_F_subtract, .initialized y_F_subtract.cls, .code y_F_subtract b_F_subtract 4 none] y_F_subtract 3 := ⟨sx_wc (ws := [.methodLink R_Ed 97 y_F_subtract, .static y_F_subtract, .initialized y_F_subtract.cls]) (by decide +kernel) mc_F_subtract, by decide +kernel⟩
theorem w_Ed_104 : sx_w [.methodLink R_Ed 104 y_F_times, .static y_F_times, .initialized y_F_times.cls, .code y_F_times b_F_times 53 none] y_F_times 3 := ⟨sx_wc (ws := [.methodLink R_Ed 104 y_F_times, .static y_F_times, .initialized y_F_times.cls]) (by decide +kernel) mc_F_times, by decide +kernel⟩
theorem w_Ed_107 : sx_w [.methodLink R_Ed 107 y_F_add, .static y_F_add, .initialized y_F_add.cls, .code y_F_add b_F_add 4 none] y_F_add 3 := ⟨sx_wc (ws := [.methodLink R_Ed 107 y_F_add, .static y_F_add, .initialized y_F_add.cls]) (by decide +kernel) mc_F_add, by decide +kernel⟩
set_option maxRecDepth 100000 in
theorem mc_Ed_join : Cond.code y_Ed_join b_Ed_join 2 none ∈ lw_tbl := List.mem_append_right _ (List.mem_append_left _ (List.mem_of_getElem? (i := 230) rfl))
theorem w_Ed_124 : sx_w [.methodLink R_Ed 124 y_Ed_join, .instanceMethod y_Ed_join, .selects R_Ed y_Ed_join y_Ed_join, .initialized R_Ed, .code y_Ed_join b_Ed_join 2 none] y_Ed_join 1 := ⟨sx_wc (ws := [.methodLink R_Ed 124 y_Ed_join, .instanceMethod y_Ed_join, .selects R_Ed y_Ed_join y_Ed_join, .initialized R_Ed]) (by decide +kernel) mc_Ed_join, by decide +kernel⟩
theorem w_Ed_127 : sx_w [.methodLink R_Ed 127 y_F_square, .static y_F_square, .initialized y_F_square.cls, .code y_F_square b_F_square 42 none] y_F_square 2 := ⟨sx_wc (ws := [.methodLink R_Ed 127 y_F_square, .static y_F_square, .initialized y_F_square.cls]) (by decide +kernel) mc_F_square, by decide +kernel⟩
set_option maxRecDepth 100000 in
theorem mc_Ed_addUp : Cond.code y_Ed_addUp b_Ed_addUp 6 none ∈ lw_tbl := List.mem_append_right _ (List.mem_append_right _ (List.mem_append_right _ (List.mem_append_right _ (List.mem_append_right _ (List.mem_append_left _ (List.mem_of_getElem? (i := 8) rfl))))))
theorem w_Ed_130 : sx_w [.methodLink R_Ed 130 y_Ed_addUp, .instanceMethod y_Ed_addUp, .selects R_Ed y_Ed_addUp y_Ed_addUp, .initialized R_Ed, .code y_Ed_addUp b_Ed_addUp 6 none] y_Ed_addUp 2 := ⟨sx_wc (ws := [.methodLink R_Ed 130 y_Ed_addUp, .instanceMethod y_Ed_addUp, .selects R_Ed y_Ed_addUp y_Ed_addUp, .initialized R_Ed]) (by decide +kernel) mc_Ed_addUp, by decide +kernel⟩
set_option maxRecDepth 100000 in
theorem mc_Pt_negate : Cond.code y_Pt_negate b_Pt_negate 1 none ∈ lw_tbl := List.mem_append_right _ (List.mem_append_right _ (List.mem_append_right _ (List.mem_append_right _ (List.mem_append_right _ (List.mem_append_left _ (List.mem_of_getElem? (i := 147) rfl))))))
theorem w_Ed_134 : sx_w [.methodLink R_Ed 134 y_Pt_negate, .instanceMethod y_Pt_negate, .selects R_Pt y_Pt_negate y_Pt_negate, .initialized R_Pt, .code y_Pt_negate b_Pt_negate 1 none] y_Pt_negate 0 := ⟨sx_wc (ws := [.methodLink R_Ed 134 y_Pt_negate, .instanceMethod y_Pt_negate, .selects R_Pt y_Pt_negate y_Pt_negate, .initialized R_Pt]) (by decide +kernel) mc_Pt_negate, by decide +kernel⟩
set_option maxRecDepth 100000 in
theorem mc_Pt_setNeutral : Cond.code y_Pt_setNeutral b_Pt_setNeutral 1 none ∈ lw_tbl := List.mem_append_right _ (List.mem_append_right _ (List.mem_append_right _ (List.mem_append_right _ (List.mem_append_right _ (List.mem_append_left _ (List.mem_of_getElem? (i := 12) rfl))))))
theorem w_Ed_137 : sx_w [.methodLink R_Ed 137 y_Pt_setNeutral, .instanceMethod y_Pt_setNeutral, .selects R_Pt y_Pt_setNeutral y_Pt_setNeutral, .initialized R_Pt, .code y_Pt_setNeutral b_Pt_setNeutral 1 none] y_Pt_setNeutral 0 := ⟨sx_wc (ws := [.methodLink R_Ed 137 y_Pt_setNeutral, .instanceMethod y_Pt_setNeutral, .selects R_Pt y_Pt_setNeutral y_Pt_setNeutral, .initialized R_Pt]) (by decide +kernel) mc_Pt_setNeutral, by decide +kernel⟩
set_option maxRecDepth 100000 in
theorem mc_Ed_twice : Cond.code y_Ed_twice b_Ed_twice 2 none ∈ lw_tbl := List.mem_append_right _ (List.mem_append_right _ (List.mem_append_right _ (List.mem_append_right _ (List.mem_append_right _ (List.mem_append_left _ (List.mem_of_getElem? (i := 16) rfl))))))
theorem w_Ed_140 : sx_w [.methodLink R_Ed 140 y_Ed_twice, .instanceMethod y_Ed_twice, .selects R_Ed y_Ed_twice y_Ed_twice, .initialized R_Ed, .code y_Ed_twice b_Ed_twice 2 none] y_Ed_twice 1 := ⟨sx_wc (ws := [.methodLink R_Ed 140 y_Ed_twice, .instanceMethod y_Ed_twice, .selects R_Ed y_Ed_twice y_Ed_twice, .initialized R_Ed]) (by decide +kernel) mc_Ed_twice, by decide +kernel⟩
set_option maxRecDepth 100000 in
theorem mc_Ed_digitAt : Cond.code y_Ed_digitAt b_Ed_digitAt 2 (some .int) ∈ lw_tbl := List.mem_append_right _ (List.mem_append_right _ (List.mem_append_right _ (List.mem_append_right _ (List.mem_append_right _ (List.mem_append_left _ (List.mem_of_getElem? (i := 20) rfl))))))
theorem w_Ed_143 : sx_w [.methodLink R_Ed 143 y_Ed_digitAt, .static y_Ed_digitAt, .initialized y_Ed_digitAt.cls, .code y_Ed_digitAt b_Ed_digitAt 2 (some .int)] y_Ed_digitAt 2 := ⟨sx_wc (ws := [.methodLink R_Ed 143 y_Ed_digitAt, .static y_Ed_digitAt, .initialized y_Ed_digitAt.cls]) (by decide +kernel) mc_Ed_digitAt, by decide +kernel⟩
set_option maxRecDepth 100000 in
theorem mc_F_invert : Cond.code y_F_invert b_F_invert 3 none ∈ lw_tbl := List.mem_append_right _ (List.mem_append_right _ (List.mem_append_right _ (List.mem_append_left _ (List.mem_of_getElem? (i := 167) rfl))))
theorem w_Ed_147 : sx_w [.methodLink R_Ed 147 y_F_invert, .instanceMethod y_F_invert, .selects R_F y_F_invert y_F_invert, .initialized R_F, .code y_F_invert b_F_invert 3 none] y_F_invert 2 := ⟨sx_wc (ws := [.methodLink R_Ed 147 y_F_invert, .instanceMethod y_F_invert, .selects R_F y_F_invert y_F_invert, .initialized R_F]) (by decide +kernel) mc_F_invert, by decide +kernel⟩
set_option maxRecDepth 100000 in
theorem mc_F_write : Cond.code y_F_write b_F_write 8 none ∈ lw_tbl := List.mem_append_right _ (List.mem_append_right _ (List.mem_append_right _ (List.mem_append_left _ (List.mem_of_getElem? (i := 182) rfl))))
theorem w_Ed_150 : sx_w [.methodLink R_Ed 150 y_F_write, .instanceMethod y_F_write, .selects R_F y_F_write y_F_write, .initialized R_F, .code y_F_write b_F_write 8 none] y_F_write 2 := ⟨sx_wc (ws := [.methodLink R_Ed 150 y_F_write, .instanceMethod y_F_write, .selects R_F y_F_write y_F_write, .initialized R_F]) (by decide +kernel) mc_F_write, by decide +kernel⟩
set_option maxRecDepth 100000 in
theorem mc_F_read : Cond.code y_F_read b_F_read 8 none ∈ lw_tbl := List.mem_append_right _ (List.mem_append_right _ (List.mem_append_right _ (List.mem_append_left _ (List.mem_of_getElem? (i := 137) rfl))))
theorem w_Ed_154 : sx_w [.methodLink R_Ed 154 y_F_read, .static y_F_read, .initialized y_F_read.cls, .code y_F_read b_F_read 8 none] y_F_read 2 := ⟨sx_wc (ws := [.methodLink R_Ed 154 y_F_read, .static y_F_read, .initialized y_F_read.cls]) (by decide +kernel) mc_F_read, by decide +kernel⟩
set_option maxRecDepth 100000 in
theorem mc_Ed_isBelowPrime : Cond.code y_Ed_isBelowPrime b_Ed_isBelowPrime 2 (some .boolean) ∈ lw_tbl := List.mem_append_right _ (List.mem_append_right _ (List.mem_append_right _ (List.mem_append_right _ (List.mem_append_right _ (List.mem_append_left _ (List.mem_of_getElem? (i := 102) rfl))))))
theorem w_Ed_158 : sx_w [.methodLink R_Ed 158 y_Ed_isBelowPrime, .instanceMethod y_Ed_isBelowPrime, .selects R_Ed y_Ed_isBelowPrime y_Ed_isBelowPrime, .initialized R_Ed, .code y_Ed_isBelowPrime b_Ed_isBelowPrime 2 (some .boolean)] y_Ed_isBelowPrime 1 := ⟨sx_wc (ws := [.methodLink R_Ed 158 y_Ed_isBelowPrime, .instanceMethod y_Ed_isBelowPrime, .selects R_Ed y_Ed_isBelowPrime y_Ed_isBelowPrime, .initialized R_Ed]) (by decide +kernel) mc_Ed_isBelowPrime, by decide +kernel⟩
set_option maxRecDepth 100000 in
theorem mc_Ed_setRatio : Cond.code y_Ed_setRatio b_Ed_setRatio 1 none ∈ lw_tbl := List.mem_append_right _ (List.mem_append_right _ (List.mem_append_right _ (List.mem_append_right _ (List.mem_append_right _ (List.mem_append_left _ (List.mem_of_getElem? (i := 109) rfl))))))
theorem w_Ed_162 : sx_w [.methodLink R_Ed 162 y_Ed_setRatio, .instanceMethod y_Ed_setRatio, .selects R_Ed y_Ed_setRatio y_Ed_setRatio, .initialized R_Ed, .code y_Ed_setRatio b_Ed_setRatio 1 none] y_Ed_setRatio 0 := ⟨sx_wc (ws := [.methodLink R_Ed 162 y_Ed_setRatio, .instanceMethod y_Ed_setRatio, .selects R_Ed y_Ed_setRatio y_Ed_setRatio, .initialized R_Ed]) (by decide +kernel) mc_Ed_setRatio, by decide +kernel⟩
set_option maxRecDepth 100000 in
theorem mc_F_raiseForRoot : Cond.code y_F_raiseForRoot b_F_raiseForRoot 3 none ∈ lw_tbl := List.mem_append_right _ (List.mem_append_right _ (List.mem_append_right _ (List.mem_append_right _ (List.mem_append_right _ (List.mem_append_left _ (List.mem_of_getElem? (i := 116) rfl))))))
theorem w_Ed_165 : sx_w [.methodLink R_Ed 165 y_F_raiseForRoot, .instanceMethod y_F_raiseForRoot, .selects R_F y_F_raiseForRoot y_F_raiseForRoot, .initialized R_F, .code y_F_raiseForRoot b_F_raiseForRoot 3 none] y_F_raiseForRoot 2 := ⟨sx_wc (ws := [.methodLink R_Ed 165 y_F_raiseForRoot, .instanceMethod y_F_raiseForRoot, .selects R_F y_F_raiseForRoot y_F_raiseForRoot, .initialized R_F]) (by decide +kernel) mc_F_raiseForRoot, by decide +kernel⟩
set_option maxRecDepth 100000 in
theorem mc_Ed_mendRoot : Cond.code y_Ed_mendRoot b_Ed_mendRoot 1 (some .boolean) ∈ lw_tbl := List.mem_append_right _ (List.mem_append_right _ (List.mem_append_right _ (List.mem_append_right _ (List.mem_append_right _ (List.mem_append_left _ (List.mem_of_getElem? (i := 120) rfl))))))
theorem w_Ed_168 : sx_w [.methodLink R_Ed 168 y_Ed_mendRoot, .instanceMethod y_Ed_mendRoot, .selects R_Ed y_Ed_mendRoot y_Ed_mendRoot, .initialized R_Ed, .code y_Ed_mendRoot b_Ed_mendRoot 1 (some .boolean)] y_Ed_mendRoot 0 := ⟨sx_wc (ws := [.methodLink R_Ed 168 y_Ed_mendRoot, .instanceMethod y_Ed_mendRoot, .selects R_Ed y_Ed_mendRoot y_Ed_mendRoot, .initialized R_Ed]) (by decide +kernel) mc_Ed_mendRoot, by decide +kernel⟩
set_option maxRecDepth 100000 in
theorem mc_Ed_takeSign : Cond.code y_Ed_takeSign b_Ed_takeSign 2 (some .boolean) ∈ lw_tbl := List.mem_append_right _ (List.mem_append_right _ (List.mem_append_right _ (List.mem_append_right _ (List.mem_append_right _ (List.mem_append_left _ (List.mem_of_getElem? (i := 131) rfl))))))
theorem w_Ed_172 : sx_w [.methodLink R_Ed 172 y_Ed_takeSign, .instanceMethod y_Ed_takeSign, .selects R_Ed y_Ed_takeSign y_Ed_takeSign, .initialized R_Ed, .code y_Ed_takeSign b_Ed_takeSign 2 (some .boolean)] y_Ed_takeSign 1 := ⟨sx_wc (ws := [.methodLink R_Ed 172 y_Ed_takeSign, .instanceMethod y_Ed_takeSign, .selects R_Ed y_Ed_takeSign y_Ed_takeSign, .initialized R_Ed]) (by decide +kernel) mc_Ed_takeSign, by decide +kernel⟩
set_option maxRecDepth 100000 in
theorem mc_F_set : Cond.code y_F_set b_F_set 3 none ∈ lw_tbl := List.mem_append_right _ (List.mem_append_left _ (List.mem_of_getElem? (i := 189) rfl))
theorem w_Ed_180 : sx_w [.methodLink R_Ed 180 y_F_set, .static y_F_set, .initialized y_F_set.cls, .code y_F_set b_F_set 3 none] y_F_set 2 := ⟨sx_wc (ws := [.methodLink R_Ed 180 y_F_set, .static y_F_set, .initialized y_F_set.cls]) (by decide +kernel) mc_F_set, by decide +kernel⟩
set_option maxRecDepth 100000 in
theorem mc_Ed_isMultipleOfPrime : Cond.code y_Ed_isMultipleOfPrime b_Ed_isMultipleOfPrime 2 (some .boolean) ∈ lw_tbl := List.mem_append_right _ (List.mem_append_right _ (List.mem_append_right _ (List.mem_append_right _ (List.mem_append_right _ (List.mem_append_left _ (List.mem_of_getElem? (i := 124) rfl))))))
theorem w_Ed_186 : sx_w [.methodLink R_Ed 186 y_Ed_isMultipleOfPrime, .instanceMethod y_Ed_isMultipleOfPrime, .selects R_Ed y_Ed_isMultipleOfPrime y_Ed_isMultipleOfPrime, .initialized R_Ed, .code y_Ed_isMultipleOfPrime b_Ed_isMultipleOfPrime 2 (some .boolean)] y_Ed_isMultipleOfPrime 1 := ⟨sx_wc (ws := [.methodLink R_Ed 186 y_Ed_isMultipleOfPrime, .instanceMethod y_Ed_isMultipleOfPrime, .selects R_Ed y_Ed_isMultipleOfPrime y_Ed_isMultipleOfPrime, .initialized R_Ed]) (by decide +kernel) mc_Ed_isMultipleOfPrime, by decide +kernel⟩
set_option maxRecDepth 100000 in
theorem mc_F_negate : Cond.code y_F_negate b_F_negate 3 none ∈ lw_tbl := List.mem_append_right _ (List.mem_append_right _ (List.mem_append_right _ (List.mem_append_right _ (List.mem_append_right _ (List.mem_append_left _ (List.mem_of_getElem? (i := 134) rfl))))))
theorem w_Ed_196 : sx_w [.methodLink R_Ed 196 y_F_negate, .static y_F_negate, .initialized y_F_negate.cls, .code y_F_negate b_F_negate 3 none] y_F_negate 2 := ⟨sx_wc (ws := [.methodLink R_Ed 196 y_F_negate, .static y_F_negate, .initialized y_F_negate.cls]) (by decide +kernel) mc_F_negate, by decide +kernel⟩
theorem w_Pt_24 : sx_w [.methodLink R_Pt 24 y_F_set, .static y_F_set, .initialized y_F_set.cls, .code y_F_set b_F_set 3 none] y_F_set 2 := ⟨sx_wc (ws := [.methodLink R_Pt 24 y_F_set, .static y_F_set, .initialized y_F_set.cls]) (by decide +kernel) mc_F_set, by decide +kernel⟩
theorem w_Pt_28 : sx_w [.methodLink R_Pt 28 y_F_copy, .static y_F_copy, .initialized y_F_copy.cls, .code y_F_copy b_F_copy 2 none] y_F_copy 2 := ⟨sx_wc (ws := [.methodLink R_Pt 28 y_F_copy, .static y_F_copy, .initialized y_F_copy.cls]) (by decide +kernel) mc_F_copy, by decide +kernel⟩
theorem w_Pt_32 : sx_w [.methodLink R_Pt 32 y_F_times, .static y_F_times, .initialized y_F_times.cls, .code y_F_times b_F_times 53 none] y_F_times 3 := ⟨sx_wc (ws := [.methodLink R_Pt 32 y_F_times, .static y_F_times, .initialized y_F_times.cls]) (by decide +kernel) mc_F_times, by decide +kernel⟩
theorem w_Pt_36 : sx_w [.methodLink R_Pt 36 y_F_negate, .static y_F_negate, .initialized y_F_negate.cls, .code y_F_negate b_F_negate 3 none] y_F_negate 2 := ⟨sx_wc (ws := [.methodLink R_Pt 36 y_F_negate, .static y_F_negate, .initialized y_F_negate.cls]) (by decide +kernel) mc_F_negate, by decide +kernel⟩
set_option maxRecDepth 100000 in
theorem mc_K_isSameStart : Cond.code y_K_isSameStart b_K_isSameStart 4 (some .boolean) ∈ lw_tbl := List.mem_append_right _ (List.mem_append_right _ (List.mem_append_right _ (List.mem_append_right _ (List.mem_append_right _ (List.mem_append_left _ (List.mem_of_getElem? (i := 105) rfl))))))
theorem ln_Ed_176 : Cond.methodLinkNest R_Ed 176 y_K_isSameStart "CurveKeys" ∈ lw_tbl := by decide +kernel
theorem wn_Ed_176 : sx_w [.static y_K_isSameStart, .initialized y_K_isSameStart.cls, .code y_K_isSameStart b_K_isSameStart 4 (some .boolean)] y_K_isSameStart 2 := ⟨sx_wc (ws := [.static y_K_isSameStart, .initialized y_K_isSameStart.cls]) (by decide +kernel) mc_K_isSameStart, by decide +kernel⟩
set_option maxRecDepth 100000 in
theorem mc_K_isZeroStart : Cond.code y_K_isZeroStart b_K_isZeroStart 3 (some .boolean) ∈ lw_tbl := List.mem_append_right _ (List.mem_append_right _ (List.mem_append_right _ (List.mem_append_right _ (List.mem_append_right _ (List.mem_append_left _ (List.mem_of_getElem? (i := 37) rfl))))))
theorem ln_Ed_193 : Cond.methodLinkNest R_Ed 193 y_K_isZeroStart "CurveKeys" ∈ lw_tbl := by decide +kernel
theorem wn_Ed_193 : sx_w [.static y_K_isZeroStart, .initialized y_K_isZeroStart.cls, .code y_K_isZeroStart b_K_isZeroStart 3 (some .boolean)] y_K_isZeroStart 1 := ⟨sx_wc (ws := [.static y_K_isZeroStart, .initialized y_K_isZeroStart.cls]) (by decide +kernel) mc_K_isZeroStart, by decide +kernel⟩
