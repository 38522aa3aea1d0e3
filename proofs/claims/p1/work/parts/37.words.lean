/-- the words of a call, its code by its place -/
theorem sx_wc {ws : List Cond} {y : MethodName} {b : ByteArray} {n : Nat} {r : Option FieldType} (h : ∀ w ∈ ws, w ∈ lw_tbl ∧ sx_okw w = true) (hc : Cond.code y b n r ∈ lw_tbl) : ∀ w ∈ ws ++ [Cond.code y b n r], w ∈ lw_tbl ∧ sx_okw w = true := fun w hw => by
  rcases List.mem_append.mp hw with hw | hw
  · exact h w hw
  · rw [List.mem_singleton.mp hw]; exact ⟨hc, rfl⟩
theorem fl_Ad_9 : Cond.fieldLink R_Ad 9 R_Ad "less" "[J" ∈ lw_tbl ∧ sx_okw (Cond.fieldLink R_Ad 9 R_Ad "less" "[J") = true := by decide +kernel
theorem fl_Ad_15 : Cond.fieldLink R_Ad 15 R_Ad "more" "[J" ∈ lw_tbl ∧ sx_okw (Cond.fieldLink R_Ad 15 R_Ad "more" "[J") = true := by decide +kernel
theorem fl_Ad_18 : Cond.fieldLink R_Ad 18 R_Ad "twiceZ" "[J" ∈ lw_tbl ∧ sx_okw (Cond.fieldLink R_Ad 18 R_Ad "twiceZ" "[J") = true := by decide +kernel
theorem fl_Ad_21 : Cond.fieldLink R_Ad 21 R_Ad "twiceDT" "[J" ∈ lw_tbl ∧ sx_okw (Cond.fieldLink R_Ad 21 R_Ad "twiceDT" "[J") = true := by decide +kernel
theorem fl_Ed_39 : Cond.fieldLink R_Ed 39 R_Ed "a" "[J" ∈ lw_tbl ∧ sx_okw (Cond.fieldLink R_Ed 39 R_Ed "a" "[J") = true := by decide +kernel
theorem fl_Ed_43 : Cond.fieldLink R_Ed 43 R_Ed "b" "[J" ∈ lw_tbl ∧ sx_okw (Cond.fieldLink R_Ed 43 R_Ed "b" "[J") = true := by decide +kernel
theorem fl_Ed_46 : Cond.fieldLink R_Ed 46 R_Ed "c" "[J" ∈ lw_tbl ∧ sx_okw (Cond.fieldLink R_Ed 46 R_Ed "c" "[J") = true := by decide +kernel
theorem fl_Ed_49 : Cond.fieldLink R_Ed 49 R_Ed "d" "[J" ∈ lw_tbl ∧ sx_okw (Cond.fieldLink R_Ed 49 R_Ed "d" "[J") = true := by decide +kernel
theorem fl_Ed_52 : Cond.fieldLink R_Ed 52 R_Ed "e" "[J" ∈ lw_tbl ∧ sx_okw (Cond.fieldLink R_Ed 52 R_Ed "e" "[J") = true := by decide +kernel
theorem fl_Ed_55 : Cond.fieldLink R_Ed 55 R_Ed "f" "[J" ∈ lw_tbl ∧ sx_okw (Cond.fieldLink R_Ed 55 R_Ed "f" "[J") = true := by decide +kernel
theorem fl_Ed_58 : Cond.fieldLink R_Ed 58 R_Ed "g" "[J" ∈ lw_tbl ∧ sx_okw (Cond.fieldLink R_Ed 58 R_Ed "g" "[J") = true := by decide +kernel
theorem fl_Ed_61 : Cond.fieldLink R_Ed 61 R_Ed "h" "[J" ∈ lw_tbl ∧ sx_okw (Cond.fieldLink R_Ed 61 R_Ed "h" "[J") = true := by decide +kernel
theorem fl_Pt_9 : Cond.fieldLink R_Pt 9 R_Pt "x" "[J" ∈ lw_tbl ∧ sx_okw (Cond.fieldLink R_Pt 9 R_Pt "x" "[J") = true := by decide +kernel
theorem fl_Pt_15 : Cond.fieldLink R_Pt 15 R_Pt "y" "[J" ∈ lw_tbl ∧ sx_okw (Cond.fieldLink R_Pt 15 R_Pt "y" "[J") = true := by decide +kernel
theorem fl_Pt_18 : Cond.fieldLink R_Pt 18 R_Pt "z" "[J" ∈ lw_tbl ∧ sx_okw (Cond.fieldLink R_Pt 18 R_Pt "z" "[J") = true := by decide +kernel
theorem fl_Pt_21 : Cond.fieldLink R_Pt 21 R_Pt "t" "[J" ∈ lw_tbl ∧ sx_okw (Cond.fieldLink R_Pt 21 R_Pt "t" "[J") = true := by decide +kernel
theorem fn_Ad_24 : Cond.fieldLinkNest R_Ad 24 R_Pt "y" "[J" "CurveKeys" ∈ lw_tbl := by decide +kernel
theorem fn_Ad_29 : Cond.fieldLinkNest R_Ad 29 R_Pt "x" "[J" "CurveKeys" ∈ lw_tbl := by decide +kernel
theorem fn_Ad_39 : Cond.fieldLinkNest R_Ad 39 R_Pt "z" "[J" "CurveKeys" ∈ lw_tbl := by decide +kernel
theorem fn_Ad_42 : Cond.fieldLinkNest R_Ad 42 R_Pt "t" "[J" "CurveKeys" ∈ lw_tbl := by decide +kernel
theorem fn_Ad_45 : Cond.fieldLinkNest R_Ad 45 R_Ed "TWICE_CURVE_D" "[J" "CurveKeys" ∈ lw_tbl := by decide +kernel
theorem fn_Ed_91 : Cond.fieldLinkNest R_Ed 91 R_Pt "y" "[J" "CurveKeys" ∈ lw_tbl := by decide +kernel
theorem fn_Ed_94 : Cond.fieldLinkNest R_Ed 94 R_Pt "x" "[J" "CurveKeys" ∈ lw_tbl := by decide +kernel
theorem fn_Ed_101 : Cond.fieldLinkNest R_Ed 101 R_Ad "less" "[J" "CurveKeys" ∈ lw_tbl := by decide +kernel
theorem fn_Ed_109 : Cond.fieldLinkNest R_Ed 109 R_Ad "more" "[J" "CurveKeys" ∈ lw_tbl := by decide +kernel
theorem fn_Ed_112 : Cond.fieldLinkNest R_Ed 112 R_Pt "t" "[J" "CurveKeys" ∈ lw_tbl := by decide +kernel
theorem fn_Ed_115 : Cond.fieldLinkNest R_Ed 115 R_Ad "twiceDT" "[J" "CurveKeys" ∈ lw_tbl := by decide +kernel
theorem fn_Ed_118 : Cond.fieldLinkNest R_Ed 118 R_Pt "z" "[J" "CurveKeys" ∈ lw_tbl := by decide +kernel
theorem fn_Ed_121 : Cond.fieldLinkNest R_Ed 121 R_Ad "twiceZ" "[J" "CurveKeys" ∈ lw_tbl := by decide +kernel
set_option maxRecDepth 100000 in
theorem mc_F_subtract : Cond.code y_F_subtract b_F_subtract 4 none ∈ lw_tbl := List.mem_append_right _ (List.mem_append_left _ (List.mem_of_getElem? (i := 213) rfl))
theorem w_Ad_32 : sx_w [.methodLink R_Ad 32 y_F_subtract, .static y_F_subtract, .initialized y_F_subtract.cls, .code y_F_subtract b_F_subtract 4 none] y_F_subtract 3 := ⟨sx_wc (ws := [.methodLink R_Ad 32 y_F_subtract, .static y_F_subtract, .initialized y_F_subtract.cls]) (by decide +kernel) mc_F_subtract, by decide +kernel⟩
set_option maxRecDepth 100000 in
theorem mc_F_add : Cond.code y_F_add b_F_add 4 none ∈ lw_tbl := List.mem_append_right _ (List.mem_append_left _ (List.mem_of_getElem? (i := 216) rfl))
theorem w_Ad_36 : sx_w [.methodLink R_Ad 36 y_F_add, .static y_F_add, .initialized y_F_add.cls, .code y_F_add b_F_add 4 none] y_F_add 3 := ⟨sx_wc (ws := [.methodLink R_Ad 36 y_F_add, .static y_F_add, .initialized y_F_add.cls]) (by decide +kernel) mc_F_add, by decide +kernel⟩
set_option maxRecDepth 100000 in
theorem mc_F_times : Cond.code y_F_times b_F_times 53 none ∈ lw_tbl := List.mem_append_right _ (List.mem_append_left _ (List.mem_of_getElem? (i := 195) rfl))
theorem w_Ad_50 : sx_w [.methodLink R_Ad 50 y_F_times, .static y_F_times, .initialized y_F_times.cls, .code y_F_times b_F_times 53 none] y_F_times 3 := ⟨sx_wc (ws := [.methodLink R_Ad 50 y_F_times, .static y_F_times, .initialized y_F_times.cls]) (by decide +kernel) mc_F_times, by decide +kernel⟩
set_option maxRecDepth 100000 in
theorem mc_Ad_set : Cond.code y_Ad_set b_Ad_set 2 none ∈ lw_tbl := List.mem_append_right _ (List.mem_append_left _ (List.mem_of_getElem? (i := 210) rfl))
theorem w_Ed_83 : sx_w [.methodLink R_Ed 83 y_Ad_set, .instanceMethod y_Ad_set, .selects R_Ad y_Ad_set y_Ad_set, .initialized R_Ad, .code y_Ad_set b_Ad_set 2 none] y_Ad_set 1 := ⟨sx_wc (ws := [.methodLink R_Ed 83 y_Ad_set, .instanceMethod y_Ad_set, .selects R_Ad y_Ad_set y_Ad_set, .initialized R_Ad]) (by decide +kernel) mc_Ad_set, by decide +kernel⟩
set_option maxRecDepth 100000 in
theorem mc_Ed_add : Cond.code y_Ed_add b_Ed_add 3 none ∈ lw_tbl := List.mem_append_right _ (List.mem_append_left _ (List.mem_of_getElem? (i := 223) rfl))
theorem w_Ed_87 : sx_w [.methodLink R_Ed 87 y_Ed_add, .instanceMethod y_Ed_add, .selects R_Ed y_Ed_add y_Ed_add, .initialized R_Ed, .code y_Ed_add b_Ed_add 3 none] y_Ed_add 2 := ⟨sx_wc (ws := [.methodLink R_Ed 87 y_Ed_add, .instanceMethod y_Ed_add, .selects R_Ed y_Ed_add y_Ed_add, .initialized R_Ed]) (by decide +kernel) mc_Ed_add, by decide +kernel⟩
theorem w_Ed_97 : sx_w [.methodLink R_Ed 97 y_F_subtract, .static y_F_subtract, .initialized y_F_subtract.cls, .code y_F_subtract b_F_subtract 4 none] y_F_subtract 3 := ⟨sx_wc (ws := [.methodLink R_Ed 97 y_F_subtract, .static y_F_subtract, .initialized y_F_subtract.cls]) (by decide +kernel) mc_F_subtract, by decide +kernel⟩
theorem w_Ed_104 : sx_w [.methodLink R_Ed 104 y_F_times, .static y_F_times, .initialized y_F_times.cls, .code y_F_times b_F_times 53 none] y_F_times 3 := ⟨sx_wc (ws := [.methodLink R_Ed 104 y_F_times, .static y_F_times, .initialized y_F_times.cls]) (by decide +kernel) mc_F_times, by decide +kernel⟩
theorem w_Ed_107 : sx_w [.methodLink R_Ed 107 y_F_add, .static y_F_add, .initialized y_F_add.cls, .code y_F_add b_F_add 4 none] y_F_add 3 := ⟨sx_wc (ws := [.methodLink R_Ed 107 y_F_add, .static y_F_add, .initialized y_F_add.cls]) (by decide +kernel) mc_F_add, by decide +kernel⟩
set_option maxRecDepth 100000 in
theorem mc_Ed_join : Cond.code y_Ed_join b_Ed_join 2 none ∈ lw_tbl := List.mem_append_right _ (List.mem_append_left _ (List.mem_of_getElem? (i := 230) rfl))
theorem w_Ed_124 : sx_w [.methodLink R_Ed 124 y_Ed_join, .instanceMethod y_Ed_join, .selects R_Ed y_Ed_join y_Ed_join, .initialized R_Ed, .code y_Ed_join b_Ed_join 2 none] y_Ed_join 1 := ⟨sx_wc (ws := [.methodLink R_Ed 124 y_Ed_join, .instanceMethod y_Ed_join, .selects R_Ed y_Ed_join y_Ed_join, .initialized R_Ed]) (by decide +kernel) mc_Ed_join, by decide +kernel⟩
set_option maxRecDepth 100000 in
theorem mc_F_set : Cond.code y_F_set b_F_set 3 none ∈ lw_tbl := List.mem_append_right _ (List.mem_append_left _ (List.mem_of_getElem? (i := 189) rfl))
theorem w_Pt_24 : sx_w [.methodLink R_Pt 24 y_F_set, .static y_F_set, .initialized y_F_set.cls, .code y_F_set b_F_set 3 none] y_F_set 2 := ⟨sx_wc (ws := [.methodLink R_Pt 24 y_F_set, .static y_F_set, .initialized y_F_set.cls]) (by decide +kernel) mc_F_set, by decide +kernel⟩
set_option maxRecDepth 100000 in
theorem mc_F_copy : Cond.code y_F_copy b_F_copy 2 none ∈ lw_tbl := List.mem_append_right _ (List.mem_append_left _ (List.mem_of_getElem? (i := 183) rfl))
theorem w_Pt_28 : sx_w [.methodLink R_Pt 28 y_F_copy, .static y_F_copy, .initialized y_F_copy.cls, .code y_F_copy b_F_copy 2 none] y_F_copy 2 := ⟨sx_wc (ws := [.methodLink R_Pt 28 y_F_copy, .static y_F_copy, .initialized y_F_copy.cls]) (by decide +kernel) mc_F_copy, by decide +kernel⟩
theorem w_Pt_32 : sx_w [.methodLink R_Pt 32 y_F_times, .static y_F_times, .initialized y_F_times.cls, .code y_F_times b_F_times 53 none] y_F_times 3 := ⟨sx_wc (ws := [.methodLink R_Pt 32 y_F_times, .static y_F_times, .initialized y_F_times.cls]) (by decide +kernel) mc_F_times, by decide +kernel⟩
