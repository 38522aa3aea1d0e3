
theorem fl_M_120 : Cond.fieldLink R_M 120 R_M "low" "[I" ∈ lw_tbl ∧ sx_okw (Cond.fieldLink R_M 120 R_M "low" "[I") = true := by decide +kernel
set_option maxRecDepth 100000 in
theorem mc_M_constants : Cond.code y_M_constants b_M_constants 3 none ∈ lw_tbl := List.mem_append_right _ (List.mem_append_right _ (List.mem_append_right _ (List.mem_append_right _ (List.mem_append_right _ (List.mem_append_left _ (List.mem_of_getElem? (i := 211) rfl))))))
theorem w_M_162 : sx_w [.methodLink R_M 162 y_M_constants, .instanceMethod y_M_constants, .selects R_M y_M_constants y_M_constants, .initialized R_M, .code y_M_constants b_M_constants 3 none] y_M_constants 0 := ⟨sx_wc (ws := [.methodLink R_M 162 y_M_constants, .instanceMethod y_M_constants, .selects R_M y_M_constants y_M_constants, .initialized R_M]) (by decide +kernel) mc_M_constants, by decide +kernel⟩
set_option maxRecDepth 100000 in
theorem mc_M_remainders : Cond.code y_M_remainders b_M_remainders 5 none ∈ lw_tbl := List.mem_append_right _ (List.mem_append_right _ (List.mem_append_right _ (List.mem_append_right _ (List.mem_append_right _ (List.mem_append_left _ (List.mem_of_getElem? (i := 233) rfl))))))
theorem w_M_171 : sx_w [.methodLink R_M 171 y_M_remainders, .static y_M_remainders, .initialized y_M_remainders.cls, .code y_M_remainders b_M_remainders 5 none] y_M_remainders 3 := ⟨sx_wc (ws := [.methodLink R_M 171 y_M_remainders, .static y_M_remainders, .initialized y_M_remainders.cls]) (by decide +kernel) mc_M_remainders, by decide +kernel⟩
