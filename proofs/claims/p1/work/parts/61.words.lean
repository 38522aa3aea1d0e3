

theorem fl_K_134 : Cond.fieldLink R_K 134 R_K "zeroAgreements" "I" ∈ lw_tbl ∧ sx_okw (Cond.fieldLink R_K 134 R_K "zeroAgreements" "I") = true := by decide +kernel
theorem fl_K_141 : Cond.fieldLink R_K 141 R_K "signed" "I" ∈ lw_tbl ∧ sx_okw (Cond.fieldLink R_K 141 R_K "signed" "I") = true := by decide +kernel
theorem fl_M_211 : Cond.fieldLink R_M 211 R_M "thrown" "I" ∈ lw_tbl ∧ sx_okw (Cond.fieldLink R_M 211 R_M "thrown" "I") = true := by decide +kernel
theorem fl_M_309 : Cond.fieldLink R_M 309 R_M "messages" "I" ∈ lw_tbl ∧ sx_okw (Cond.fieldLink R_M 309 R_M "messages" "I") = true := by decide +kernel
theorem fl_M_315 : Cond.fieldLink R_M 315 R_M "tapes" "I" ∈ lw_tbl ∧ sx_okw (Cond.fieldLink R_M 315 R_M "tapes" "I") = true := by decide +kernel
theorem fl_M_322 : Cond.fieldLink R_M 322 R_M "keyCount" "I" ∈ lw_tbl ∧ sx_okw (Cond.fieldLink R_M 322 R_M "keyCount" "I") = true := by decide +kernel
theorem fl_M_325 : Cond.fieldLink R_M 325 R_M "results" "I" ∈ lw_tbl ∧ sx_okw (Cond.fieldLink R_M 325 R_M "results" "I") = true := by decide +kernel
set_option maxRecDepth 100000 in
theorem mc_M_fail : Cond.code y_M_fail b_M_fail 2 (some .int) ∈ lw_tbl := List.mem_append_right _ (List.mem_append_right _ (List.mem_append_right _ (List.mem_append_right _ (List.mem_append_right _ (List.mem_append_right _ (List.mem_append_left _ (List.mem_of_getElem? (i := 229) rfl)))))))
theorem w_M_319 : sx_w [.methodLink R_M 319 y_M_fail, .instanceMethod y_M_fail, .selects R_M y_M_fail y_M_fail, .initialized R_M, .code y_M_fail b_M_fail 2 (some .int)] y_M_fail 1 := ⟨sx_wc (ws := [.methodLink R_M 319 y_M_fail, .instanceMethod y_M_fail, .selects R_M y_M_fail y_M_fail, .initialized R_M]) (by decide +kernel) mc_M_fail, by decide +kernel⟩
set_option maxRecDepth 100000 in
theorem mc_M_none : Cond.code y_M_none b_M_none 2 (some .boolean) ∈ lw_tbl := List.mem_append_right _ (List.mem_append_right _ (List.mem_append_right _ (List.mem_append_right _ (List.mem_append_right _ (List.mem_append_right _ (List.mem_append_right _ (List.mem_of_getElem? (i := 5) rfl)))))))
theorem w_M_328 : sx_w [.methodLink R_M 328 y_M_none, .instanceMethod y_M_none, .selects R_M y_M_none y_M_none, .initialized R_M, .code y_M_none b_M_none 2 (some .boolean)] y_M_none 1 := ⟨sx_wc (ws := [.methodLink R_M 328 y_M_none, .instanceMethod y_M_none, .selects R_M y_M_none y_M_none, .initialized R_M]) (by decide +kernel) mc_M_none, by decide +kernel⟩
