theorem fl_K_18 : Cond.fieldLink R_K 18 R_K "result" "[B" ∈ lw_tbl ∧ sx_okw (Cond.fieldLink R_K 18 R_K "result" "[B") = true := by decide +kernel
theorem fl_K_22 : Cond.fieldLink R_K 22 R_K "verdicts" "[I" ∈ lw_tbl ∧ sx_okw (Cond.fieldLink R_K 22 R_K "verdicts" "[I") = true := by decide +kernel
theorem fl_K_54 : Cond.fieldLink R_K 54 R_K "tape" "LCurveKeys$Row;" ∈ lw_tbl ∧ sx_okw (Cond.fieldLink R_K 54 R_K "tape" "LCurveKeys$Row;") = true := by decide +kernel
theorem fl_K_58 : Cond.fieldLink R_K 58 R_K "message" "LCurveKeys$Row;" ∈ lw_tbl ∧ sx_okw (Cond.fieldLink R_K 58 R_K "message" "LCurveKeys$Row;") = true := by decide +kernel
theorem fl_K_88 : Cond.fieldLink R_K 88 R_K "keyCount" "I" ∈ lw_tbl ∧ sx_okw (Cond.fieldLink R_K 88 R_K "keyCount" "I") = true := by decide +kernel
theorem fl_K_123 : Cond.fieldLink R_K 123 R_K "resultLength" "I" ∈ lw_tbl ∧ sx_okw (Cond.fieldLink R_K 123 R_K "resultLength" "I") = true := by decide +kernel
theorem fl_K_134 : Cond.fieldLink R_K 134 R_K "zeroAgreements" "I" ∈ lw_tbl ∧ sx_okw (Cond.fieldLink R_K 134 R_K "zeroAgreements" "I") = true := by decide +kernel
theorem fl_K_141 : Cond.fieldLink R_K 141 R_K "signed" "I" ∈ lw_tbl ∧ sx_okw (Cond.fieldLink R_K 141 R_K "signed" "I") = true := by decide +kernel
theorem fn_K_76 : Cond.fieldLinkNest R_K 76 R_Ro "length" "I" "CurveKeys" ∈ lw_tbl := by decide +kernel
set_option maxRecDepth 100000 in
theorem mc_Ro_hasRoomFor : Cond.code y_Ro_hasRoomFor b_Ro_hasRoomFor 2 (some .boolean) ∈ lw_tbl := List.mem_append_right _ (List.mem_append_right _ (List.mem_append_left _ (List.mem_of_getElem? (i := 176) rfl)))
theorem w_K_61 : sx_w [.methodLink R_K 61 y_Ro_hasRoomFor, .instanceMethod y_Ro_hasRoomFor, .selects R_Ro y_Ro_hasRoomFor y_Ro_hasRoomFor, .initialized R_Ro, .code y_Ro_hasRoomFor b_Ro_hasRoomFor 2 (some .boolean)] y_Ro_hasRoomFor 1 := ⟨sx_wc (ws := [.methodLink R_K 61 y_Ro_hasRoomFor, .instanceMethod y_Ro_hasRoomFor, .selects R_Ro y_Ro_hasRoomFor y_Ro_hasRoomFor, .initialized R_Ro]) (by decide +kernel) mc_Ro_hasRoomFor, by decide +kernel⟩
set_option maxRecDepth 100000 in
theorem mc_Ro_appendNumber : Cond.code y_Ro_appendNumber b_Ro_appendNumber 2 none ∈ lw_tbl := List.mem_append_right _ (List.mem_append_right _ (List.mem_append_right _ (List.mem_append_left _ (List.mem_of_getElem? (i := 10) rfl))))
theorem w_K_72 : sx_w [.methodLink R_K 72 y_Ro_appendNumber, .instanceMethod y_Ro_appendNumber, .selects R_Ro y_Ro_appendNumber y_Ro_appendNumber, .initialized R_Ro, .code y_Ro_appendNumber b_Ro_appendNumber 2 none] y_Ro_appendNumber 1 := ⟨sx_wc (ws := [.methodLink R_K 72 y_Ro_appendNumber, .instanceMethod y_Ro_appendNumber, .selects R_Ro y_Ro_appendNumber y_Ro_appendNumber, .initialized R_Ro]) (by decide +kernel) mc_Ro_appendNumber, by decide +kernel⟩
