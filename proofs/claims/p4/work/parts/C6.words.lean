theorem fl_Ro_11 : Cond.fieldLink R_Ro 11 R_Ro "bytes" "[B" ∈ lw_tbl ∧ sx_okw (Cond.fieldLink R_Ro 11 R_Ro "bytes" "[B") = true := by decide +kernel
theorem fl_Ro_15 : Cond.fieldLink R_Ro 15 R_Ro "length" "I" ∈ lw_tbl ∧ sx_okw (Cond.fieldLink R_Ro 15 R_Ro "length" "I") = true := by decide +kernel
set_option maxRecDepth 100000 in
theorem mc_Ro_growBy : Cond.code y_Ro_growBy b_Ro_growBy 2 none ∈ lw_tbl := List.mem_append_right _ (List.mem_append_right _ (List.mem_append_right _ (List.mem_append_left _ (List.mem_of_getElem? (i := 14) rfl))))
theorem w_Ro_20 : sx_w [.methodLink R_Ro 20 y_Ro_growBy, .instanceMethod y_Ro_growBy, .selects R_Ro y_Ro_growBy y_Ro_growBy, .initialized R_Ro, .code y_Ro_growBy b_Ro_growBy 2 none] y_Ro_growBy 1 := ⟨sx_wc (ws := [.methodLink R_Ro 20 y_Ro_growBy, .instanceMethod y_Ro_growBy, .selects R_Ro y_Ro_growBy y_Ro_growBy, .initialized R_Ro]) (by decide +kernel) mc_Ro_growBy, by decide +kernel⟩
set_option maxRecDepth 100000 in
theorem mc_JA_copyOf : Cond.code y_JA_copyOf b_JA_copyOf 3 (some (.array .byte)) ∈ lw_tbl := List.mem_append_right _ (List.mem_append_right _ (List.mem_append_right _ (List.mem_append_left _ (List.mem_of_getElem? (i := 17) rfl))))
theorem w_Ro_30 : sx_w [.methodLink R_Ro 30 y_JA_copyOf, .static y_JA_copyOf, .initialized y_JA_copyOf.cls, .code y_JA_copyOf b_JA_copyOf 3 (some (.array .byte))] y_JA_copyOf 2 := ⟨sx_wc (ws := [.methodLink R_Ro 30 y_JA_copyOf, .static y_JA_copyOf, .initialized y_JA_copyOf.cls]) (by decide +kernel) mc_JA_copyOf, by decide +kernel⟩
