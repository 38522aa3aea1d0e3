theorem nw_K_7 : ∀ w ∈ ([.classLink R_K 7 R_F, .instantiable R_F 7, .initialized R_F] : List Cond), w ∈ lw_tbl ∧ sx_okw w = true := by decide +kernel
theorem nw_K_26 : ∀ w ∈ ([.classLink R_K 26 R_La, .instantiable R_La 12, .initialized R_La] : List Cond), w ∈ lw_tbl ∧ sx_okw w = true := by decide +kernel
theorem nw_K_35 : ∀ w ∈ ([.classLink R_K 35 R_Ed, .instantiable R_Ed 15, .initialized R_Ed] : List Cond), w ∈ lw_tbl ∧ sx_okw w = true := by decide +kernel
theorem nw_K_42 : ∀ w ∈ ([.classLink R_K 42 R_Si, .instantiable R_Si 9, .initialized R_Si] : List Cond), w ∈ lw_tbl ∧ sx_okw w = true := by decide +kernel
theorem nw_K_51 : ∀ w ∈ ([.classLink R_K 51 R_Ro, .instantiable R_Ro 2, .initialized R_Ro] : List Cond), w ∈ lw_tbl ∧ sx_okw w = true := by decide +kernel
set_option maxRecDepth 100000 in
theorem mc_F_init : Cond.code y_F_init b_F_init 1 none ∈ lw_tbl := List.mem_append_right _ (List.mem_append_left _ (List.mem_of_getElem? (i := 44) rfl))
theorem il_K_9 : Cond.methodLinkNest R_K 9 y_F_init "CurveKeys" ∈ lw_tbl := by decide +kernel
theorem iw_K_9 : sx_w [.instanceMethod y_F_init, .initialized y_F_init.cls, .code y_F_init b_F_init 1 none] y_F_init 0 := ⟨sx_wc (ws := [.instanceMethod y_F_init, .initialized y_F_init.cls]) (by decide +kernel) mc_F_init, by decide +kernel⟩
set_option maxRecDepth 100000 in
theorem mc_Ro_init : Cond.code y_Ro_init b_Ro_init 1 none ∈ lw_tbl := List.mem_append_right _ (List.mem_append_right _ (List.mem_append_left _ (List.mem_of_getElem? (i := 107) rfl)))
theorem il_K_53 : Cond.methodLinkNest R_K 53 y_Ro_init "CurveKeys" ∈ lw_tbl := by decide +kernel
theorem iw_K_53 : sx_w [.instanceMethod y_Ro_init, .initialized y_Ro_init.cls, .code y_Ro_init b_Ro_init 1 none] y_Ro_init 0 := ⟨sx_wc (ws := [.instanceMethod y_Ro_init, .initialized y_Ro_init.cls]) (by decide +kernel) mc_Ro_init, by decide +kernel⟩
set_option maxRecDepth 100000 in
theorem mc_La_init : Cond.code y_La_init b_La_init 2 none ∈ lw_tbl := List.mem_append_right _ (List.mem_append_left _ (List.mem_of_getElem? (i := 75) rfl))
theorem iw_K_28 : sx_w [.methodLink R_K 28 y_La_init, .instanceMethod y_La_init, .initialized y_La_init.cls, .code y_La_init b_La_init 2 none] y_La_init 1 := ⟨sx_wc (ws := [.methodLink R_K 28 y_La_init, .instanceMethod y_La_init, .initialized y_La_init.cls]) (by decide +kernel) mc_La_init, by decide +kernel⟩
set_option maxRecDepth 100000 in
theorem mc_Ed_init : Cond.code y_Ed_init b_Ed_init 3 none ∈ lw_tbl := List.mem_append_right _ (List.mem_append_left _ (List.mem_of_getElem? (i := 120) rfl))
theorem iw_K_37 : sx_w [.methodLink R_K 37 y_Ed_init, .instanceMethod y_Ed_init, .initialized y_Ed_init.cls, .code y_Ed_init b_Ed_init 3 none] y_Ed_init 1 := ⟨sx_wc (ws := [.methodLink R_K 37 y_Ed_init, .instanceMethod y_Ed_init, .initialized y_Ed_init.cls]) (by decide +kernel) mc_Ed_init, by decide +kernel⟩
set_option maxRecDepth 100000 in
theorem mc_Si_init : Cond.code y_Si_init b_Si_init 2 none ∈ lw_tbl := List.mem_append_right _ (List.mem_append_right _ (List.mem_append_left _ (List.mem_of_getElem? (i := 41) rfl)))
theorem iw_K_44 : sx_w [.methodLink R_K 44 y_Si_init, .instanceMethod y_Si_init, .initialized y_Si_init.cls, .code y_Si_init b_Si_init 2 none] y_Si_init 1 := ⟨sx_wc (ws := [.methodLink R_K 44 y_Si_init, .instanceMethod y_Si_init, .initialized y_Si_init.cls]) (by decide +kernel) mc_Si_init, by decide +kernel⟩
theorem fl_K_14 : Cond.fieldLink R_K 14 R_K "keys" "[LCurveKeys$Key;" ∈ lw_tbl ∧ sx_okw (Cond.fieldLink R_K 14 R_K "keys" "[LCurveKeys$Key;") = true := by decide +kernel
theorem fl_K_18 : Cond.fieldLink R_K 18 R_K "result" "[B" ∈ lw_tbl ∧ sx_okw (Cond.fieldLink R_K 18 R_K "result" "[B") = true := by decide +kernel
theorem fl_K_22 : Cond.fieldLink R_K 22 R_K "verdicts" "[I" ∈ lw_tbl ∧ sx_okw (Cond.fieldLink R_K 22 R_K "verdicts" "[I") = true := by decide +kernel
theorem fl_K_31 : Cond.fieldLink R_K 31 R_K "ladder" "LCurveKeys$Ladder;" ∈ lw_tbl ∧ sx_okw (Cond.fieldLink R_K 31 R_K "ladder" "LCurveKeys$Ladder;") = true := by decide +kernel
theorem fl_K_38 : Cond.fieldLink R_K 38 R_K "edwards" "LCurveKeys$Edwards;" ∈ lw_tbl ∧ sx_okw (Cond.fieldLink R_K 38 R_K "edwards" "LCurveKeys$Edwards;") = true := by decide +kernel
theorem fl_K_47 : Cond.fieldLink R_K 47 R_K "signatures" "LCurveKeys$Signatures;" ∈ lw_tbl ∧ sx_okw (Cond.fieldLink R_K 47 R_K "signatures" "LCurveKeys$Signatures;") = true := by decide +kernel
theorem fl_K_54 : Cond.fieldLink R_K 54 R_K "tape" "LCurveKeys$Row;" ∈ lw_tbl ∧ sx_okw (Cond.fieldLink R_K 54 R_K "tape" "LCurveKeys$Row;") = true := by decide +kernel
theorem fl_K_58 : Cond.fieldLink R_K 58 R_K "message" "LCurveKeys$Row;" ∈ lw_tbl ∧ sx_okw (Cond.fieldLink R_K 58 R_K "message" "LCurveKeys$Row;") = true := by decide +kernel
