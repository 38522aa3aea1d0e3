theorem nw_Ed_9 : ∀ w ∈ ([.classLink R_Ed 9 R_Pt, .instantiable R_Pt 4, .initialized R_Pt] : List Cond), w ∈ lw_tbl ∧ sx_okw w = true := by decide +kernel
theorem nw_Ed_21 : ∀ w ∈ ([.classLink R_Ed 21 R_Ad, .instantiable R_Ad 4, .initialized R_Ad] : List Cond), w ∈ lw_tbl ∧ sx_okw w = true := by decide +kernel
theorem nw_K_7 : ∀ w ∈ ([.classLink R_K 7 R_F, .instantiable R_F 7, .initialized R_F] : List Cond), w ∈ lw_tbl ∧ sx_okw w = true := by decide +kernel
theorem nw_K_26 : ∀ w ∈ ([.classLink R_K 26 R_La, .instantiable R_La 12, .initialized R_La] : List Cond), w ∈ lw_tbl ∧ sx_okw w = true := by decide +kernel
theorem nw_K_35 : ∀ w ∈ ([.classLink R_K 35 R_Ed, .instantiable R_Ed 15, .initialized R_Ed] : List Cond), w ∈ lw_tbl ∧ sx_okw w = true := by decide +kernel
theorem nw_K_42 : ∀ w ∈ ([.classLink R_K 42 R_Si, .instantiable R_Si 9, .initialized R_Si] : List Cond), w ∈ lw_tbl ∧ sx_okw w = true := by decide +kernel
theorem nw_K_51 : ∀ w ∈ ([.classLink R_K 51 R_Ro, .instantiable R_Ro 2, .initialized R_Ro] : List Cond), w ∈ lw_tbl ∧ sx_okw w = true := by decide +kernel
theorem nw_Si_9 : ∀ w ∈ ([.classLink R_Si 9 R_Ha, .instantiable R_Ha 5, .initialized R_Ha] : List Cond), w ∈ lw_tbl ∧ sx_okw w = true := by decide +kernel
theorem nw_Si_18 : ∀ w ∈ ([.classLink R_Si 18 R_Or, .instantiable R_Or 1, .initialized R_Or] : List Cond), w ∈ lw_tbl ∧ sx_okw w = true := by decide +kernel
set_option maxRecDepth 100000 in
theorem mc_Pt_init : Cond.code y_Pt_init b_Pt_init 1 none ∈ lw_tbl := List.mem_append_right _ (List.mem_append_left _ (List.mem_of_getElem? (i := 126) rfl))
theorem il_Ed_11 : Cond.methodLinkNest R_Ed 11 y_Pt_init "CurveKeys" ∈ lw_tbl := by decide +kernel
theorem iw_Ed_11 : sx_w [.instanceMethod y_Pt_init, .initialized y_Pt_init.cls, .code y_Pt_init b_Pt_init 1 none] y_Pt_init 0 := ⟨sx_wc (ws := [.instanceMethod y_Pt_init, .initialized y_Pt_init.cls]) (by decide +kernel) mc_Pt_init, by decide +kernel⟩
set_option maxRecDepth 100000 in
theorem mc_Ad_init : Cond.code y_Ad_init b_Ad_init 1 none ∈ lw_tbl := List.mem_append_right _ (List.mem_append_left _ (List.mem_of_getElem? (i := 154) rfl))
theorem il_Ed_68 : Cond.methodLinkNest R_Ed 68 y_Ad_init "CurveKeys" ∈ lw_tbl := by decide +kernel
theorem iw_Ed_68 : sx_w [.instanceMethod y_Ad_init, .initialized y_Ad_init.cls, .code y_Ad_init b_Ad_init 1 none] y_Ad_init 0 := ⟨sx_wc (ws := [.instanceMethod y_Ad_init, .initialized y_Ad_init.cls]) (by decide +kernel) mc_Ad_init, by decide +kernel⟩
set_option maxRecDepth 100000 in
theorem mc_F_init : Cond.code y_F_init b_F_init 1 none ∈ lw_tbl := List.mem_append_right _ (List.mem_append_left _ (List.mem_of_getElem? (i := 44) rfl))
theorem il_K_9 : Cond.methodLinkNest R_K 9 y_F_init "CurveKeys" ∈ lw_tbl := by decide +kernel
theorem iw_K_9 : sx_w [.instanceMethod y_F_init, .initialized y_F_init.cls, .code y_F_init b_F_init 1 none] y_F_init 0 := ⟨sx_wc (ws := [.instanceMethod y_F_init, .initialized y_F_init.cls]) (by decide +kernel) mc_F_init, by decide +kernel⟩
set_option maxRecDepth 100000 in
theorem mc_Ro_init : Cond.code y_Ro_init b_Ro_init 1 none ∈ lw_tbl := List.mem_append_right _ (List.mem_append_right _ (List.mem_append_left _ (List.mem_of_getElem? (i := 107) rfl)))
theorem il_K_53 : Cond.methodLinkNest R_K 53 y_Ro_init "CurveKeys" ∈ lw_tbl := by decide +kernel
theorem iw_K_53 : sx_w [.instanceMethod y_Ro_init, .initialized y_Ro_init.cls, .code y_Ro_init b_Ro_init 1 none] y_Ro_init 0 := ⟨sx_wc (ws := [.instanceMethod y_Ro_init, .initialized y_Ro_init.cls]) (by decide +kernel) mc_Ro_init, by decide +kernel⟩
set_option maxRecDepth 100000 in
theorem mc_Ha_init : Cond.code y_Ha_init b_Ha_init 1 none ∈ lw_tbl := List.mem_append_right _ (List.mem_append_right _ (List.mem_append_left _ (List.mem_of_getElem? (i := 47) rfl)))
theorem il_Si_11 : Cond.methodLinkNest R_Si 11 y_Ha_init "CurveKeys" ∈ lw_tbl := by decide +kernel
theorem iw_Si_11 : sx_w [.instanceMethod y_Ha_init, .initialized y_Ha_init.cls, .code y_Ha_init b_Ha_init 1 none] y_Ha_init 0 := ⟨sx_wc (ws := [.instanceMethod y_Ha_init, .initialized y_Ha_init.cls]) (by decide +kernel) mc_Ha_init, by decide +kernel⟩
set_option maxRecDepth 100000 in
theorem mc_Or_init : Cond.code y_Or_init b_Or_init 1 none ∈ lw_tbl := List.mem_append_right _ (List.mem_append_right _ (List.mem_append_left _ (List.mem_of_getElem? (i := 69) rfl)))
theorem il_Si_20 : Cond.methodLinkNest R_Si 20 y_Or_init "CurveKeys" ∈ lw_tbl := by decide +kernel
theorem iw_Si_20 : sx_w [.instanceMethod y_Or_init, .initialized y_Or_init.cls, .code y_Or_init b_Or_init 1 none] y_Or_init 0 := ⟨sx_wc (ws := [.instanceMethod y_Or_init, .initialized y_Or_init.cls]) (by decide +kernel) mc_Or_init, by decide +kernel⟩
set_option maxRecDepth 100000 in
theorem mc_La_init : Cond.code y_La_init b_La_init 2 none ∈ lw_tbl := List.mem_append_right _ (List.mem_append_left _ (List.mem_of_getElem? (i := 75) rfl))
theorem iw_K_28 : sx_w [.methodLink R_K 28 y_La_init, .instanceMethod y_La_init, .initialized y_La_init.cls, .code y_La_init b_La_init 2 none] y_La_init 1 := ⟨sx_wc (ws := [.methodLink R_K 28 y_La_init, .instanceMethod y_La_init, .initialized y_La_init.cls]) (by decide +kernel) mc_La_init, by decide +kernel⟩
set_option maxRecDepth 100000 in
theorem mc_Ed_init : Cond.code y_Ed_init b_Ed_init 3 none ∈ lw_tbl := List.mem_append_right _ (List.mem_append_left _ (List.mem_of_getElem? (i := 120) rfl))
theorem iw_K_37 : sx_w [.methodLink R_K 37 y_Ed_init, .instanceMethod y_Ed_init, .initialized y_Ed_init.cls, .code y_Ed_init b_Ed_init 3 none] y_Ed_init 1 := ⟨sx_wc (ws := [.methodLink R_K 37 y_Ed_init, .instanceMethod y_Ed_init, .initialized y_Ed_init.cls]) (by decide +kernel) mc_Ed_init, by decide +kernel⟩
set_option maxRecDepth 100000 in
theorem mc_Si_init : Cond.code y_Si_init b_Si_init 2 none ∈ lw_tbl := List.mem_append_right _ (List.mem_append_right _ (List.mem_append_left _ (List.mem_of_getElem? (i := 41) rfl)))
theorem iw_K_44 : sx_w [.methodLink R_K 44 y_Si_init, .instanceMethod y_Si_init, .initialized y_Si_init.cls, .code y_Si_init b_Si_init 2 none] y_Si_init 1 := ⟨sx_wc (ws := [.methodLink R_K 44 y_Si_init, .instanceMethod y_Si_init, .initialized y_Si_init.cls]) (by decide +kernel) mc_Si_init, by decide +kernel⟩
theorem fl_Ed_69 : Cond.fieldLink R_Ed 69 R_Ed "BASE_X" "[J" ∈ lw_tbl ∧ sx_okw (Cond.fieldLink R_Ed 69 R_Ed "BASE_X" "[J") = true := by decide +kernel
theorem fl_Ed_72 : Cond.fieldLink R_Ed 72 R_Ed "BASE_Y" "[J" ∈ lw_tbl ∧ sx_okw (Cond.fieldLink R_Ed 72 R_Ed "BASE_Y" "[J") = true := by decide +kernel
