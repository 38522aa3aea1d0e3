theorem nw_L_8 : ∀ w ∈ ([.classLink R_L 8 R_K, .instantiable R_K 12, .initialized R_K] : List Cond), w ∈ lw_tbl ∧ sx_okw w = true := by decide +kernel
theorem nw_L_56 : ∀ w ∈ ([.classLink R_L 56 R_M, .instantiable R_M 53, .initialized R_M] : List Cond), w ∈ lw_tbl ∧ sx_okw w = true := by decide +kernel
set_option maxRecDepth 100000 in
theorem mc_K_init : Cond.code y_K_init b_K_init 2 none ∈ lw_tbl := List.mem_append_right _ (List.mem_append_left _ (List.mem_of_getElem? (i := 36) rfl))
theorem iw_L_55 : sx_w [.methodLink R_L 55 y_K_init, .instanceMethod y_K_init, .initialized y_K_init.cls, .code y_K_init b_K_init 2 none] y_K_init 0 := ⟨sx_wc (ws := [.methodLink R_L 55 y_K_init, .instanceMethod y_K_init, .initialized y_K_init.cls]) (by decide +kernel) mc_K_init, by decide +kernel⟩
set_option maxRecDepth 100000 in
theorem mc_M_init : Cond.code y_M_init b_M_init 2 none ∈ lw_tbl := List.mem_append_right _ (List.mem_append_right _ (List.mem_append_right _ (List.mem_append_right _ (List.mem_append_right _ (List.mem_append_left _ (List.mem_of_getElem? (i := 200) rfl))))))
theorem iw_L_58 : sx_w [.methodLink R_L 58 y_M_init, .instanceMethod y_M_init, .initialized y_M_init.cls, .code y_M_init b_M_init 2 none] y_M_init 0 := ⟨sx_wc (ws := [.methodLink R_L 58 y_M_init, .instanceMethod y_M_init, .initialized y_M_init.cls]) (by decide +kernel) mc_M_init, by decide +kernel⟩

