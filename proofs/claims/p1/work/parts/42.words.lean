theorem nw_Si_9 : ∀ w ∈ ([.classLink R_Si 9 R_Ha, .instantiable R_Ha 5, .initialized R_Ha] : List Cond), w ∈ lw_tbl ∧ sx_okw w = true := by decide +kernel
theorem nw_Si_18 : ∀ w ∈ ([.classLink R_Si 18 R_Or, .instantiable R_Or 1, .initialized R_Or] : List Cond), w ∈ lw_tbl ∧ sx_okw w = true := by decide +kernel
set_option maxRecDepth 100000 in
theorem mc_Ha_init : Cond.code y_Ha_init b_Ha_init 1 none ∈ lw_tbl := List.mem_append_right _ (List.mem_append_right _ (List.mem_append_left _ (List.mem_of_getElem? (i := 47) rfl)))
theorem il_Si_11 : Cond.methodLinkNest R_Si 11 y_Ha_init "CurveKeys" ∈ lw_tbl := by decide +kernel
theorem iw_Si_11 : sx_w [.instanceMethod y_Ha_init, .initialized y_Ha_init.cls, .code y_Ha_init b_Ha_init 1 none] y_Ha_init 0 := ⟨sx_wc (ws := [.instanceMethod y_Ha_init, .initialized y_Ha_init.cls]) (by decide +kernel) mc_Ha_init, by decide +kernel⟩
set_option maxRecDepth 100000 in
theorem mc_Or_init : Cond.code y_Or_init b_Or_init 1 none ∈ lw_tbl := List.mem_append_right _ (List.mem_append_right _ (List.mem_append_left _ (List.mem_of_getElem? (i := 69) rfl)))
theorem il_Si_20 : Cond.methodLinkNest R_Si 20 y_Or_init "CurveKeys" ∈ lw_tbl := by decide +kernel
theorem iw_Si_20 : sx_w [.instanceMethod y_Or_init, .initialized y_Or_init.cls, .code y_Or_init b_Or_init 1 none] y_Or_init 0 := ⟨sx_wc (ws := [.instanceMethod y_Or_init, .initialized y_Or_init.cls]) (by decide +kernel) mc_Or_init, by decide +kernel⟩
theorem fl_F_11 : Cond.fieldLink R_F 11 R_F "eleven" "[J" ∈ lw_tbl ∧ sx_okw (Cond.fieldLink R_F 11 R_F "eleven" "[J") = true := by decide +kernel
theorem fl_F_15 : Cond.fieldLink R_F 15 R_F "ten" "[J" ∈ lw_tbl ∧ sx_okw (Cond.fieldLink R_F 15 R_F "ten" "[J") = true := by decide +kernel
theorem fl_F_18 : Cond.fieldLink R_F 18 R_F "fifty" "[J" ∈ lw_tbl ∧ sx_okw (Cond.fieldLink R_F 18 R_F "fifty" "[J") = true := by decide +kernel
theorem fl_F_21 : Cond.fieldLink R_F 21 R_F "ones" "[J" ∈ lw_tbl ∧ sx_okw (Cond.fieldLink R_F 21 R_F "ones" "[J") = true := by decide +kernel
theorem fl_F_24 : Cond.fieldLink R_F 24 R_F "first" "[J" ∈ lw_tbl ∧ sx_okw (Cond.fieldLink R_F 24 R_F "first" "[J") = true := by decide +kernel
theorem fl_F_27 : Cond.fieldLink R_F 27 R_F "second" "[J" ∈ lw_tbl ∧ sx_okw (Cond.fieldLink R_F 27 R_F "second" "[J") = true := by decide +kernel
theorem fl_F_30 : Cond.fieldLink R_F 30 R_F "spare" "[J" ∈ lw_tbl ∧ sx_okw (Cond.fieldLink R_F 30 R_F "spare" "[J") = true := by decide +kernel
theorem fl_Ha_7 : Cond.fieldLink R_Ha 7 R_Ha "state" "[J" ∈ lw_tbl ∧ sx_okw (Cond.fieldLink R_Ha 7 R_Ha "state" "[J") = true := by decide +kernel
theorem fl_Ha_13 : Cond.fieldLink R_Ha 13 R_Ha "words" "[J" ∈ lw_tbl ∧ sx_okw (Cond.fieldLink R_Ha 13 R_Ha "words" "[J") = true := by decide +kernel
theorem fl_Ha_16 : Cond.fieldLink R_Ha 16 R_Ha "block" "[B" ∈ lw_tbl ∧ sx_okw (Cond.fieldLink R_Ha 16 R_Ha "block" "[B") = true := by decide +kernel
theorem fl_La_9 : Cond.fieldLink R_La 9 R_La "scalar" "[B" ∈ lw_tbl ∧ sx_okw (Cond.fieldLink R_La 9 R_La "scalar" "[B") = true := by decide +kernel
theorem fl_La_15 : Cond.fieldLink R_La 15 R_La "nine" "[B" ∈ lw_tbl ∧ sx_okw (Cond.fieldLink R_La 15 R_La "nine" "[B") = true := by decide +kernel
theorem fl_La_20 : Cond.fieldLink R_La 20 R_La "u" "[J" ∈ lw_tbl ∧ sx_okw (Cond.fieldLink R_La 20 R_La "u" "[J") = true := by decide +kernel
theorem fl_La_24 : Cond.fieldLink R_La 24 R_La "lowX" "[J" ∈ lw_tbl ∧ sx_okw (Cond.fieldLink R_La 24 R_La "lowX" "[J") = true := by decide +kernel
theorem fl_La_27 : Cond.fieldLink R_La 27 R_La "lowZ" "[J" ∈ lw_tbl ∧ sx_okw (Cond.fieldLink R_La 27 R_La "lowZ" "[J") = true := by decide +kernel
theorem fl_La_30 : Cond.fieldLink R_La 30 R_La "highX" "[J" ∈ lw_tbl ∧ sx_okw (Cond.fieldLink R_La 30 R_La "highX" "[J") = true := by decide +kernel
theorem fl_La_33 : Cond.fieldLink R_La 33 R_La "highZ" "[J" ∈ lw_tbl ∧ sx_okw (Cond.fieldLink R_La 33 R_La "highZ" "[J") = true := by decide +kernel
theorem fl_La_36 : Cond.fieldLink R_La 36 R_La "a" "[J" ∈ lw_tbl ∧ sx_okw (Cond.fieldLink R_La 36 R_La "a" "[J") = true := by decide +kernel
theorem fl_La_39 : Cond.fieldLink R_La 39 R_La "b" "[J" ∈ lw_tbl ∧ sx_okw (Cond.fieldLink R_La 39 R_La "b" "[J") = true := by decide +kernel
theorem fl_La_42 : Cond.fieldLink R_La 42 R_La "c" "[J" ∈ lw_tbl ∧ sx_okw (Cond.fieldLink R_La 42 R_La "c" "[J") = true := by decide +kernel
theorem fl_La_45 : Cond.fieldLink R_La 45 R_La "d" "[J" ∈ lw_tbl ∧ sx_okw (Cond.fieldLink R_La 45 R_La "d" "[J") = true := by decide +kernel
theorem fl_La_48 : Cond.fieldLink R_La 48 R_La "field" "LCurveKeys$Field;" ∈ lw_tbl ∧ sx_okw (Cond.fieldLink R_La 48 R_La "field" "LCurveKeys$Field;") = true := by decide +kernel
theorem fl_Or_11 : Cond.fieldLink R_Or 11 R_Or "wide" "[J" ∈ lw_tbl ∧ sx_okw (Cond.fieldLink R_Or 11 R_Or "wide" "[J") = true := by decide +kernel
theorem fl_Ro_11 : Cond.fieldLink R_Ro 11 R_Ro "bytes" "[B" ∈ lw_tbl ∧ sx_okw (Cond.fieldLink R_Ro 11 R_Ro "bytes" "[B") = true := by decide +kernel
theorem fl_Si_12 : Cond.fieldLink R_Si 12 R_Si "hash" "LCurveKeys$Hash;" ∈ lw_tbl ∧ sx_okw (Cond.fieldLink R_Si 12 R_Si "hash" "LCurveKeys$Hash;") = true := by decide +kernel
theorem fl_Si_21 : Cond.fieldLink R_Si 21 R_Si "order" "LCurveKeys$Order;" ∈ lw_tbl ∧ sx_okw (Cond.fieldLink R_Si 21 R_Si "order" "LCurveKeys$Order;") = true := by decide +kernel
theorem fl_Si_25 : Cond.fieldLink R_Si 25 R_Si "digest" "[B" ∈ lw_tbl ∧ sx_okw (Cond.fieldLink R_Si 25 R_Si "digest" "[B") = true := by decide +kernel
theorem fl_Si_29 : Cond.fieldLink R_Si 29 R_Si (String.singleton 'r') "[B" ∈ lw_tbl ∧ sx_okw (Cond.fieldLink R_Si 29 R_Si (String.singleton 'r') "[B") = true := by decide +kernel
theorem fl_Si_32 : Cond.fieldLink R_Si 32 R_Si "k" "[B" ∈ lw_tbl ∧ sx_okw (Cond.fieldLink R_Si 32 R_Si "k" "[B") = true := by decide +kernel
theorem fl_Si_35 : Cond.fieldLink R_Si 35 R_Si "s" "[B" ∈ lw_tbl ∧ sx_okw (Cond.fieldLink R_Si 35 R_Si "s" "[B") = true := by decide +kernel
theorem fl_Si_38 : Cond.fieldLink R_Si 38 R_Si "commitment" "[B" ∈ lw_tbl ∧ sx_okw (Cond.fieldLink R_Si 38 R_Si "commitment" "[B") = true := by decide +kernel
theorem fl_Si_41 : Cond.fieldLink R_Si 41 R_Si "due" "[B" ∈ lw_tbl ∧ sx_okw (Cond.fieldLink R_Si 41 R_Si "due" "[B") = true := by decide +kernel
theorem fl_Si_44 : Cond.fieldLink R_Si 44 R_Si "edwards" "LCurveKeys$Edwards;" ∈ lw_tbl ∧ sx_okw (Cond.fieldLink R_Si 44 R_Si "edwards" "LCurveKeys$Edwards;") = true := by decide +kernel
