theorem nw_Ed_9 : ∀ w ∈ ([.classLink R_Ed 9 R_Pt, .instantiable R_Pt 4, .initialized R_Pt] : List Cond), w ∈ lw_tbl ∧ sx_okw w = true := by decide +kernel
theorem nw_Ed_21 : ∀ w ∈ ([.classLink R_Ed 21 R_Ad, .instantiable R_Ad 4, .initialized R_Ad] : List Cond), w ∈ lw_tbl ∧ sx_okw w = true := by decide +kernel
set_option maxRecDepth 100000 in
theorem mc_Pt_init : Cond.code y_Pt_init b_Pt_init 1 none ∈ lw_tbl := List.mem_append_right _ (List.mem_append_left _ (List.mem_of_getElem? (i := 126) rfl))
theorem il_Ed_11 : Cond.methodLinkNest R_Ed 11 y_Pt_init "CurveKeys" ∈ lw_tbl := by decide +kernel
theorem iw_Ed_11 : sx_w [.instanceMethod y_Pt_init, .initialized y_Pt_init.cls, .code y_Pt_init b_Pt_init 1 none] y_Pt_init 0 := ⟨sx_wc (ws := [.instanceMethod y_Pt_init, .initialized y_Pt_init.cls]) (by decide +kernel) mc_Pt_init, by decide +kernel⟩
set_option maxRecDepth 100000 in
theorem mc_Ad_init : Cond.code y_Ad_init b_Ad_init 1 none ∈ lw_tbl := List.mem_append_right _ (List.mem_append_left _ (List.mem_of_getElem? (i := 154) rfl))
theorem il_Ed_68 : Cond.methodLinkNest R_Ed 68 y_Ad_init "CurveKeys" ∈ lw_tbl := by decide +kernel
theorem iw_Ed_68 : sx_w [.instanceMethod y_Ad_init, .initialized y_Ad_init.cls, .code y_Ad_init b_Ad_init 1 none] y_Ad_init 0 := ⟨sx_wc (ws := [.instanceMethod y_Ad_init, .initialized y_Ad_init.cls]) (by decide +kernel) mc_Ad_init, by decide +kernel⟩
theorem fl_Ed_12 : Cond.fieldLink R_Ed 12 R_Ed "sum" "LCurveKeys$Point;" ∈ lw_tbl ∧ sx_okw (Cond.fieldLink R_Ed 12 R_Ed "sum" "LCurveKeys$Point;") = true := by decide +kernel
theorem fl_Ed_18 : Cond.fieldLink R_Ed 18 R_Ed "found" "LCurveKeys$Point;" ∈ lw_tbl ∧ sx_okw (Cond.fieldLink R_Ed 18 R_Ed "found" "LCurveKeys$Point;") = true := by decide +kernel
theorem fl_Ed_23 : Cond.fieldLink R_Ed 23 R_Ed "ofBase" "[LCurveKeys$Addend;" ∈ lw_tbl ∧ sx_okw (Cond.fieldLink R_Ed 23 R_Ed "ofBase" "[LCurveKeys$Addend;") = true := by decide +kernel
theorem fl_Ed_27 : Cond.fieldLink R_Ed 27 R_Ed "ofOther" "[LCurveKeys$Addend;" ∈ lw_tbl ∧ sx_okw (Cond.fieldLink R_Ed 27 R_Ed "ofOther" "[LCurveKeys$Addend;") = true := by decide +kernel
theorem fl_Ed_30 : Cond.fieldLink R_Ed 30 R_Ed "zeroScalar" "[B" ∈ lw_tbl ∧ sx_okw (Cond.fieldLink R_Ed 30 R_Ed "zeroScalar" "[B") = true := by decide +kernel
theorem fl_Ed_34 : Cond.fieldLink R_Ed 34 R_Ed "form" "[B" ∈ lw_tbl ∧ sx_okw (Cond.fieldLink R_Ed 34 R_Ed "form" "[B") = true := by decide +kernel
theorem fl_Ed_64 : Cond.fieldLink R_Ed 64 R_Ed "field" "LCurveKeys$Field;" ∈ lw_tbl ∧ sx_okw (Cond.fieldLink R_Ed 64 R_Ed "field" "LCurveKeys$Field;") = true := by decide +kernel
theorem fl_Ed_69 : Cond.fieldLink R_Ed 69 R_Ed "BASE_X" "[J" ∈ lw_tbl ∧ sx_okw (Cond.fieldLink R_Ed 69 R_Ed "BASE_X" "[J") = true := by decide +kernel
theorem fl_Ed_72 : Cond.fieldLink R_Ed 72 R_Ed "BASE_Y" "[J" ∈ lw_tbl ∧ sx_okw (Cond.fieldLink R_Ed 72 R_Ed "BASE_Y" "[J") = true := by decide +kernel
set_option maxRecDepth 100000 in
theorem mc_Pt_setAffine : Cond.code y_Pt_setAffine b_Pt_setAffine 3 none ∈ lw_tbl := List.mem_append_right _ (List.mem_append_left _ (List.mem_of_getElem? (i := 180) rfl))
theorem w_Ed_75 : sx_w [.methodLink R_Ed 75 y_Pt_setAffine, .instanceMethod y_Pt_setAffine, .selects R_Pt y_Pt_setAffine y_Pt_setAffine, .initialized R_Pt, .code y_Pt_setAffine b_Pt_setAffine 3 none] y_Pt_setAffine 2 := ⟨sx_wc (ws := [.methodLink R_Ed 75 y_Pt_setAffine, .instanceMethod y_Pt_setAffine, .selects R_Pt y_Pt_setAffine y_Pt_setAffine, .initialized R_Pt]) (by decide +kernel) mc_Pt_setAffine, by decide +kernel⟩
set_option maxRecDepth 100000 in
theorem mc_Ed_fillMultiples : Cond.code y_Ed_fillMultiples b_Ed_fillMultiples 4 none ∈ lw_tbl := List.mem_append_right _ (List.mem_append_left _ (List.mem_of_getElem? (i := 206) rfl))
theorem w_Ed_79 : sx_w [.methodLink R_Ed 79 y_Ed_fillMultiples, .instanceMethod y_Ed_fillMultiples, .selects R_Ed y_Ed_fillMultiples y_Ed_fillMultiples, .initialized R_Ed, .code y_Ed_fillMultiples b_Ed_fillMultiples 4 none] y_Ed_fillMultiples 2 := ⟨sx_wc (ws := [.methodLink R_Ed 79 y_Ed_fillMultiples, .instanceMethod y_Ed_fillMultiples, .selects R_Ed y_Ed_fillMultiples y_Ed_fillMultiples, .initialized R_Ed]) (by decide +kernel) mc_Ed_fillMultiples, by decide +kernel⟩
