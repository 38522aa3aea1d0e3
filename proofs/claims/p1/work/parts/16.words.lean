theorem fl_M_40 : Cond.fieldLink R_M 40 R_M "d" "[J" ∈ lw_tbl ∧ sx_okw (Cond.fieldLink R_M 40 R_M "d" "[J") = true := by decide +kernel
theorem fl_M_43 : Cond.fieldLink R_M 43 R_M "root" "[J" ∈ lw_tbl ∧ sx_okw (Cond.fieldLink R_M 43 R_M "root" "[J") = true := by decide +kernel
theorem fl_M_58 : Cond.fieldLink R_M 58 R_M "qx" "[J" ∈ lw_tbl ∧ sx_okw (Cond.fieldLink R_M 58 R_M "qx" "[J") = true := by decide +kernel
theorem fl_M_61 : Cond.fieldLink R_M 61 R_M "qy" "[J" ∈ lw_tbl ∧ sx_okw (Cond.fieldLink R_M 61 R_M "qy" "[J") = true := by decide +kernel
theorem fl_M_70 : Cond.fieldLink R_M 70 R_M "a" "[J" ∈ lw_tbl ∧ sx_okw (Cond.fieldLink R_M 70 R_M "a" "[J") = true := by decide +kernel
theorem fl_M_73 : Cond.fieldLink R_M 73 R_M "b" "[J" ∈ lw_tbl ∧ sx_okw (Cond.fieldLink R_M 73 R_M "b" "[J") = true := by decide +kernel
theorem fl_M_76 : Cond.fieldLink R_M 76 R_M "c" "[J" ∈ lw_tbl ∧ sx_okw (Cond.fieldLink R_M 76 R_M "c" "[J") = true := by decide +kernel
theorem fl_M_79 : Cond.fieldLink R_M 79 R_M "e" "[J" ∈ lw_tbl ∧ sx_okw (Cond.fieldLink R_M 79 R_M "e" "[J") = true := by decide +kernel
theorem fl_M_88 : Cond.fieldLink R_M 88 R_M "one" "[J" ∈ lw_tbl ∧ sx_okw (Cond.fieldLink R_M 88 R_M "one" "[J") = true := by decide +kernel
theorem fl_M_103 : Cond.fieldLink R_M 103 R_M "row" "[B" ∈ lw_tbl ∧ sx_okw (Cond.fieldLink R_M 103 R_M "row" "[B") = true := by decide +kernel
theorem fl_M_141 : Cond.fieldLink R_M 141 R_M "roots" "[J" ∈ lw_tbl ∧ sx_okw (Cond.fieldLink R_M 141 R_M "roots" "[J") = true := by decide +kernel
theorem fl_M_144 : Cond.fieldLink R_M 144 R_M "starts" "[J" ∈ lw_tbl ∧ sx_okw (Cond.fieldLink R_M 144 R_M "starts" "[J") = true := by decide +kernel
theorem fl_M_153 : Cond.fieldLink R_M 153 R_M "left" "[J" ∈ lw_tbl ∧ sx_okw (Cond.fieldLink R_M 153 R_M "left" "[J") = true := by decide +kernel
theorem fl_M_156 : Cond.fieldLink R_M 156 R_M "cube" "[J" ∈ lw_tbl ∧ sx_okw (Cond.fieldLink R_M 156 R_M "cube" "[J") = true := by decide +kernel
theorem w_M_185 : sx_w [.methodLink R_M 185 y_M_inverse, .instanceMethod y_M_inverse, .selects R_M y_M_inverse y_M_inverse, .initialized R_M, .code y_M_inverse b_M_inverse 5 none] y_M_inverse 3 := ⟨by decide +kernel, by decide +kernel⟩
theorem w_M_200 : sx_w [.methodLink R_M 200 y_M_power, .instanceMethod y_M_power, .selects R_M y_M_power y_M_power, .initialized R_M, .code y_M_power b_M_power 5 none] y_M_power 3 := ⟨by decide +kernel, by decide +kernel⟩
theorem w_M_241 : sx_w [.methodLink R_M 241 y_M_prime, .static y_M_prime, .initialized y_M_prime.cls, .code y_M_prime b_M_prime 4 (some .int)] y_M_prime 1 := ⟨by decide +kernel, by decide +kernel⟩
theorem w_M_245 : sx_w [.methodLink R_M 245 y_M_root, .instanceMethod y_M_root, .selects R_M y_M_root y_M_root, .initialized R_M, .code y_M_root b_M_root 12 (some .long)] y_M_root 2 := ⟨by decide +kernel, by decide +kernel⟩
theorem w_M_248 : sx_w [.methodLink R_M 248 y_M_fits, .instanceMethod y_M_fits, .selects R_M y_M_fits y_M_fits, .initialized R_M, .code y_M_fits b_M_fits 10 (some .boolean)] y_M_fits 4 := ⟨by decide +kernel, by decide +kernel⟩
theorem w_M_252 : sx_w [.methodLink R_M 252 y_M_raise, .instanceMethod y_M_raise, .selects R_M y_M_raise y_M_raise, .initialized R_M, .code y_M_raise b_M_raise 13 none] y_M_raise 2 := ⟨by decide +kernel, by decide +kernel⟩
theorem w_M_281 : sx_w [.methodLink R_M 281 y_M_alike, .static y_M_alike, .initialized y_M_alike.cls, .code y_M_alike b_M_alike 3 (some .boolean)] y_M_alike 2 := ⟨by decide +kernel, by decide +kernel⟩
