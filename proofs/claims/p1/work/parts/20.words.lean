theorem fl_M_8 : Cond.fieldLink R_M 8 R_M "tape" "[B" ∈ lw_tbl ∧ sx_okw (Cond.fieldLink R_M 8 R_M "tape" "[B") = true := by decide +kernel
theorem fl_M_14 : Cond.fieldLink R_M 14 R_M "message" "[B" ∈ lw_tbl ∧ sx_okw (Cond.fieldLink R_M 14 R_M "message" "[B") = true := by decide +kernel
theorem fl_M_17 : Cond.fieldLink R_M 17 R_M "result" "[B" ∈ lw_tbl ∧ sx_okw (Cond.fieldLink R_M 17 R_M "result" "[B") = true := by decide +kernel
theorem fl_M_20 : Cond.fieldLink R_M 20 R_M "keys" "[B" ∈ lw_tbl ∧ sx_okw (Cond.fieldLink R_M 20 R_M "keys" "[B") = true := by decide +kernel
theorem fl_M_23 : Cond.fieldLink R_M 23 R_M "told" "[I" ∈ lw_tbl ∧ sx_okw (Cond.fieldLink R_M 23 R_M "told" "[I") = true := by decide +kernel
theorem fl_M_34 : Cond.fieldLink R_M 34 R_M "order" "[J" ∈ lw_tbl ∧ sx_okw (Cond.fieldLink R_M 34 R_M "order" "[J") = true := by decide +kernel
theorem fl_M_37 : Cond.fieldLink R_M 37 R_M "ot" "[J" ∈ lw_tbl ∧ sx_okw (Cond.fieldLink R_M 37 R_M "ot" "[J") = true := by decide +kernel
theorem fl_M_46 : Cond.fieldLink R_M 46 R_M "baseX" "[J" ∈ lw_tbl ∧ sx_okw (Cond.fieldLink R_M 46 R_M "baseX" "[J") = true := by decide +kernel
theorem fl_M_49 : Cond.fieldLink R_M 49 R_M "baseY" "[J" ∈ lw_tbl ∧ sx_okw (Cond.fieldLink R_M 49 R_M "baseY" "[J") = true := by decide +kernel
theorem fl_M_52 : Cond.fieldLink R_M 52 R_M "px" "[J" ∈ lw_tbl ∧ sx_okw (Cond.fieldLink R_M 52 R_M "px" "[J") = true := by decide +kernel
theorem fl_M_55 : Cond.fieldLink R_M 55 R_M "py" "[J" ∈ lw_tbl ∧ sx_okw (Cond.fieldLink R_M 55 R_M "py" "[J") = true := by decide +kernel
theorem fl_M_64 : Cond.fieldLink R_M 64 R_M "rx" "[J" ∈ lw_tbl ∧ sx_okw (Cond.fieldLink R_M 64 R_M "rx" "[J") = true := by decide +kernel
theorem fl_M_67 : Cond.fieldLink R_M 67 R_M "ry" "[J" ∈ lw_tbl ∧ sx_okw (Cond.fieldLink R_M 67 R_M "ry" "[J") = true := by decide +kernel
theorem fl_M_85 : Cond.fieldLink R_M 85 R_M "g" "[J" ∈ lw_tbl ∧ sx_okw (Cond.fieldLink R_M 85 R_M "g" "[J") = true := by decide +kernel
theorem fl_M_91 : Cond.fieldLink R_M 91 R_M "scalar" "[J" ∈ lw_tbl ∧ sx_okw (Cond.fieldLink R_M 91 R_M "scalar" "[J") = true := by decide +kernel
theorem fl_M_94 : Cond.fieldLink R_M 94 R_M "secret" "[J" ∈ lw_tbl ∧ sx_okw (Cond.fieldLink R_M 94 R_M "secret" "[J") = true := by decide +kernel
theorem fl_M_97 : Cond.fieldLink R_M 97 R_M "number" "[J" ∈ lw_tbl ∧ sx_okw (Cond.fieldLink R_M 97 R_M "number" "[J") = true := by decide +kernel
theorem fl_M_100 : Cond.fieldLink R_M 100 R_M "ten" "[J" ∈ lw_tbl ∧ sx_okw (Cond.fieldLink R_M 100 R_M "ten" "[J") = true := by decide +kernel
theorem fl_M_106 : Cond.fieldLink R_M 106 R_M "open" "[B" ∈ lw_tbl ∧ sx_okw (Cond.fieldLink R_M 106 R_M "open" "[B") = true := by decide +kernel
theorem fl_M_109 : Cond.fieldLink R_M 109 R_M "first" "[B" ∈ lw_tbl ∧ sx_okw (Cond.fieldLink R_M 109 R_M "first" "[B") = true := by decide +kernel
theorem fl_M_113 : Cond.fieldLink R_M 113 R_M "work" "[B" ∈ lw_tbl ∧ sx_okw (Cond.fieldLink R_M 113 R_M "work" "[B") = true := by decide +kernel
theorem fl_M_120 : Cond.fieldLink R_M 120 R_M "low" "[I" ∈ lw_tbl ∧ sx_okw (Cond.fieldLink R_M 120 R_M "low" "[I") = true := by decide +kernel
theorem fl_M_147 : Cond.fieldLink R_M 147 R_M "words" "[J" ∈ lw_tbl ∧ sx_okw (Cond.fieldLink R_M 147 R_M "words" "[J") = true := by decide +kernel
theorem fl_M_150 : Cond.fieldLink R_M 150 R_M "state" "[J" ∈ lw_tbl ∧ sx_okw (Cond.fieldLink R_M 150 R_M "state" "[J") = true := by decide +kernel
theorem fl_M_159 : Cond.fieldLink R_M 159 R_M "hashed" "[B" ∈ lw_tbl ∧ sx_okw (Cond.fieldLink R_M 159 R_M "hashed" "[B") = true := by decide +kernel
theorem w_M_162 : sx_w [.methodLink R_M 162 y_M_constants, .instanceMethod y_M_constants, .selects R_M y_M_constants y_M_constants, .initialized R_M, .code y_M_constants b_M_constants 3 none] y_M_constants 0 := ⟨by decide +kernel, by decide +kernel⟩
theorem w_M_171 : sx_w [.methodLink R_M 171 y_M_remainders, .static y_M_remainders, .initialized y_M_remainders.cls, .code y_M_remainders b_M_remainders 5 none] y_M_remainders 3 := ⟨by decide +kernel, by decide +kernel⟩
theorem w_M_203 : sx_w [.methodLink R_M 203 y_M_decode, .instanceMethod y_M_decode, .selects R_M y_M_decode y_M_decode, .initialized R_M, .code y_M_decode b_M_decode 2 (some .boolean)] y_M_decode 0 := ⟨by decide +kernel, by decide +kernel⟩
