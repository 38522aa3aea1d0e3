theorem tn_65 : ∀ w ∈ ([.classLink "CurveKeys" 65 X_S, .instantiable X_S 6, .initialized X_S] : List Cond), w ∈ lw_tbl ∧ sx_okw w = true := by decide +kernel
theorem tn_80 : ∀ w ∈ ([.classLink "CurveKeys" 80 X_A, .instantiable X_A 6, .initialized X_A] : List Cond), w ∈ lw_tbl ∧ sx_okw w = true := by decide +kernel
theorem tn_155 : ∀ w ∈ ([.classLink "CurveKeys" 155 X_I, .instantiable X_I 6, .initialized X_I] : List Cond), w ∈ lw_tbl ∧ sx_okw w = true := by decide +kernel
theorem tn_166 : ∀ w ∈ ([.classLink "CurveKeys" 166 X_N, .instantiable X_N 6, .initialized X_N] : List Cond), w ∈ lw_tbl ∧ sx_okw w = true := by decide +kernel


