theorem w_F_33 : sx_w [.methodLink R_F 33 y_JA_fill, .static y_JA_fill, .initialized y_JA_fill.cls, .code y_JA_fill b_JA_fill 5 none] y_JA_fill 2 := ⟨by decide +kernel, by decide +kernel⟩
theorem w_F_45 : sx_w [.methodLink R_F 45 y_F_carry, .static y_F_carry, .initialized y_F_carry.cls, .code y_F_carry b_F_carry 8 none] y_F_carry 1 := ⟨by decide +kernel, by decide +kernel⟩
