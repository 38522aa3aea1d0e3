theorem fl_M_27 : Cond.fieldLink R_M 27 R_M "p" "[J" ∈ lw_tbl ∧ sx_okw (Cond.fieldLink R_M 27 R_M "p" "[J") = true := by decide +kernel
theorem fl_M_31 : Cond.fieldLink R_M 31 R_M "pt" "[J" ∈ lw_tbl ∧ sx_okw (Cond.fieldLink R_M 31 R_M "pt" "[J") = true := by decide +kernel
theorem fl_M_82 : Cond.fieldLink R_M 82 R_M "f" "[J" ∈ lw_tbl ∧ sx_okw (Cond.fieldLink R_M 82 R_M "f" "[J") = true := by decide +kernel
theorem fl_M_123 : Cond.fieldLink R_M 123 R_M "product" "[J" ∈ lw_tbl ∧ sx_okw (Cond.fieldLink R_M 123 R_M "product" "[J") = true := by decide +kernel
theorem fl_M_126 : Cond.fieldLink R_M 126 R_M "sum" "[J" ∈ lw_tbl ∧ sx_okw (Cond.fieldLink R_M 126 R_M "sum" "[J") = true := by decide +kernel
theorem fl_M_129 : Cond.fieldLink R_M 129 R_M "u" "[J" ∈ lw_tbl ∧ sx_okw (Cond.fieldLink R_M 129 R_M "u" "[J") = true := by decide +kernel
theorem fl_M_132 : Cond.fieldLink R_M 132 R_M "v" "[J" ∈ lw_tbl ∧ sx_okw (Cond.fieldLink R_M 132 R_M "v" "[J") = true := by decide +kernel
theorem fl_M_135 : Cond.fieldLink R_M 135 R_M "x1" "[J" ∈ lw_tbl ∧ sx_okw (Cond.fieldLink R_M 135 R_M "x1" "[J") = true := by decide +kernel
theorem fl_M_138 : Cond.fieldLink R_M 138 R_M "x2" "[J" ∈ lw_tbl ∧ sx_okw (Cond.fieldLink R_M 138 R_M "x2" "[J") = true := by decide +kernel
set_option maxRecDepth 100000 in
theorem mc_M_set : Cond.code y_M_set b_M_set 3 none ∈ lw_tbl := List.mem_append_right _ (List.mem_append_right _ (List.mem_append_right _ (List.mem_append_right _ (List.mem_append_right _ (List.mem_append_left _ (List.mem_of_getElem? (i := 236) rfl))))))
theorem w_M_177 : sx_w [.methodLink R_M 177 y_M_set, .static y_M_set, .initialized y_M_set.cls, .code y_M_set b_M_set 3 none] y_M_set 2 := ⟨sx_wc (ws := [.methodLink R_M 177 y_M_set, .static y_M_set, .initialized y_M_set.cls]) (by decide +kernel) mc_M_set, by decide +kernel⟩
set_option maxRecDepth 100000 in
theorem mc_M_times : Cond.code y_M_times b_M_times 10 none ∈ lw_tbl := List.mem_append_right _ (List.mem_append_right _ (List.mem_append_right _ (List.mem_append_right _ (List.mem_append_right _ (List.mem_append_right _ (List.mem_append_left _ (List.mem_of_getElem? (i := 34) rfl)))))))
theorem w_M_188 : sx_w [.methodLink R_M 188 y_M_times, .instanceMethod y_M_times, .selects R_M y_M_times y_M_times, .initialized R_M, .code y_M_times b_M_times 10 none] y_M_times 5 := ⟨sx_wc (ws := [.methodLink R_M 188 y_M_times, .instanceMethod y_M_times, .selects R_M y_M_times y_M_times, .initialized R_M]) (by decide +kernel) mc_M_times, by decide +kernel⟩
set_option maxRecDepth 100000 in
theorem mc_M_minus : Cond.code y_M_minus b_M_minus 9 none ∈ lw_tbl := List.mem_append_right _ (List.mem_append_right _ (List.mem_append_right _ (List.mem_append_right _ (List.mem_append_right _ (List.mem_append_right _ (List.mem_append_left _ (List.mem_of_getElem? (i := 30) rfl)))))))
theorem w_M_192 : sx_w [.methodLink R_M 192 y_M_minus, .static y_M_minus, .initialized y_M_minus.cls, .code y_M_minus b_M_minus 9 none] y_M_minus 4 := ⟨sx_wc (ws := [.methodLink R_M 192 y_M_minus, .static y_M_minus, .initialized y_M_minus.cls]) (by decide +kernel) mc_M_minus, by decide +kernel⟩
set_option maxRecDepth 100000 in
theorem mc_M_copy : Cond.code y_M_copy b_M_copy 3 none ∈ lw_tbl := List.mem_append_right _ (List.mem_append_right _ (List.mem_append_right _ (List.mem_append_right _ (List.mem_append_right _ (List.mem_append_right _ (List.mem_append_left _ (List.mem_of_getElem? (i := 15) rfl)))))))
theorem w_M_207 : sx_w [.methodLink R_M 207 y_M_copy, .static y_M_copy, .initialized y_M_copy.cls, .code y_M_copy b_M_copy 3 none] y_M_copy 2 := ⟨sx_wc (ws := [.methodLink R_M 207 y_M_copy, .static y_M_copy, .initialized y_M_copy.cls]) (by decide +kernel) mc_M_copy, by decide +kernel⟩
set_option maxRecDepth 100000 in
theorem mc_M_below : Cond.code y_M_below b_M_below 3 (some .boolean) ∈ lw_tbl := List.mem_append_right _ (List.mem_append_right _ (List.mem_append_right _ (List.mem_append_right _ (List.mem_append_right _ (List.mem_append_right _ (List.mem_append_left _ (List.mem_of_getElem? (i := 2) rfl)))))))
theorem w_M_215 : sx_w [.methodLink R_M 215 y_M_below, .static y_M_below, .initialized y_M_below.cls, .code y_M_below b_M_below 3 (some .boolean)] y_M_below 2 := ⟨sx_wc (ws := [.methodLink R_M 215 y_M_below, .static y_M_below, .initialized y_M_below.cls]) (by decide +kernel) mc_M_below, by decide +kernel⟩
set_option maxRecDepth 100000 in
theorem mc_M_less : Cond.code y_M_less b_M_less 8 none ∈ lw_tbl := List.mem_append_right _ (List.mem_append_right _ (List.mem_append_right _ (List.mem_append_right _ (List.mem_append_right _ (List.mem_append_right _ (List.mem_append_left _ (List.mem_of_getElem? (i := 5) rfl)))))))
theorem w_M_219 : sx_w [.methodLink R_M 219 y_M_less, .static y_M_less, .initialized y_M_less.cls, .code y_M_less b_M_less 8 none] y_M_less 3 := ⟨sx_wc (ws := [.methodLink R_M 219 y_M_less, .static y_M_less, .initialized y_M_less.cls]) (by decide +kernel) mc_M_less, by decide +kernel⟩
set_option maxRecDepth 100000 in
theorem mc_M_plus : Cond.code y_M_plus b_M_plus 7 none ∈ lw_tbl := List.mem_append_right _ (List.mem_append_right _ (List.mem_append_right _ (List.mem_append_right _ (List.mem_append_right _ (List.mem_append_left _ (List.mem_of_getElem? (i := 239) rfl))))))
theorem w_M_222 : sx_w [.methodLink R_M 222 y_M_plus, .static y_M_plus, .initialized y_M_plus.cls, .code y_M_plus b_M_plus 7 none] y_M_plus 4 := ⟨sx_wc (ws := [.methodLink R_M 222 y_M_plus, .static y_M_plus, .initialized y_M_plus.cls]) (by decide +kernel) mc_M_plus, by decide +kernel⟩
set_option maxRecDepth 100000 in
theorem mc_M_reduce : Cond.code y_M_reduce b_M_reduce 10 none ∈ lw_tbl := List.mem_append_right _ (List.mem_append_right _ (List.mem_append_right _ (List.mem_append_right _ (List.mem_append_right _ (List.mem_append_right _ (List.mem_append_left _ (List.mem_of_getElem? (i := 38) rfl)))))))
theorem w_M_225 : sx_w [.methodLink R_M 225 y_M_reduce, .instanceMethod y_M_reduce, .selects R_M y_M_reduce y_M_reduce, .initialized R_M, .code y_M_reduce b_M_reduce 10 none] y_M_reduce 3 := ⟨sx_wc (ws := [.methodLink R_M 225 y_M_reduce, .instanceMethod y_M_reduce, .selects R_M y_M_reduce y_M_reduce, .initialized R_M]) (by decide +kernel) mc_M_reduce, by decide +kernel⟩
set_option maxRecDepth 100000 in
theorem mc_M_zero : Cond.code y_M_zero b_M_zero 2 (some .boolean) ∈ lw_tbl := List.mem_append_right _ (List.mem_append_right _ (List.mem_append_right _ (List.mem_append_right _ (List.mem_append_right _ (List.mem_append_right _ (List.mem_append_left _ (List.mem_of_getElem? (i := 18) rfl)))))))
theorem w_M_228 : sx_w [.methodLink R_M 228 y_M_zero, .static y_M_zero, .initialized y_M_zero.cls, .code y_M_zero b_M_zero 2 (some .boolean)] y_M_zero 1 := ⟨sx_wc (ws := [.methodLink R_M 228 y_M_zero, .static y_M_zero, .initialized y_M_zero.cls]) (by decide +kernel) mc_M_zero, by decide +kernel⟩
set_option maxRecDepth 100000 in
theorem mc_M_one : Cond.code y_M_one b_M_one 2 (some .boolean) ∈ lw_tbl := List.mem_append_right _ (List.mem_append_right _ (List.mem_append_right _ (List.mem_append_right _ (List.mem_append_right _ (List.mem_append_right _ (List.mem_append_left _ (List.mem_of_getElem? (i := 21) rfl)))))))
theorem w_M_232 : sx_w [.methodLink R_M 232 y_M_one, .static y_M_one, .initialized y_M_one.cls, .code y_M_one b_M_one 2 (some .boolean)] y_M_one 1 := ⟨sx_wc (ws := [.methodLink R_M 232 y_M_one, .static y_M_one, .initialized y_M_one.cls]) (by decide +kernel) mc_M_one, by decide +kernel⟩
set_option maxRecDepth 100000 in
theorem mc_M_halve : Cond.code y_M_halve b_M_halve 2 none ∈ lw_tbl := List.mem_append_right _ (List.mem_append_right _ (List.mem_append_right _ (List.mem_append_right _ (List.mem_append_right _ (List.mem_append_right _ (List.mem_append_left _ (List.mem_of_getElem? (i := 24) rfl)))))))
theorem w_M_234 : sx_w [.methodLink R_M 234 y_M_halve, .static y_M_halve, .initialized y_M_halve.cls, .code y_M_halve b_M_halve 2 none] y_M_halve 1 := ⟨sx_wc (ws := [.methodLink R_M 234 y_M_halve, .static y_M_halve, .initialized y_M_halve.cls]) (by decide +kernel) mc_M_halve, by decide +kernel⟩
set_option maxRecDepth 100000 in
theorem mc_M_half : Cond.code y_M_half b_M_half 5 none ∈ lw_tbl := List.mem_append_right _ (List.mem_append_right _ (List.mem_append_right _ (List.mem_append_right _ (List.mem_append_right _ (List.mem_append_right _ (List.mem_append_left _ (List.mem_of_getElem? (i := 27) rfl)))))))
theorem w_M_238 : sx_w [.methodLink R_M 238 y_M_half, .static y_M_half, .initialized y_M_half.cls, .code y_M_half b_M_half 5 none] y_M_half 2 := ⟨sx_wc (ws := [.methodLink R_M 238 y_M_half, .static y_M_half, .initialized y_M_half.cls]) (by decide +kernel) mc_M_half, by decide +kernel⟩
set_option maxRecDepth 100000 in
theorem mc_M_bit : Cond.code y_M_bit b_M_bit 2 (some .int) ∈ lw_tbl := List.mem_append_right _ (List.mem_append_right _ (List.mem_append_right _ (List.mem_append_right _ (List.mem_append_right _ (List.mem_append_right _ (List.mem_append_left _ (List.mem_of_getElem? (i := 47) rfl)))))))
theorem w_M_273 : sx_w [.methodLink R_M 273 y_M_bit, .static y_M_bit, .initialized y_M_bit.cls, .code y_M_bit b_M_bit 2 (some .int)] y_M_bit 2 := ⟨sx_wc (ws := [.methodLink R_M 273 y_M_bit, .static y_M_bit, .initialized y_M_bit.cls]) (by decide +kernel) mc_M_bit, by decide +kernel⟩
