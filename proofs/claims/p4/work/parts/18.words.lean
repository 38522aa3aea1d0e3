theorem fl_M_8 : Cond.fieldLink R_M 8 R_M "tape" "[B" ∈ lw_tbl ∧ sx_okw (Cond.fieldLink R_M 8 R_M "tape" "[B") = true := by decide +kernel
theorem fl_M_14 : Cond.fieldLink R_M 14 R_M "message" "[B" ∈ lw_tbl ∧ sx_okw (Cond.fieldLink R_M 14 R_M "message" "[B") = true := by decide +kernel
theorem fl_M_20 : Cond.fieldLink R_M 20 R_M "keys" "[B" ∈ lw_tbl ∧ sx_okw (Cond.fieldLink R_M 20 R_M "keys" "[B") = true := by decide +kernel
theorem fl_M_34 : Cond.fieldLink R_M 34 R_M "order" "[J" ∈ lw_tbl ∧ sx_okw (Cond.fieldLink R_M 34 R_M "order" "[J") = true := by decide +kernel
theorem fl_M_37 : Cond.fieldLink R_M 37 R_M "ot" "[J" ∈ lw_tbl ∧ sx_okw (Cond.fieldLink R_M 37 R_M "ot" "[J") = true := by decide +kernel
theorem fl_M_40 : Cond.fieldLink R_M 40 R_M "d" "[J" ∈ lw_tbl ∧ sx_okw (Cond.fieldLink R_M 40 R_M "d" "[J") = true := by decide +kernel
theorem fl_M_43 : Cond.fieldLink R_M 43 R_M "root" "[J" ∈ lw_tbl ∧ sx_okw (Cond.fieldLink R_M 43 R_M "root" "[J") = true := by decide +kernel
theorem fl_M_46 : Cond.fieldLink R_M 46 R_M "baseX" "[J" ∈ lw_tbl ∧ sx_okw (Cond.fieldLink R_M 46 R_M "baseX" "[J") = true := by decide +kernel
theorem fl_M_49 : Cond.fieldLink R_M 49 R_M "baseY" "[J" ∈ lw_tbl ∧ sx_okw (Cond.fieldLink R_M 49 R_M "baseY" "[J") = true := by decide +kernel
theorem fl_M_52 : Cond.fieldLink R_M 52 R_M "px" "[J" ∈ lw_tbl ∧ sx_okw (Cond.fieldLink R_M 52 R_M "px" "[J") = true := by decide +kernel
theorem fl_M_55 : Cond.fieldLink R_M 55 R_M "py" "[J" ∈ lw_tbl ∧ sx_okw (Cond.fieldLink R_M 55 R_M "py" "[J") = true := by decide +kernel
theorem fl_M_58 : Cond.fieldLink R_M 58 R_M "qx" "[J" ∈ lw_tbl ∧ sx_okw (Cond.fieldLink R_M 58 R_M "qx" "[J") = true := by decide +kernel
theorem fl_M_61 : Cond.fieldLink R_M 61 R_M "qy" "[J" ∈ lw_tbl ∧ sx_okw (Cond.fieldLink R_M 61 R_M "qy" "[J") = true := by decide +kernel
theorem fl_M_64 : Cond.fieldLink R_M 64 R_M "rx" "[J" ∈ lw_tbl ∧ sx_okw (Cond.fieldLink R_M 64 R_M "rx" "[J") = true := by decide +kernel
theorem fl_M_67 : Cond.fieldLink R_M 67 R_M "ry" "[J" ∈ lw_tbl ∧ sx_okw (Cond.fieldLink R_M 67 R_M "ry" "[J") = true := by decide +kernel
theorem fl_M_70 : Cond.fieldLink R_M 70 R_M "a" "[J" ∈ lw_tbl ∧ sx_okw (Cond.fieldLink R_M 70 R_M "a" "[J") = true := by decide +kernel
theorem fl_M_73 : Cond.fieldLink R_M 73 R_M "b" "[J" ∈ lw_tbl ∧ sx_okw (Cond.fieldLink R_M 73 R_M "b" "[J") = true := by decide +kernel
theorem fl_M_76 : Cond.fieldLink R_M 76 R_M "c" "[J" ∈ lw_tbl ∧ sx_okw (Cond.fieldLink R_M 76 R_M "c" "[J") = true := by decide +kernel
theorem fl_M_79 : Cond.fieldLink R_M 79 R_M "e" "[J" ∈ lw_tbl ∧ sx_okw (Cond.fieldLink R_M 79 R_M "e" "[J") = true := by decide +kernel
theorem fl_M_85 : Cond.fieldLink R_M 85 R_M "g" "[J" ∈ lw_tbl ∧ sx_okw (Cond.fieldLink R_M 85 R_M "g" "[J") = true := by decide +kernel
theorem fl_M_88 : Cond.fieldLink R_M 88 R_M "one" "[J" ∈ lw_tbl ∧ sx_okw (Cond.fieldLink R_M 88 R_M "one" "[J") = true := by decide +kernel
theorem fl_M_91 : Cond.fieldLink R_M 91 R_M "scalar" "[J" ∈ lw_tbl ∧ sx_okw (Cond.fieldLink R_M 91 R_M "scalar" "[J") = true := by decide +kernel
theorem fl_M_94 : Cond.fieldLink R_M 94 R_M "secret" "[J" ∈ lw_tbl ∧ sx_okw (Cond.fieldLink R_M 94 R_M "secret" "[J") = true := by decide +kernel
theorem fl_M_97 : Cond.fieldLink R_M 97 R_M "number" "[J" ∈ lw_tbl ∧ sx_okw (Cond.fieldLink R_M 97 R_M "number" "[J") = true := by decide +kernel
theorem fl_M_100 : Cond.fieldLink R_M 100 R_M "ten" "[J" ∈ lw_tbl ∧ sx_okw (Cond.fieldLink R_M 100 R_M "ten" "[J") = true := by decide +kernel
theorem fl_M_103 : Cond.fieldLink R_M 103 R_M "row" "[B" ∈ lw_tbl ∧ sx_okw (Cond.fieldLink R_M 103 R_M "row" "[B") = true := by decide +kernel
theorem fl_M_106 : Cond.fieldLink R_M 106 R_M "open" "[B" ∈ lw_tbl ∧ sx_okw (Cond.fieldLink R_M 106 R_M "open" "[B") = true := by decide +kernel
theorem fl_M_109 : Cond.fieldLink R_M 109 R_M "first" "[B" ∈ lw_tbl ∧ sx_okw (Cond.fieldLink R_M 109 R_M "first" "[B") = true := by decide +kernel
theorem fl_M_113 : Cond.fieldLink R_M 113 R_M "work" "[B" ∈ lw_tbl ∧ sx_okw (Cond.fieldLink R_M 113 R_M "work" "[B") = true := by decide +kernel
theorem fl_M_141 : Cond.fieldLink R_M 141 R_M "roots" "[J" ∈ lw_tbl ∧ sx_okw (Cond.fieldLink R_M 141 R_M "roots" "[J") = true := by decide +kernel
theorem fl_M_144 : Cond.fieldLink R_M 144 R_M "starts" "[J" ∈ lw_tbl ∧ sx_okw (Cond.fieldLink R_M 144 R_M "starts" "[J") = true := by decide +kernel
theorem fl_M_147 : Cond.fieldLink R_M 147 R_M "words" "[J" ∈ lw_tbl ∧ sx_okw (Cond.fieldLink R_M 147 R_M "words" "[J") = true := by decide +kernel
theorem fl_M_150 : Cond.fieldLink R_M 150 R_M "state" "[J" ∈ lw_tbl ∧ sx_okw (Cond.fieldLink R_M 150 R_M "state" "[J") = true := by decide +kernel
theorem fl_M_159 : Cond.fieldLink R_M 159 R_M "hashed" "[B" ∈ lw_tbl ∧ sx_okw (Cond.fieldLink R_M 159 R_M "hashed" "[B") = true := by decide +kernel
theorem fl_M_309 : Cond.fieldLink R_M 309 R_M "messages" "I" ∈ lw_tbl ∧ sx_okw (Cond.fieldLink R_M 309 R_M "messages" "I") = true := by decide +kernel
set_option maxRecDepth 100000 in
theorem mc_M_inverse : Cond.code y_M_inverse b_M_inverse 5 none ∈ lw_tbl := List.mem_append_right _ (List.mem_append_right _ (List.mem_append_right _ (List.mem_append_right _ (List.mem_append_right _ (List.mem_append_right _ (List.mem_append_left _ (List.mem_of_getElem? (i := 12) rfl)))))))
theorem w_M_185 : sx_w [.methodLink R_M 185 y_M_inverse, .instanceMethod y_M_inverse, .selects R_M y_M_inverse y_M_inverse, .initialized R_M, .code y_M_inverse b_M_inverse 5 none] y_M_inverse 3 := ⟨sx_wc (ws := [.methodLink R_M 185 y_M_inverse, .instanceMethod y_M_inverse, .selects R_M y_M_inverse y_M_inverse, .initialized R_M]) (by decide +kernel) mc_M_inverse, by decide +kernel⟩
set_option maxRecDepth 100000 in
theorem mc_M_power : Cond.code y_M_power b_M_power 5 none ∈ lw_tbl := List.mem_append_right _ (List.mem_append_right _ (List.mem_append_right _ (List.mem_append_right _ (List.mem_append_right _ (List.mem_append_right _ (List.mem_append_left _ (List.mem_of_getElem? (i := 44) rfl)))))))
theorem w_M_200 : sx_w [.methodLink R_M 200 y_M_power, .instanceMethod y_M_power, .selects R_M y_M_power y_M_power, .initialized R_M, .code y_M_power b_M_power 5 none] y_M_power 3 := ⟨sx_wc (ws := [.methodLink R_M 200 y_M_power, .instanceMethod y_M_power, .selects R_M y_M_power y_M_power, .initialized R_M]) (by decide +kernel) mc_M_power, by decide +kernel⟩
set_option maxRecDepth 100000 in
theorem mc_M_decode : Cond.code y_M_decode b_M_decode 2 (some .boolean) ∈ lw_tbl := List.mem_append_right _ (List.mem_append_right _ (List.mem_append_right _ (List.mem_append_right _ (List.mem_append_right _ (List.mem_append_right _ (List.mem_append_left _ (List.mem_of_getElem? (i := 51) rfl)))))))
theorem w_M_203 : sx_w [.methodLink R_M 203 y_M_decode, .instanceMethod y_M_decode, .selects R_M y_M_decode y_M_decode, .initialized R_M, .code y_M_decode b_M_decode 2 (some .boolean)] y_M_decode 0 := ⟨sx_wc (ws := [.methodLink R_M 203 y_M_decode, .instanceMethod y_M_decode, .selects R_M y_M_decode y_M_decode, .initialized R_M]) (by decide +kernel) mc_M_decode, by decide +kernel⟩
set_option maxRecDepth 100000 in
theorem mc_M_padded : Cond.code y_M_padded b_M_padded 4 (some .int) ∈ lw_tbl := List.mem_append_right _ (List.mem_append_right _ (List.mem_append_right _ (List.mem_append_right _ (List.mem_append_right _ (List.mem_append_right _ (List.mem_append_right _ (List.mem_of_getElem? (i := 16) rfl)))))))
theorem w_M_260 : sx_w [.methodLink R_M 260 y_M_padded, .static y_M_padded, .initialized y_M_padded.cls, .code y_M_padded b_M_padded 4 (some .int)] y_M_padded 4 := ⟨sx_wc (ws := [.methodLink R_M 260 y_M_padded, .static y_M_padded, .initialized y_M_padded.cls]) (by decide +kernel) mc_M_padded, by decide +kernel⟩
set_option maxRecDepth 100000 in
theorem mc_M_over : Cond.code y_M_over b_M_over 22 none ∈ lw_tbl := List.mem_append_right _ (List.mem_append_right _ (List.mem_append_right _ (List.mem_append_right _ (List.mem_append_right _ (List.mem_append_right _ (List.mem_append_right _ (List.mem_of_getElem? (i := 21) rfl)))))))
theorem w_M_264 : sx_w [.methodLink R_M 264 y_M_over, .instanceMethod y_M_over, .selects R_M y_M_over y_M_over, .initialized R_M, .code y_M_over b_M_over 22 none] y_M_over 0 := ⟨sx_wc (ws := [.methodLink R_M 264 y_M_over, .instanceMethod y_M_over, .selects R_M y_M_over y_M_over, .initialized R_M]) (by decide +kernel) mc_M_over, by decide +kernel⟩
set_option maxRecDepth 100000 in
theorem mc_M_turned : Cond.code y_M_turned b_M_turned 3 (some .long) ∈ lw_tbl := List.mem_append_right _ (List.mem_append_right _ (List.mem_append_right _ (List.mem_append_right _ (List.mem_append_right _ (List.mem_append_right _ (List.mem_append_right _ (List.mem_of_getElem? (i := 24) rfl)))))))
theorem w_M_267 : sx_w [.methodLink R_M 267 y_M_turned, .static y_M_turned, .initialized y_M_turned.cls, .code y_M_turned b_M_turned 3 (some .long)] y_M_turned 2 := ⟨sx_wc (ws := [.methodLink R_M 267 y_M_turned, .static y_M_turned, .initialized y_M_turned.cls]) (by decide +kernel) mc_M_turned, by decide +kernel⟩
set_option maxRecDepth 100000 in
theorem mc_M_alike : Cond.code y_M_alike b_M_alike 3 (some .boolean) ∈ lw_tbl := List.mem_append_right _ (List.mem_append_right _ (List.mem_append_right _ (List.mem_append_right _ (List.mem_append_right _ (List.mem_append_right _ (List.mem_append_left _ (List.mem_of_getElem? (i := 56) rfl)))))))
theorem w_M_281 : sx_w [.methodLink R_M 281 y_M_alike, .static y_M_alike, .initialized y_M_alike.cls, .code y_M_alike b_M_alike 3 (some .boolean)] y_M_alike 2 := ⟨sx_wc (ws := [.methodLink R_M 281 y_M_alike, .static y_M_alike, .initialized y_M_alike.cls]) (by decide +kernel) mc_M_alike, by decide +kernel⟩
set_option maxRecDepth 100000 in
theorem mc_M_add : Cond.code y_M_add b_M_add 5 none ∈ lw_tbl := List.mem_append_right _ (List.mem_append_right _ (List.mem_append_right _ (List.mem_append_right _ (List.mem_append_right _ (List.mem_append_right _ (List.mem_append_right _ (List.mem_of_getElem? (i := 43) rfl)))))))
theorem w_M_284 : sx_w [.methodLink R_M 284 y_M_add, .instanceMethod y_M_add, .selects R_M y_M_add y_M_add, .initialized R_M, .code y_M_add b_M_add 5 none] y_M_add 4 := ⟨sx_wc (ws := [.methodLink R_M 284 y_M_add, .instanceMethod y_M_add, .selects R_M y_M_add y_M_add, .initialized R_M]) (by decide +kernel) mc_M_add, by decide +kernel⟩
set_option maxRecDepth 100000 in
theorem mc_M_multiply : Cond.code y_M_multiply b_M_multiply 3 none ∈ lw_tbl := List.mem_append_right _ (List.mem_append_right _ (List.mem_append_right _ (List.mem_append_right _ (List.mem_append_right _ (List.mem_append_right _ (List.mem_append_right _ (List.mem_of_getElem? (i := 39) rfl)))))))
theorem w_M_287 : sx_w [.methodLink R_M 287 y_M_multiply, .instanceMethod y_M_multiply, .selects R_M y_M_multiply y_M_multiply, .initialized R_M, .code y_M_multiply b_M_multiply 3 none] y_M_multiply 1 := ⟨sx_wc (ws := [.methodLink R_M 287 y_M_multiply, .instanceMethod y_M_multiply, .selects R_M y_M_multiply y_M_multiply, .initialized R_M]) (by decide +kernel) mc_M_multiply, by decide +kernel⟩
set_option maxRecDepth 100000 in
theorem mc_M_hash : Cond.code y_M_hash b_M_hash 7 none ∈ lw_tbl := List.mem_append_right _ (List.mem_append_right _ (List.mem_append_right _ (List.mem_append_right _ (List.mem_append_right _ (List.mem_append_right _ (List.mem_append_right _ (List.mem_of_getElem? (i := 13) rfl)))))))
theorem w_M_294 : sx_w [.methodLink R_M 294 y_M_hash, .instanceMethod y_M_hash, .selects R_M y_M_hash y_M_hash, .initialized R_M, .code y_M_hash b_M_hash 7 none] y_M_hash 2 := ⟨sx_wc (ws := [.methodLink R_M 294 y_M_hash, .instanceMethod y_M_hash, .selects R_M y_M_hash y_M_hash, .initialized R_M]) (by decide +kernel) mc_M_hash, by decide +kernel⟩
set_option maxRecDepth 100000 in
theorem mc_M_clamped : Cond.code y_M_clamped b_M_clamped 5 none ∈ lw_tbl := List.mem_append_right _ (List.mem_append_right _ (List.mem_append_right _ (List.mem_append_right _ (List.mem_append_right _ (List.mem_append_right _ (List.mem_append_right _ (List.mem_of_getElem? (i := 29) rfl)))))))
theorem w_M_298 : sx_w [.methodLink R_M 298 y_M_clamped, .instanceMethod y_M_clamped, .selects R_M y_M_clamped y_M_clamped, .initialized R_M, .code y_M_clamped b_M_clamped 5 none] y_M_clamped 3 := ⟨sx_wc (ws := [.methodLink R_M 298 y_M_clamped, .instanceMethod y_M_clamped, .selects R_M y_M_clamped y_M_clamped, .initialized R_M]) (by decide +kernel) mc_M_clamped, by decide +kernel⟩
set_option maxRecDepth 100000 in
theorem mc_M_fromBase : Cond.code y_M_fromBase b_M_fromBase 2 none ∈ lw_tbl := List.mem_append_right _ (List.mem_append_right _ (List.mem_append_right _ (List.mem_append_right _ (List.mem_append_right _ (List.mem_append_right _ (List.mem_append_right _ (List.mem_of_getElem? (i := 35) rfl)))))))
theorem w_M_302 : sx_w [.methodLink R_M 302 y_M_fromBase, .instanceMethod y_M_fromBase, .selects R_M y_M_fromBase y_M_fromBase, .initialized R_M, .code y_M_fromBase b_M_fromBase 2 none] y_M_fromBase 1 := ⟨sx_wc (ws := [.methodLink R_M 302 y_M_fromBase, .instanceMethod y_M_fromBase, .selects R_M y_M_fromBase y_M_fromBase, .initialized R_M]) (by decide +kernel) mc_M_fromBase, by decide +kernel⟩
set_option maxRecDepth 100000 in
theorem mc_M_encode : Cond.code y_M_encode b_M_encode 5 none ∈ lw_tbl := List.mem_append_right _ (List.mem_append_right _ (List.mem_append_right _ (List.mem_append_right _ (List.mem_append_right _ (List.mem_append_right _ (List.mem_append_right _ (List.mem_of_getElem? (i := 47) rfl)))))))
theorem w_M_305 : sx_w [.methodLink R_M 305 y_M_encode, .instanceMethod y_M_encode, .selects R_M y_M_encode y_M_encode, .initialized R_M, .code y_M_encode b_M_encode 5 none] y_M_encode 3 := ⟨sx_wc (ws := [.methodLink R_M 305 y_M_encode, .instanceMethod y_M_encode, .selects R_M y_M_encode y_M_encode, .initialized R_M]) (by decide +kernel) mc_M_encode, by decide +kernel⟩
set_option maxRecDepth 100000 in
theorem mc_M_step : Cond.code y_M_step b_M_step 5 none ∈ lw_tbl := List.mem_append_right _ (List.mem_append_right _ (List.mem_append_right _ (List.mem_append_right _ (List.mem_append_right _ (List.mem_append_right _ (List.mem_append_right _ (List.mem_of_getElem? (i := 59) rfl)))))))
theorem w_M_312 : sx_w [.methodLink R_M 312 y_M_step, .instanceMethod y_M_step, .selects R_M y_M_step y_M_step, .initialized R_M, .code y_M_step b_M_step 5 none] y_M_step 4 := ⟨sx_wc (ws := [.methodLink R_M 312 y_M_step, .instanceMethod y_M_step, .selects R_M y_M_step y_M_step, .initialized R_M]) (by decide +kernel) mc_M_step, by decide +kernel⟩
set_option maxRecDepth 100000 in
theorem mc_M_hashMessage : Cond.code y_M_hashMessage b_M_hashMessage 3 none ∈ lw_tbl := List.mem_append_right _ (List.mem_append_right _ (List.mem_append_right _ (List.mem_append_right _ (List.mem_append_right _ (List.mem_append_right _ (List.mem_append_right _ (List.mem_of_getElem? (i := 75) rfl)))))))
theorem w_M_343 : sx_w [.methodLink R_M 343 y_M_hashMessage, .instanceMethod y_M_hashMessage, .selects R_M y_M_hashMessage y_M_hashMessage, .initialized R_M, .code y_M_hashMessage b_M_hashMessage 3 none] y_M_hashMessage 1 := ⟨sx_wc (ws := [.methodLink R_M 343 y_M_hashMessage, .instanceMethod y_M_hashMessage, .selects R_M y_M_hashMessage y_M_hashMessage, .initialized R_M]) (by decide +kernel) mc_M_hashMessage, by decide +kernel⟩
set_option maxRecDepth 100000 in
theorem mc_M_hashNumber : Cond.code y_M_hashNumber b_M_hashNumber 3 none ∈ lw_tbl := List.mem_append_right _ (List.mem_append_right _ (List.mem_append_right _ (List.mem_append_right _ (List.mem_append_right _ (List.mem_append_right _ (List.mem_append_right _ (List.mem_of_getElem? (i := 79) rfl)))))))
theorem w_M_346 : sx_w [.methodLink R_M 346 y_M_hashNumber, .instanceMethod y_M_hashNumber, .selects R_M y_M_hashNumber y_M_hashNumber, .initialized R_M, .code y_M_hashNumber b_M_hashNumber 3 none] y_M_hashNumber 1 := ⟨sx_wc (ws := [.methodLink R_M 346 y_M_hashNumber, .instanceMethod y_M_hashNumber, .selects R_M y_M_hashNumber y_M_hashNumber, .initialized R_M]) (by decide +kernel) mc_M_hashNumber, by decide +kernel⟩
