

set_option maxRecDepth 100000 in
theorem mc_K_feed : Cond.code y_K_feed b_K_feed 6 (some .int) ∈ lw_tbl := List.mem_append_right _ (List.mem_append_right _ (List.mem_append_left _ (List.mem_of_getElem? (i := 172) rfl)))
theorem w_L_7 : sx_w [.methodLink R_L 7 y_K_feed, .instanceMethod y_K_feed, .selects R_K y_K_feed y_K_feed, .initialized R_K, .code y_K_feed b_K_feed 6 (some .int)] y_K_feed 5 := ⟨sx_wc (ws := [.methodLink R_L 7 y_K_feed, .instanceMethod y_K_feed, .selects R_K y_K_feed y_K_feed, .initialized R_K]) (by decide +kernel) mc_K_feed, by decide +kernel⟩
set_option maxRecDepth 100000 in
theorem mc_K_end : Cond.code y_K_end b_K_end 2 (some .int) ∈ lw_tbl := List.mem_append_right _ (List.mem_append_right _ (List.mem_append_right _ (List.mem_append_left _ (List.mem_of_getElem? (i := 36) rfl))))
theorem w_L_15 : sx_w [.methodLink R_L 15 y_K_end, .instanceMethod y_K_end, .selects R_K y_K_end y_K_end, .initialized R_K, .code y_K_end b_K_end 2 (some .int)] y_K_end 1 := ⟨sx_wc (ws := [.methodLink R_L 15 y_K_end, .instanceMethod y_K_end, .selects R_K y_K_end y_K_end, .initialized R_K]) (by decide +kernel) mc_K_end, by decide +kernel⟩
set_option maxRecDepth 100000 in
theorem mc_K_key : Cond.code y_K_key b_K_key 2 (some .int) ∈ lw_tbl := List.mem_append_right _ (List.mem_append_right _ (List.mem_append_right _ (List.mem_append_left _ (List.mem_of_getElem? (i := 59) rfl))))
theorem w_L_21 : sx_w [.methodLink R_L 21 y_K_key, .instanceMethod y_K_key, .selects R_K y_K_key y_K_key, .initialized R_K, .code y_K_key b_K_key 2 (some .int)] y_K_key 0 := ⟨sx_wc (ws := [.methodLink R_L 21 y_K_key, .instanceMethod y_K_key, .selects R_K y_K_key y_K_key, .initialized R_K]) (by decide +kernel) mc_K_key, by decide +kernel⟩
set_option maxRecDepth 100000 in
theorem mc_K_open : Cond.code y_K_open b_K_open 4 none ∈ lw_tbl := List.mem_append_right _ (List.mem_append_right _ (List.mem_append_right _ (List.mem_append_left _ (List.mem_of_getElem? (i := 101) rfl))))
theorem w_L_25 : sx_w [.methodLink R_L 25 y_K_open, .instanceMethod y_K_open, .selects R_K y_K_open y_K_open, .initialized R_K, .code y_K_open b_K_open 4 none] y_K_open 2 := ⟨sx_wc (ws := [.methodLink R_L 25 y_K_open, .instanceMethod y_K_open, .selects R_K y_K_open y_K_open, .initialized R_K]) (by decide +kernel) mc_K_open, by decide +kernel⟩
set_option maxRecDepth 100000 in
theorem mc_K_agree : Cond.code y_K_agree b_K_agree 4 (some .boolean) ∈ lw_tbl := List.mem_append_right _ (List.mem_append_right _ (List.mem_append_right _ (List.mem_append_right _ (List.mem_append_right _ (List.mem_append_left _ (List.mem_of_getElem? (i := 33) rfl))))))
theorem w_L_31 : sx_w [.methodLink R_L 31 y_K_agree, .instanceMethod y_K_agree, .selects R_K y_K_agree y_K_agree, .initialized R_K, .code y_K_agree b_K_agree 4 (some .boolean)] y_K_agree 1 := ⟨sx_wc (ws := [.methodLink R_L 31 y_K_agree, .instanceMethod y_K_agree, .selects R_K y_K_agree y_K_agree, .initialized R_K]) (by decide +kernel) mc_K_agree, by decide +kernel⟩
set_option maxRecDepth 100000 in
theorem mc_K_sign : Cond.code y_K_sign b_K_sign 3 none ∈ lw_tbl := List.mem_append_right _ (List.mem_append_right _ (List.mem_append_right _ (List.mem_append_right _ (List.mem_append_right _ (List.mem_append_left _ (List.mem_of_getElem? (i := 44) rfl))))))
theorem w_L_35 : sx_w [.methodLink R_L 35 y_K_sign, .instanceMethod y_K_sign, .selects R_K y_K_sign y_K_sign, .initialized R_K, .code y_K_sign b_K_sign 3 none] y_K_sign 1 := ⟨sx_wc (ws := [.methodLink R_L 35 y_K_sign, .instanceMethod y_K_sign, .selects R_K y_K_sign y_K_sign, .initialized R_K]) (by decide +kernel) mc_K_sign, by decide +kernel⟩
set_option maxRecDepth 100000 in
theorem mc_K_verify : Cond.code y_K_verify b_K_verify 2 (some .int) ∈ lw_tbl := List.mem_append_right _ (List.mem_append_right _ (List.mem_append_right _ (List.mem_append_right _ (List.mem_append_right _ (List.mem_append_left _ (List.mem_of_getElem? (i := 86) rfl))))))
theorem w_L_39 : sx_w [.methodLink R_L 39 y_K_verify, .instanceMethod y_K_verify, .selects R_K y_K_verify y_K_verify, .initialized R_K, .code y_K_verify b_K_verify 2 (some .int)] y_K_verify 0 := ⟨sx_wc (ws := [.methodLink R_L 39 y_K_verify, .instanceMethod y_K_verify, .selects R_K y_K_verify y_K_verify, .initialized R_K]) (by decide +kernel) mc_K_verify, by decide +kernel⟩
set_option maxRecDepth 100000 in
theorem mc_K_point : Cond.code y_K_point b_K_point 2 (some .boolean) ∈ lw_tbl := List.mem_append_right _ (List.mem_append_right _ (List.mem_append_right _ (List.mem_append_right _ (List.mem_append_right _ (List.mem_append_left _ (List.mem_of_getElem? (i := 156) rfl))))))
theorem w_L_42 : sx_w [.methodLink R_L 42 y_K_point, .instanceMethod y_K_point, .selects R_K y_K_point y_K_point, .initialized R_K, .code y_K_point b_K_point 2 (some .boolean)] y_K_point 0 := ⟨sx_wc (ws := [.methodLink R_L 42 y_K_point, .instanceMethod y_K_point, .selects R_K y_K_point y_K_point, .initialized R_K]) (by decide +kernel) mc_K_point, by decide +kernel⟩
set_option maxRecDepth 100000 in
theorem mc_K_back : Cond.code y_K_back b_K_back 4 (some .int) ∈ lw_tbl := List.mem_append_right _ (List.mem_append_right _ (List.mem_append_right _ (List.mem_append_right _ (List.mem_append_right _ (List.mem_append_left _ (List.mem_of_getElem? (i := 169) rfl))))))
theorem w_L_46 : sx_w [.methodLink R_L 46 y_K_back, .instanceMethod y_K_back, .selects R_K y_K_back y_K_back, .initialized R_K, .code y_K_back b_K_back 4 (some .int)] y_K_back 2 := ⟨sx_wc (ws := [.methodLink R_L 46 y_K_back, .instanceMethod y_K_back, .selects R_K y_K_back y_K_back, .initialized R_K]) (by decide +kernel) mc_K_back, by decide +kernel⟩
set_option maxRecDepth 100000 in
theorem mc_K_result : Cond.code y_K_result b_K_result 2 (some .int) ∈ lw_tbl := List.mem_append_right _ (List.mem_append_right _ (List.mem_append_right _ (List.mem_append_right _ (List.mem_append_right _ (List.mem_append_left _ (List.mem_of_getElem? (i := 195) rfl))))))
theorem w_L_52 : sx_w [.methodLink R_L 52 y_K_result, .instanceMethod y_K_result, .selects R_K y_K_result y_K_result, .initialized R_K, .code y_K_result b_K_result 2 (some .int)] y_K_result 1 := ⟨sx_wc (ws := [.methodLink R_L 52 y_K_result, .instanceMethod y_K_result, .selects R_K y_K_result y_K_result, .initialized R_K]) (by decide +kernel) mc_K_result, by decide +kernel⟩
