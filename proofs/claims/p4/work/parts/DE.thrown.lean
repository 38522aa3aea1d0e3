
set_option maxRecDepth 100000 in
theorem mc_M_feed : Cond.code y_M_feed b_M_feed 8 (some .int) ∈ lw_tbl := List.mem_append_right _ (List.mem_append_right _ (List.mem_append_right _ (List.mem_append_right _ (List.mem_append_right _ (List.mem_append_right _ (List.mem_append_left _ (List.mem_of_getElem? (i := 224) rfl)))))))
theorem w_L_64 : sx_w [.methodLink R_L 64 y_M_feed, .instanceMethod y_M_feed, .selects R_M y_M_feed y_M_feed, .initialized R_M, .code y_M_feed b_M_feed 8 (some .int)] y_M_feed 5 := ⟨sx_wc (ws := [.methodLink R_L 64 y_M_feed, .instanceMethod y_M_feed, .selects R_M y_M_feed y_M_feed, .initialized R_M]) (by decide +kernel) mc_M_feed, by decide +kernel⟩
set_option maxRecDepth 100000 in
theorem mc_M_end : Cond.code y_M_end b_M_end 2 (some .int) ∈ lw_tbl := List.mem_append_right _ (List.mem_append_right _ (List.mem_append_right _ (List.mem_append_right _ (List.mem_append_right _ (List.mem_append_right _ (List.mem_append_left _ (List.mem_of_getElem? (i := 233) rfl)))))))
theorem w_L_68 : sx_w [.methodLink R_L 68 y_M_end, .instanceMethod y_M_end, .selects R_M y_M_end y_M_end, .initialized R_M, .code y_M_end b_M_end 2 (some .int)] y_M_end 1 := ⟨sx_wc (ws := [.methodLink R_L 68 y_M_end, .instanceMethod y_M_end, .selects R_M y_M_end y_M_end, .initialized R_M]) (by decide +kernel) mc_M_end, by decide +kernel⟩
set_option maxRecDepth 100000 in
theorem mc_M_key : Cond.code y_M_key b_M_key 2 (some .int) ∈ lw_tbl := List.mem_append_right _ (List.mem_append_right _ (List.mem_append_right _ (List.mem_append_right _ (List.mem_append_right _ (List.mem_append_right _ (List.mem_append_left _ (List.mem_of_getElem? (i := 237) rfl)))))))
theorem w_L_72 : sx_w [.methodLink R_L 72 y_M_key, .instanceMethod y_M_key, .selects R_M y_M_key y_M_key, .initialized R_M, .code y_M_key b_M_key 2 (some .int)] y_M_key 0 := ⟨sx_wc (ws := [.methodLink R_L 72 y_M_key, .instanceMethod y_M_key, .selects R_M y_M_key y_M_key, .initialized R_M]) (by decide +kernel) mc_M_key, by decide +kernel⟩
set_option maxRecDepth 100000 in
theorem mc_M_thrown : Cond.code y_M_thrown b_M_thrown 1 (some .int) ∈ lw_tbl := List.mem_append_right _ (List.mem_append_right _ (List.mem_append_right _ (List.mem_append_right _ (List.mem_append_right _ (List.mem_append_right _ (List.mem_append_left _ (List.mem_of_getElem? (i := 220) rfl)))))))
theorem w_L_73 : sx_w [.methodLink R_L 73 y_M_thrown, .instanceMethod y_M_thrown, .selects R_M y_M_thrown y_M_thrown, .initialized R_M, .code y_M_thrown b_M_thrown 1 (some .int)] y_M_thrown 0 := ⟨sx_wc (ws := [.methodLink R_L 73 y_M_thrown, .instanceMethod y_M_thrown, .selects R_M y_M_thrown y_M_thrown, .initialized R_M]) (by decide +kernel) mc_M_thrown, by decide +kernel⟩
set_option maxRecDepth 100000 in
theorem mc_M_open : Cond.code y_M_open b_M_open 4 none ∈ lw_tbl := List.mem_append_right _ (List.mem_append_right _ (List.mem_append_right _ (List.mem_append_right _ (List.mem_append_right _ (List.mem_append_right _ (List.mem_append_right _ (List.mem_of_getElem? (i := 1) rfl)))))))
theorem w_L_79 : sx_w [.methodLink R_L 79 y_M_open, .instanceMethod y_M_open, .selects R_M y_M_open y_M_open, .initialized R_M, .code y_M_open b_M_open 4 none] y_M_open 2 := ⟨sx_wc (ws := [.methodLink R_L 79 y_M_open, .instanceMethod y_M_open, .selects R_M y_M_open y_M_open, .initialized R_M]) (by decide +kernel) mc_M_open, by decide +kernel⟩
set_option maxRecDepth 100000 in
theorem mc_M_agree : Cond.code y_M_agree b_M_agree 3 (some .boolean) ∈ lw_tbl := List.mem_append_right _ (List.mem_append_right _ (List.mem_append_right _ (List.mem_append_right _ (List.mem_append_right _ (List.mem_append_right _ (List.mem_append_right _ (List.mem_of_getElem? (i := 63) rfl)))))))
theorem w_L_82 : sx_w [.methodLink R_L 82 y_M_agree, .instanceMethod y_M_agree, .selects R_M y_M_agree y_M_agree, .initialized R_M, .code y_M_agree b_M_agree 3 (some .boolean)] y_M_agree 1 := ⟨sx_wc (ws := [.methodLink R_L 82 y_M_agree, .instanceMethod y_M_agree, .selects R_M y_M_agree y_M_agree, .initialized R_M]) (by decide +kernel) mc_M_agree, by decide +kernel⟩
set_option maxRecDepth 100000 in
theorem mc_K_message : Cond.code y_K_message b_K_message 2 (some .int) ∈ lw_tbl := List.mem_append_right _ (List.mem_append_right _ (List.mem_append_left _ (List.mem_of_getElem? (i := 160) rfl)))
theorem w_L_83 : sx_w [.methodLink R_L 83 y_K_message, .instanceMethod y_K_message, .selects R_K y_K_message y_K_message, .initialized R_K, .code y_K_message b_K_message 2 (some .int)] y_K_message 0 := ⟨sx_wc (ws := [.methodLink R_L 83 y_K_message, .instanceMethod y_K_message, .selects R_K y_K_message y_K_message, .initialized R_K]) (by decide +kernel) mc_K_message, by decide +kernel⟩
set_option maxRecDepth 100000 in
theorem mc_M_message : Cond.code y_M_message b_M_message 2 (some .int) ∈ lw_tbl := List.mem_append_right _ (List.mem_append_right _ (List.mem_append_right _ (List.mem_append_right _ (List.mem_append_right _ (List.mem_append_right _ (List.mem_append_right _ (List.mem_of_getElem? (i := 67) rfl)))))))
theorem w_L_86 : sx_w [.methodLink R_L 86 y_M_message, .instanceMethod y_M_message, .selects R_M y_M_message y_M_message, .initialized R_M, .code y_M_message b_M_message 2 (some .int)] y_M_message 0 := ⟨sx_wc (ws := [.methodLink R_L 86 y_M_message, .instanceMethod y_M_message, .selects R_M y_M_message y_M_message, .initialized R_M]) (by decide +kernel) mc_M_message, by decide +kernel⟩
set_option maxRecDepth 100000 in
theorem mc_M_sign : Cond.code y_M_sign b_M_sign 3 none ∈ lw_tbl := List.mem_append_right _ (List.mem_append_right _ (List.mem_append_right _ (List.mem_append_right _ (List.mem_append_right _ (List.mem_append_right _ (List.mem_append_right _ (List.mem_of_getElem? (i := 71) rfl)))))))
theorem w_L_90 : sx_w [.methodLink R_L 90 y_M_sign, .instanceMethod y_M_sign, .selects R_M y_M_sign y_M_sign, .initialized R_M, .code y_M_sign b_M_sign 3 none] y_M_sign 1 := ⟨sx_wc (ws := [.methodLink R_L 90 y_M_sign, .instanceMethod y_M_sign, .selects R_M y_M_sign y_M_sign, .initialized R_M]) (by decide +kernel) mc_M_sign, by decide +kernel⟩
set_option maxRecDepth 100000 in
theorem mc_M_verify : Cond.code y_M_verify b_M_verify 2 (some .int) ∈ lw_tbl := List.mem_append_right _ (List.mem_append_right _ (List.mem_append_right _ (List.mem_append_right _ (List.mem_append_right _ (List.mem_append_right _ (List.mem_append_right _ (List.mem_of_getElem? (i := 83) rfl)))))))
theorem w_L_93 : sx_w [.methodLink R_L 93 y_M_verify, .instanceMethod y_M_verify, .selects R_M y_M_verify y_M_verify, .initialized R_M, .code y_M_verify b_M_verify 2 (some .int)] y_M_verify 0 := ⟨sx_wc (ws := [.methodLink R_L 93 y_M_verify, .instanceMethod y_M_verify, .selects R_M y_M_verify y_M_verify, .initialized R_M]) (by decide +kernel) mc_M_verify, by decide +kernel⟩
set_option maxRecDepth 100000 in
theorem mc_M_point : Cond.code y_M_point b_M_point 2 (some .boolean) ∈ lw_tbl := List.mem_append_right _ (List.mem_append_right _ (List.mem_append_right _ (List.mem_append_right _ (List.mem_append_right _ (List.mem_append_right _ (List.mem_append_right _ (List.mem_of_getElem? (i := 91) rfl)))))))
theorem w_L_96 : sx_w [.methodLink R_L 96 y_M_point, .instanceMethod y_M_point, .selects R_M y_M_point y_M_point, .initialized R_M, .code y_M_point b_M_point 2 (some .boolean)] y_M_point 0 := ⟨sx_wc (ws := [.methodLink R_L 96 y_M_point, .instanceMethod y_M_point, .selects R_M y_M_point y_M_point, .initialized R_M]) (by decide +kernel) mc_M_point, by decide +kernel⟩
set_option maxRecDepth 100000 in
theorem mc_M_back : Cond.code y_M_back b_M_back 4 (some .int) ∈ lw_tbl := List.mem_append_right _ (List.mem_append_right _ (List.mem_append_right _ (List.mem_append_right _ (List.mem_append_right _ (List.mem_append_right _ (List.mem_append_right _ (List.mem_of_getElem? (i := 95) rfl)))))))
theorem w_L_100 : sx_w [.methodLink R_L 100 y_M_back, .instanceMethod y_M_back, .selects R_M y_M_back y_M_back, .initialized R_M, .code y_M_back b_M_back 4 (some .int)] y_M_back 2 := ⟨sx_wc (ws := [.methodLink R_L 100 y_M_back, .instanceMethod y_M_back, .selects R_M y_M_back y_M_back, .initialized R_M]) (by decide +kernel) mc_M_back, by decide +kernel⟩
set_option maxRecDepth 100000 in
theorem mc_M_result : Cond.code y_M_result b_M_result 2 (some .int) ∈ lw_tbl := List.mem_append_right _ (List.mem_append_right _ (List.mem_append_right _ (List.mem_append_right _ (List.mem_append_right _ (List.mem_append_right _ (List.mem_append_right _ (List.mem_of_getElem? (i := 99) rfl)))))))
theorem w_L_103 : sx_w [.methodLink R_L 103 y_M_result, .instanceMethod y_M_result, .selects R_M y_M_result y_M_result, .initialized R_M, .code y_M_result b_M_result 2 (some .int)] y_M_result 1 := ⟨sx_wc (ws := [.methodLink R_L 103 y_M_result, .instanceMethod y_M_result, .selects R_M y_M_result y_M_result, .initialized R_M]) (by decide +kernel) mc_M_result, by decide +kernel⟩
set_option maxRecDepth 100000 in
theorem mc_K_count : Cond.code y_K_count b_K_count 2 (some .int) ∈ lw_tbl := List.mem_append_right _ (List.mem_append_right _ (List.mem_append_left _ (List.mem_of_getElem? (i := 164) rfl)))
theorem w_L_104 : sx_w [.methodLink R_L 104 y_K_count, .instanceMethod y_K_count, .selects R_K y_K_count y_K_count, .initialized R_K, .code y_K_count b_K_count 2 (some .int)] y_K_count 1 := ⟨sx_wc (ws := [.methodLink R_L 104 y_K_count, .instanceMethod y_K_count, .selects R_K y_K_count y_K_count, .initialized R_K]) (by decide +kernel) mc_K_count, by decide +kernel⟩
set_option maxRecDepth 100000 in
theorem mc_M_count : Cond.code y_M_count b_M_count 2 (some .int) ∈ lw_tbl := List.mem_append_right _ (List.mem_append_right _ (List.mem_append_right _ (List.mem_append_right _ (List.mem_append_right _ (List.mem_append_right _ (List.mem_append_right _ (List.mem_of_getElem? (i := 103) rfl)))))))
theorem w_L_107 : sx_w [.methodLink R_L 107 y_M_count, .instanceMethod y_M_count, .selects R_M y_M_count y_M_count, .initialized R_M, .code y_M_count b_M_count 2 (some .int)] y_M_count 1 := ⟨sx_wc (ws := [.methodLink R_L 107 y_M_count, .instanceMethod y_M_count, .selects R_M y_M_count y_M_count, .initialized R_M]) (by decide +kernel) mc_M_count, by decide +kernel⟩
set_option maxRecDepth 100000 in
theorem c_M_thrown {l : Launch} {D : va_G} {g : ClassId → FieldType → Prop} {H0 : Heap} {o : Nat} {fs : List Value} {v : Int32} (k_o : va_P D classes [(o, .inr (0, fs))] H0) (y0 : fs[0]? = some (.int v)) : Met l y_M_thrown (.code y_M_thrown b_M_thrown 1 (some .int) :: G_) { frames := 0, cells := 0, slots := 0, locals := 0 } (sx_Pc [.ref o] H0 D g) (px_Q g (fun _ => False) H0 v (fun _ => True)) 0 0 (fun _ => False) := by
  refine px_mi (own := R_M) (V := v) (P := fun _ => True) (by decide) rfl (Nat.le_of_ble_eq_true rfl) ?_
  intro p e s m args below meth c Q ls EE hl hret
  obtain ⟨hx, hb, hml, hown, hts, hG, hK⟩ := id EE
  have hl : lv_has ls 1 [(0, .ref o)] := hl
  refine lv_aload_n hx hb d_M_thrown_0 rfl (lv_at hl 0 rfl) ?_
  refine sx_get (v := .int v) EE k_o rfl i_M 0 (by decide) rfl fl_M_211 y0 d_M_thrown_1 ?_
  exact hret _ _ _ _ trivial sx_S.rf d_M_thrown_4
theorem n_thrown {l : Launch} {D : va_G} {g : ClassId → FieldType → Prop} {o : Nat} {r : Nat → Nat} {th : Int32} {tl ml rl kc : Nat} {tp ms rs : Nat → Int32} {ks : Nat → Nat → Int32} {H : Heap} (h : MS D g o r th tl ml rl kc tp ms rs ks H) : DStep l D g y_M_thrown b_M_thrown 1 (some .int) [.ref o] H th (fun _ => False) (fun _ => True) := ⟨fun _ => False, fun _ => True, 0, 0, by decide, by decide, c_M_thrown h.1 rfl, fun z h => h, fun _ _ _ => trivial⟩
theorem Rel.same {D : va_G} {g : ClassId → FieldType → Prop} {kq : Nat → Nat → Nat} {ts : Nat → Nat} {x kA re ve ou o a0 a1 a3 cap : Nat} {r : Nat → Nat} {th : Int32} {tl ml rl kc : Nat} {tp ms rs : Nat → Int32} {ks : Nat → Nat → Int32} {H H1 : Heap} (hR : Rel D g kq ts x kA re ve ou o a0 a1 a3 cap r th tl ml rl kc tp ms rs ks H) (hx : Cxt D kq ts ou o a0 a1 a3 r) (hJ : sx_J g (fun _ => False) H H1) : Rel D g kq ts x kA re ve ou o a0 a1 a3 cap r th tl ml rl kc tp ms rs ks H1 := by
  obtain ⟨hk, hm, ok, w, hl⟩ := hR
  exact ⟨hk.kept hx.1 hJ (fun z h => h.elim), hm.kept hJ (fun z h => h.elim), ok, w, hl.j hJ id⟩
theorem lgc (a : Int64) : lg_cmp a a = 0 := by
  unfold lg_cmp
  rw [if_neg (show ¬ a > a from Int64.lt_irrefl), if_pos rfl]
