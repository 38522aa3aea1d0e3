abbrev rm_M_thrown : Room := { frames := 0, cells := 0, slots := 0, locals := 0 }
set_option maxRecDepth 100000 in
theorem c_M_thrown {l : Launch} {D : va_G} {g : ClassId → FieldType → Prop} {H0 : Heap} {o : Nat} {fs : List Value} {v : Int32} (k_o : va_P D classes [(o, .inr (0, fs))] H0) (y0 : fs[0]? = some (.int v)) : Met l y_M_thrown (.code y_M_thrown b_M_thrown 1 (some .int) :: G_) rm_M_thrown (sx_Pc [.ref o] H0 D g) (px_Q g (fun _ => False) H0 v (fun H => True)) 0 0 (fun _ => False) := by
  refine px_mi (own := R_M) (V := v) (P := fun H => True) (by decide) rfl (Nat.le_of_ble_eq_true rfl) ?_
  intro p e s m args below meth c Q ls EE hl hret
  obtain ⟨hx, hb, hml, hown, hts, hG, hK⟩ := id EE
  have hl : lv_has ls 1 [(0, .ref o)] := hl
  refine lv_aload_n hx hb d_M_thrown_0 rfl (lv_at hl 0 rfl) ?_
  refine sx_get (v := .int v) EE k_o rfl i_M 0 (by decide) rfl fl_M_211 y0 d_M_thrown_1 ?_
  exact hret _ _ _ _ trivial sx_S.rf d_M_thrown_4
abbrev rm_L_feed : Room := { frames := 3, cells := 0, slots := 0, locals := 67 }
set_option maxHeartbeats 4000000 in
set_option maxRecDepth 100000 in
theorem c_L_feed {l : Launch} {D : va_G} {g : ClassId → FieldType → Prop} {H0 : Heap} {x ou : Nat} {r rt rm : Nat → Nat} {w0 : Int64} {v0 v1 v2 v3 v4 : Int32} (k_x : va_P D classes [(x, .inr (1, [.ref (r 0), .ref (r 1), .ref (r 2), .ref (r 3), .ref (r 4), .ref (r 5), .ref (r 6), .ref (r 7), .int (nI (0)), .int (nI (0)), .int (nI (0)), .int (nI (0))]))] H0) (k_r6 : va_P D classes [(r 6, .inr (9, [.ref (rt 0), .int (nI (0))]))] H0) (k_r7 : va_P D classes [(r 7, .inr (9, [.ref (rm 0), .int (nI (0))]))] H0) (f_rt0 : sx_A g .byte H0 (rt 0) 1024) (x_rt0 : sx_L H0 (rt 0) 1024) (f_r1 : sx_A g .byte H0 (r 1) 64) (k_ou : lo_ g H0 ou w0) (n_x_r6 : x ≠ r 6) (n_x_r7 : x ≠ r 7) (n_r6_r7 : r 6 ≠ r 7) (n_ou_rt0 : ou ≠ rt 0) : Met l y_L_feed (.codeWith y_L_feed b_L_feed 8 (some .int) hh_L_feed :: G_) rm_L_feed (tx_Pc [.ref x, .int v0, .int v1, .int v2, .int v3, .int v4, .ref ou] H0 D g) (px_Q g (fun z => z = (r 6) ∨ z = (rt 0) ∨ z = ou) H0 (nI 0) (fun H => lo_ g H ou 20)) 0 0 (fun z => z = (r 6) ∨ z = (rt 0) ∨ z = ou) := by
  refine px_mW (own := R_L) (V := nI 0) (P := fun H => lo_ g H ou 20) (by decide) rfl (Nat.le_of_ble_eq_true rfl) ?_
  intro p e s m args below meth c Q ls EE hKx ht hh hl hret
  subst hh
  obtain ⟨hx, hb, hml, hown, hts, hG, hK⟩ := id EE
  obtain ⟨x0, L0, ht1, e1, e2, e3, e4⟩ := px_row ht
  have hS : sx_S g (fun z => z = (r 6) ∨ z = (rt 0) ∨ z = ou) (fun z => z = (r 6) ∨ z = (rt 0) ∨ z = ou) s.heap s.heap [] := sx_S.rf
  have hl : lv_has ls 8 [(0, .ref x), (1, .int v0), (2, .int v1), (3, .int v2), (4, .int v3), (5, .int v4), (6, .ref ou)] := hl
  have h_x := k_x
  have h_r6 := k_r6
  have h_r7 := k_r7
  have l_ou := k_ou
  refine lv_aload hx hb d_L_feed_0 (lv_at hl 6 rfl) ?_
  refine lv_iconst (v := nI 0) hx hb d_L_feed_2 (by decide +kernel) ?_
  refine lv_aload_n hx hb d_L_feed_3 rfl (lv_at hl 0 rfl) ?_
  refine lv_iload_n hx hb d_L_feed_4 rfl (lv_at hl 1 rfl) ?_
  refine lv_iload_n hx hb d_L_feed_5 rfl (lv_at hl 2 rfl) ?_
  refine lv_iload_n hx hb d_L_feed_6 rfl (lv_at hl 3 rfl) ?_
  refine lv_iload hx hb d_L_feed_7 (lv_at hl 4 rfl) ?_
  refine lv_iload hx hb d_L_feed_9 (lv_at hl 5 rfl) ?_
  refine px_gi (E' := (fun z => z = (r 6) ∨ z = (rt 0))) (V := nI 20) (P := fun H => True) (sx_runV (As := [.int v0, .int v1, .int v2, .int v3, .int v4]) (rest := [.int (nI (0)), .ref ou]) EE h_x rfl rfl (c_K_feed h_x h_r6 h_r7 (hS.a f_rt0) (hS.1.2.2.2 _ _ x_rt0) (hS.a f_r1) n_x_r6 n_x_r7 n_r6_r7) w_L_7 rfl ⟨rfl, rfl⟩ ⟨Nat.le_of_ble_eq_true rfl, Nat.le_of_ble_eq_true rfl⟩ ⟨Nat.zero_le _, Nat.zero_le _⟩ hl.1 rfl (Nat.le_of_ble_eq_true rfl) d_L_feed_11) (fun _ h => by rcases h with rfl | rfl <;> simp) hS (fun H locs hJ hP hS => ?_)
  have h_x := hJ.ob (fun h => h.elim n_x_r6 (px_ne hG hK.1 k_x f_rt0)) h_x
  have h_r7 := hJ.ob (fun h => h.elim (Ne.symm n_r6_r7) (px_ne hG hK.1 k_r7 f_rt0)) h_r7
  have l_ou := l_ou.j hJ (fun h => h.elim (Ne.symm (px_ne hG hK.1 k_r6 k_ou.a)) n_ou_rt0)
  refine lv_i2l (v := 20) hx hb d_L_feed_14 (by decide +kernel) ?_
  refine px_out (E := (fun z => z = (r 6) ∨ z = (rt 0) ∨ z = ou)) hx hb hG hS l_ou (Or.inr (Or.inr rfl)) d_L_feed_15 (fun H locs l_ou hs hS => ?_)
  have h_x := h_x.one hs (px_ne hG hK.1 k_x k_ou.a)
  have h_r7 := h_r7.one hs (px_ne hG hK.1 k_r7 k_ou.a)
  refine lv_goto (tgt := 23) hx hb d_L_feed_16 (by decide) ?_
  refine lv_iconst (v := nI 0) hx hb d_L_feed_23 (by decide +kernel) ?_
  exact hret _ _ _ _ l_ou hS.1 hS.2.2 d_L_feed_24
abbrev rm_L_end0 : Room := { frames := 1, cells := 0, slots := 0, locals := 21 }
set_option maxHeartbeats 4000000 in
set_option maxRecDepth 100000 in
theorem c_L_end0 {l : Launch} {D : va_G} {g : ClassId → FieldType → Prop} {H0 : Heap} {x ou : Nat} {r rt rm : Nat → Nat} {w0 : Int64}  (k_x : va_P D classes [(x, .inr (1, [.ref (r 0), .ref (r 1), .ref (r 2), .ref (r 3), .ref (r 4), .ref (r 5), .ref (r 6), .ref (r 7), .int (nI (0)), .int (nI (0)), .int (nI (0)), .int (nI (0))]))] H0) (k_r6 : va_P D classes [(r 6, .inr (9, [.ref (rt 0), .int (nI (0))]))] H0) (k_r7 : va_P D classes [(r 7, .inr (9, [.ref (rm 0), .int (nI (0))]))] H0) (f_rt0 : sx_A g .byte H0 (rt 0) 1024) (x_rt0 : sx_L H0 (rt 0) 1024) (f_r1 : sx_A g .byte H0 (r 1) 64) (k_ou : lo_ g H0 ou w0) (n_x_r6 : x ≠ r 6) (n_x_r7 : x ≠ r 7) (n_r6_r7 : r 6 ≠ r 7) (n_ou_rt0 : ou ≠ rt 0) : Met l y_L_end (.codeWith y_L_end b_L_end 4 (some .int) hh_L_end :: G_) rm_L_end0 (tx_Pc [.ref x, .int (nI (0)), .ref ou] H0 D g) (px_Q g (fun z => z = (r 6) ∨ z = ou) H0 (nI 0) (fun H => lo_ g H ou 0)) 0 0 (fun z => z = (r 6) ∨ z = ou) := by
  refine px_mW (own := R_L) (V := nI 0) (P := fun H => lo_ g H ou 0) (by decide) rfl (Nat.le_of_ble_eq_true rfl) ?_
  intro p e s m args below meth c Q ls EE hKx ht hh hl hret
  subst hh
  obtain ⟨hx, hb, hml, hown, hts, hG, hK⟩ := id EE
  obtain ⟨x0, L0, ht1, e1, e2, e3, e4⟩ := px_row ht
  have hS : sx_S g (fun z => z = (r 6) ∨ z = ou) (fun z => z = (r 6) ∨ z = ou) s.heap s.heap [] := sx_S.rf
  have hl : lv_has ls 4 [(0, .ref x), (1, .int (nI (0))), (2, .ref ou)] := hl
  have h_x := k_x
  have h_r6 := k_r6
  have h_r7 := k_r7
  have l_ou := k_ou
  refine lv_aload_n hx hb d_L_end_0 rfl (lv_at hl 2 rfl) ?_
  refine lv_iconst (v := nI 0) hx hb d_L_end_1 (by decide +kernel) ?_
  refine lv_aload_n hx hb d_L_end_2 rfl (lv_at hl 0 rfl) ?_
  refine lv_iload_n hx hb d_L_end_3 rfl (lv_at hl 1 rfl) ?_
  refine px_gi (E' := (fun z => z = (r 6))) (V := nI 0) (P := fun H => True) (sx_runV (As := [.int (nI (0))]) (rest := [.int (nI (0)), .ref ou]) EE h_x rfl rfl (c_K_end0 h_x h_r6 h_r7 (hS.a f_rt0) (hS.1.2.2.2 _ _ x_rt0) (hS.a f_r1) n_x_r6 n_x_r7 n_r6_r7) w_L_15 rfl ⟨rfl, rfl⟩ ⟨Nat.le_of_ble_eq_true rfl, Nat.le_of_ble_eq_true rfl⟩ ⟨Nat.zero_le _, Nat.zero_le _⟩ hl.1 rfl (Nat.le_of_ble_eq_true rfl) d_L_end_4) (fun _ h => by subst h; simp) hS (fun H locs hJ hP hS => ?_)
  have h_x := hJ.ob n_x_r6 h_x
  have h_r7 := hJ.ob (Ne.symm n_r6_r7) h_r7
  have l_ou := l_ou.j hJ (Ne.symm (px_ne hG hK.1 k_r6 k_ou.a))
  refine lv_i2l (v := 0) hx hb d_L_end_7 (by decide +kernel) ?_
  refine px_out (E := (fun z => z = (r 6) ∨ z = ou)) hx hb hG hS l_ou (Or.inr rfl) d_L_end_8 (fun H locs l_ou hs hS => ?_)
  have h_x := h_x.one hs (px_ne hG hK.1 k_x k_ou.a)
  have h_r7 := h_r7.one hs (px_ne hG hK.1 k_r7 k_ou.a)
  refine lv_goto (tgt := 15) hx hb d_L_end_9 (by decide) ?_
  refine lv_iconst (v := nI 0) hx hb d_L_end_15 (by decide +kernel) ?_
  exact hret _ _ _ _ l_ou hS.1 hS.2.2 d_L_end_16
abbrev rm_L_back0 : Room := { frames := 3, cells := 0, slots := 0, locals := 145 }
set_option maxHeartbeats 4000000 in
set_option maxRecDepth 100000 in
theorem c_L_back0 {l : Launch} {D : va_G} {g : ClassId → FieldType → Prop} {H0 : Heap} {x ou : Nat} {r rt rm : Nat → Nat} {w0 : Int64} {w : Int32} (k_x : va_P D classes [(x, .inr (1, [.ref (r 0), .ref (r 1), .ref (r 2), .ref (r 3), .ref (r 4), .ref (r 5), .ref (r 6), .ref (r 7), .int (nI (0)), .int (nI (0)), .int (nI (0)), .int (nI (0))]))] H0) (k_r6 : va_P D classes [(r 6, .inr (9, [.ref (rt 0), .int (nI (0))]))] H0) (k_r7 : va_P D classes [(r 7, .inr (9, [.ref (rm 0), .int (nI (0))]))] H0) (f_rt0 : sx_A g .byte H0 (rt 0) 1024) (x_rt0 : sx_L H0 (rt 0) 1024) (f_r1 : sx_A g .byte H0 (r 1) 64) (k_ou : lo_ g H0 ou w0) (n_x_r6 : x ≠ r 6) (n_x_r7 : x ≠ r 7) (n_r6_r7 : r 6 ≠ r 7) (n_ou_rt0 : ou ≠ rt 0) : Met l y_L_back (.codeWith y_L_back b_L_back 5 (some .int) hh_L_back :: G_) rm_L_back0 (tx_Pc [.ref x, .int (-1), .int w, .ref ou] H0 D g) (px_Q g (fun z => z = (r 6) ∨ z = (rt 0) ∨ z = ou) H0 (nI 0) (fun H => lo_ g H ou 0)) 0 0 (fun z => z = (r 6) ∨ z = (rt 0) ∨ z = ou) := by
  refine px_mW (own := R_L) (V := nI 0) (P := fun H => lo_ g H ou 0) (by decide) rfl (Nat.le_of_ble_eq_true rfl) ?_
  intro p e s m args below meth c Q ls EE hKx ht hh hl hret
  subst hh
  obtain ⟨hx, hb, hml, hown, hts, hG, hK⟩ := id EE
  obtain ⟨x0, L0, ht1, e1, e2, e3, e4⟩ := px_row ht
  have hS : sx_S g (fun z => z = (r 6) ∨ z = (rt 0) ∨ z = ou) (fun z => z = (r 6) ∨ z = (rt 0) ∨ z = ou) s.heap s.heap [] := sx_S.rf
  have hl : lv_has ls 5 [(0, .ref x), (1, .int (-1)), (2, .int w), (3, .ref ou)] := hl
  have h_x := k_x
  have h_r6 := k_r6
  have h_r7 := k_r7
  have l_ou := k_ou
  refine lv_aload_n hx hb d_L_back_0 rfl (lv_at hl 3 rfl) ?_
  refine lv_iconst (v := nI 0) hx hb d_L_back_1 (by decide +kernel) ?_
  refine lv_aload_n hx hb d_L_back_2 rfl (lv_at hl 0 rfl) ?_
  refine lv_iload_n hx hb d_L_back_3 rfl (lv_at hl 1 rfl) ?_
  refine lv_iload_n hx hb d_L_back_4 rfl (lv_at hl 2 rfl) ?_
  refine px_gi (E' := (fun z => z = (r 6) ∨ z = (rt 0))) (V := nI 0) (P := fun H => True) (sx_runV (As := [.int (-1), .int w]) (rest := [.int (nI (0)), .ref ou]) EE h_x rfl rfl (c_K_back0 h_x h_r6 h_r7 (hS.a f_rt0) (hS.1.2.2.2 _ _ x_rt0) (hS.a f_r1) n_x_r6 n_x_r7 n_r6_r7) w_L_46 rfl ⟨rfl, rfl⟩ ⟨Nat.le_of_ble_eq_true rfl, Nat.le_of_ble_eq_true rfl⟩ ⟨Nat.zero_le _, Nat.zero_le _⟩ hl.1 rfl (Nat.le_of_ble_eq_true rfl) d_L_back_5) (fun _ h => by rcases h with rfl | rfl <;> simp) hS (fun H locs hJ hP hS => ?_)
  have h_x := hJ.ob (fun h => h.elim n_x_r6 (px_ne hG hK.1 k_x f_rt0)) h_x
  have h_r7 := hJ.ob (fun h => h.elim (Ne.symm n_r6_r7) (px_ne hG hK.1 k_r7 f_rt0)) h_r7
  have l_ou := l_ou.j hJ (fun h => h.elim (Ne.symm (px_ne hG hK.1 k_r6 k_ou.a)) n_ou_rt0)
  refine lv_i2l (v := 0) hx hb d_L_back_8 (by decide +kernel) ?_
  refine px_out (E := (fun z => z = (r 6) ∨ z = (rt 0) ∨ z = ou)) hx hb hG hS l_ou (Or.inr (Or.inr rfl)) d_L_back_9 (fun H locs l_ou hs hS => ?_)
  have h_x := h_x.one hs (px_ne hG hK.1 k_x k_ou.a)
  have h_r7 := h_r7.one hs (px_ne hG hK.1 k_r7 k_ou.a)
  refine lv_goto (tgt := 21) hx hb d_L_back_10 (by decide) ?_
  refine lv_iconst (v := nI 0) hx hb d_L_back_21 (by decide +kernel) ?_
  exact hret _ _ _ _ l_ou hS.1 hS.2.2 d_L_back_22
abbrev rm_L_end : Room := { frames := 7, cells := 1, slots := 6, locals := 103 }
set_option maxHeartbeats 4000000 in
set_option maxRecDepth 100000 in
theorem c_L_end {l : Launch} {D : va_G} {g : ClassId → FieldType → Prop} {H0 : Heap} {x ou : Nat} {r rt rm : Nat → Nat} {w0 : Int64} {v : Int32} (htr : l.stackTraces = false) (k_x : va_P D classes [(x, .inr (1, [.ref (r 0), .ref (r 1), .ref (r 2), .ref (r 3), .ref (r 4), .ref (r 5), .ref (r 6), .ref (r 7), .int (nI (0)), .int (nI (0)), .int (nI (0)), .int (nI (0))]))] H0) (k_r6 : va_P D classes [(r 6, .inr (9, [.ref (rt 0), .int (nI (0))]))] H0) (k_r7 : va_P D classes [(r 7, .inr (9, [.ref (rm 0), .int (nI (0))]))] H0) (f_rt0 : sx_A g .byte H0 (rt 0) 1024) (x_rt0 : sx_L H0 (rt 0) 1024) (f_r1 : sx_A g .byte H0 (r 1) 64) (k_ou : lo_ g H0 ou w0) (n_x_r6 : x ≠ r 6) (n_x_r7 : x ≠ r 7) (n_r6_r7 : r 6 ≠ r 7) (y0 : v ≠ 0) : Met l y_L_end (.codeWith y_L_end b_L_end 4 (some .int) hh_L_end :: G_) rm_L_end (tx_Pc [.ref x, .int v, .ref ou] H0 D g) (px_Q g (fun _ => False) H0 (nI 1) (fun H => True)) 1 6 (fun _ => False) := by
  refine px_mW (own := R_L) (V := nI 1) (P := fun H => True) (by decide) rfl (Nat.le_of_ble_eq_true rfl) ?_
  intro p e s m args below meth c Q ls EE hKx ht hh hl hret
  subst hh
  obtain ⟨hx, hb, hml, hown, hts, hG, hK⟩ := id EE
  obtain ⟨x0, L0, ht1, e1, e2, e3, e4⟩ := px_row ht
  have hS : sx_S g (fun _ => False) (fun _ => False) s.heap s.heap [] := sx_S.rf
  have hl : lv_has ls 4 [(0, .ref x), (1, .int v), (2, .ref ou)] := hl
  have h_x := k_x
  have h_r6 := k_r6
  have h_r7 := k_r7
  have l_ou := k_ou
  refine lv_aload_n hx hb d_L_end_0 rfl (lv_at hl 2 rfl) ?_
  refine lv_iconst (v := nI 0) hx hb d_L_end_1 (by decide +kernel) ?_
  refine lv_aload_n hx hb d_L_end_2 rfl (lv_at hl 0 rfl) ?_
  refine lv_iload_n hx hb d_L_end_3 rfl (lv_at hl 1 rfl) ?_
  refine tx_catch (X := X_A) (ix := 19) (hpc := 12) (cells' := 1) (slots' := 6) (tx_runV (As := [.int v]) (rest := [.int (nI (0)), .ref ou]) EE hKx (fun _ _ => rfl) h_x rfl rfl (c_K_end htr h_x h_r6 h_r7 f_rt0 x_rt0 f_r1 n_x_r6 n_x_r7 n_r6_r7 y0) w_L_15 rfl ⟨rfl, rfl⟩ ⟨Nat.le_of_ble_eq_true rfl, Nat.le_of_ble_eq_true rfl⟩ ⟨Nat.le_of_ble_eq_true rfl, Nat.le_of_ble_eq_true rfl⟩ hl.1 rfl (Nat.le_of_ble_eq_true rfl) d_L_end_4) hown (hts (.classLink R_L 19 X_A) (by decide +kernel)) ht1 (by simp only [covers, e1, e2]; decide) e4 e3 (by decide) rfl rfl (fun q H1 hsz hk => ?_)
  refine lv_astore_n (lv' := [(3, .ref q), (0, .ref x), (1, .int v), (2, .ref ou)]) hx hb d_L_end_12 rfl hl (by decide) rfl (fun ls hl => ?_)
  refine lv_iconst (v := nI 1) hx hb d_L_end_13 (by decide +kernel) ?_
  exact hret _ _ _ _ trivial (sx_J.grow hsz hk) (fun q h => by cases h) d_L_end_14
abbrev rm_L_key : Room := { frames := 8, cells := 1, slots := 6, locals := 124 }
set_option maxHeartbeats 4000000 in
set_option maxRecDepth 100000 in
theorem c_L_key {l : Launch} {D : va_G} {g : ClassId → FieldType → Prop} {H0 : Heap} {x ou : Nat} {r rt rm : Nat → Nat} {w0 : Int64}  (htr : l.stackTraces = false) (k_x : va_P D classes [(x, .inr (1, [.ref (r 0), .ref (r 1), .ref (r 2), .ref (r 3), .ref (r 4), .ref (r 5), .ref (r 6), .ref (r 7), .int (nI (0)), .int (nI (0)), .int (nI (0)), .int (nI (0))]))] H0) (k_r6 : va_P D classes [(r 6, .inr (9, [.ref (rt 0), .int (nI (0))]))] H0) (k_r7 : va_P D classes [(r 7, .inr (9, [.ref (rm 0), .int (nI (0))]))] H0) (f_rt0 : sx_A g .byte H0 (rt 0) 1024) (x_rt0 : sx_L H0 (rt 0) 1024) (f_r1 : sx_A g .byte H0 (r 1) 64) (k_ou : lo_ g H0 ou w0) (n_x_r6 : x ≠ r 6) (n_x_r7 : x ≠ r 7) (n_r6_r7 : r 6 ≠ r 7) : Met l y_L_key (.codeWith y_L_key b_L_key 3 (some .int) hh_L_key :: G_) rm_L_key (tx_Pc [.ref x, .ref ou] H0 D g) (px_Q g (fun _ => False) H0 (nI 1) (fun H => True)) 1 6 (fun _ => False) := by
  refine px_mW (own := R_L) (V := nI 1) (P := fun H => True) (by decide) rfl (Nat.le_of_ble_eq_true rfl) ?_
  intro p e s m args below meth c Q ls EE hKx ht hh hl hret
  subst hh
  obtain ⟨hx, hb, hml, hown, hts, hG, hK⟩ := id EE
  obtain ⟨x0, L0, ht1, e1, e2, e3, e4⟩ := px_row ht
  have hS : sx_S g (fun _ => False) (fun _ => False) s.heap s.heap [] := sx_S.rf
  have hl : lv_has ls 3 [(0, .ref x), (1, .ref ou)] := hl
  have h_x := k_x
  have h_r6 := k_r6
  have h_r7 := k_r7
  have l_ou := k_ou
  refine lv_aload_n hx hb d_L_key_0 rfl (lv_at hl 1 rfl) ?_
  refine lv_iconst (v := nI 0) hx hb d_L_key_1 (by decide +kernel) ?_
  refine lv_aload_n hx hb d_L_key_2 rfl (lv_at hl 0 rfl) ?_
  refine tx_catch (X := X_A) (ix := 19) (hpc := 11) (cells' := 1) (slots' := 6) (tx_runV (As := []) (rest := [.int (nI (0)), .ref ou]) EE hKx (fun _ _ => rfl) h_x rfl rfl (c_K_key htr h_x h_r6 h_r7 f_rt0 x_rt0 f_r1 n_x_r6 n_x_r7 n_r6_r7) w_L_21 rfl ⟨rfl, rfl⟩ ⟨Nat.le_of_ble_eq_true rfl, Nat.le_of_ble_eq_true rfl⟩ ⟨Nat.le_of_ble_eq_true rfl, Nat.le_of_ble_eq_true rfl⟩ hl.1 rfl (Nat.le_of_ble_eq_true rfl) d_L_key_3) hown (hts (.classLink R_L 19 X_A) (by decide +kernel)) ht1 (by simp only [covers, e1, e2]; decide) e4 e3 (by decide) rfl rfl (fun q H1 hsz hk => ?_)
  refine lv_astore_n (lv' := [(2, .ref q), (0, .ref x), (1, .ref ou)]) hx hb d_L_key_11 rfl hl (by decide) rfl (fun ls hl => ?_)
  refine lv_iconst (v := nI 1) hx hb d_L_key_12 (by decide +kernel) ?_
  exact hret _ _ _ _ trivial (sx_J.grow hsz hk) (fun q h => by cases h) d_L_key_13
abbrev rm_L_verify : Room := { frames := 8, cells := 1, slots := 6, locals := 124 }
set_option maxHeartbeats 4000000 in
set_option maxRecDepth 100000 in
theorem c_L_verify {l : Launch} {D : va_G} {g : ClassId → FieldType → Prop} {H0 : Heap} {x ou : Nat} {r rt rm : Nat → Nat} {w0 : Int64}  (htr : l.stackTraces = false) (k_x : va_P D classes [(x, .inr (1, [.ref (r 0), .ref (r 1), .ref (r 2), .ref (r 3), .ref (r 4), .ref (r 5), .ref (r 6), .ref (r 7), .int (nI (0)), .int (nI (0)), .int (nI (0)), .int (nI (0))]))] H0) (k_r6 : va_P D classes [(r 6, .inr (9, [.ref (rt 0), .int (nI (0))]))] H0) (k_r7 : va_P D classes [(r 7, .inr (9, [.ref (rm 0), .int (nI (0))]))] H0) (f_rt0 : sx_A g .byte H0 (rt 0) 1024) (x_rt0 : sx_L H0 (rt 0) 1024) (f_r1 : sx_A g .byte H0 (r 1) 64) (k_ou : lo_ g H0 ou w0) (n_x_r6 : x ≠ r 6) (n_x_r7 : x ≠ r 7) (n_r6_r7 : r 6 ≠ r 7) : Met l y_L_verify (.codeWith y_L_verify b_L_verify 3 (some .int) hh_L_verify :: G_) rm_L_verify (tx_Pc [.ref x, .ref ou] H0 D g) (px_Q g (fun _ => False) H0 (nI 1) (fun H => True)) 1 6 (fun _ => False) := by
  refine px_mW (own := R_L) (V := nI 1) (P := fun H => True) (by decide) rfl (Nat.le_of_ble_eq_true rfl) ?_
  intro p e s m args below meth c Q ls EE hKx ht hh hl hret
  subst hh
  obtain ⟨hx, hb, hml, hown, hts, hG, hK⟩ := id EE
  obtain ⟨x0, L0, ht1, e1, e2, e3, e4⟩ := px_row ht
  have hS : sx_S g (fun _ => False) (fun _ => False) s.heap s.heap [] := sx_S.rf
  have hl : lv_has ls 3 [(0, .ref x), (1, .ref ou)] := hl
  have h_x := k_x
  have h_r6 := k_r6
  have h_r7 := k_r7
  have l_ou := k_ou
  refine lv_aload_n hx hb d_L_verify_0 rfl (lv_at hl 1 rfl) ?_
  refine lv_iconst (v := nI 0) hx hb d_L_verify_1 (by decide +kernel) ?_
  refine lv_aload_n hx hb d_L_verify_2 rfl (lv_at hl 0 rfl) ?_
  refine tx_catch (X := X_A) (ix := 19) (hpc := 11) (cells' := 1) (slots' := 6) (tx_runV (As := []) (rest := [.int (nI (0)), .ref ou]) EE hKx (fun _ _ => rfl) h_x rfl rfl (c_K_verify htr h_x h_r6 h_r7 f_rt0 x_rt0 f_r1 n_x_r6 n_x_r7 n_r6_r7) w_L_39 rfl ⟨rfl, rfl⟩ ⟨Nat.le_of_ble_eq_true rfl, Nat.le_of_ble_eq_true rfl⟩ ⟨Nat.le_of_ble_eq_true rfl, Nat.le_of_ble_eq_true rfl⟩ hl.1 rfl (Nat.le_of_ble_eq_true rfl) d_L_verify_3) hown (hts (.classLink R_L 19 X_A) (by decide +kernel)) ht1 (by simp only [covers, e1, e2]; decide) e4 e3 (by decide) rfl rfl (fun q H1 hsz hk => ?_)
  refine lv_astore_n (lv' := [(2, .ref q), (0, .ref x), (1, .ref ou)]) hx hb d_L_verify_11 rfl hl (by decide) rfl (fun ls hl => ?_)
  refine lv_iconst (v := nI 1) hx hb d_L_verify_12 (by decide +kernel) ?_
  exact hret _ _ _ _ trivial (sx_J.grow hsz hk) (fun q h => by cases h) d_L_verify_13
abbrev rm_L_point : Room := { frames := 8, cells := 1, slots := 6, locals := 124 }
set_option maxHeartbeats 4000000 in
set_option maxRecDepth 100000 in
theorem c_L_point {l : Launch} {D : va_G} {g : ClassId → FieldType → Prop} {H0 : Heap} {x ou : Nat} {r rt rm : Nat → Nat} {w0 : Int64}  (htr : l.stackTraces = false) (k_x : va_P D classes [(x, .inr (1, [.ref (r 0), .ref (r 1), .ref (r 2), .ref (r 3), .ref (r 4), .ref (r 5), .ref (r 6), .ref (r 7), .int (nI (0)), .int (nI (0)), .int (nI (0)), .int (nI (0))]))] H0) (k_r6 : va_P D classes [(r 6, .inr (9, [.ref (rt 0), .int (nI (0))]))] H0) (k_r7 : va_P D classes [(r 7, .inr (9, [.ref (rm 0), .int (nI (0))]))] H0) (f_rt0 : sx_A g .byte H0 (rt 0) 1024) (x_rt0 : sx_L H0 (rt 0) 1024) (f_r1 : sx_A g .byte H0 (r 1) 64) (k_ou : lo_ g H0 ou w0) (n_x_r6 : x ≠ r 6) (n_x_r7 : x ≠ r 7) (n_r6_r7 : r 6 ≠ r 7) : Met l y_L_point (.codeWith y_L_point b_L_point 3 (some .int) hh_L_point :: G_) rm_L_point (tx_Pc [.ref x, .ref ou] H0 D g) (px_Q g (fun _ => False) H0 (nI 1) (fun H => True)) 1 6 (fun _ => False) := by
  refine px_mW (own := R_L) (V := nI 1) (P := fun H => True) (by decide) rfl (Nat.le_of_ble_eq_true rfl) ?_
  intro p e s m args below meth c Q ls EE hKx ht hh hl hret
  subst hh
  obtain ⟨hx, hb, hml, hown, hts, hG, hK⟩ := id EE
  obtain ⟨x0, L0, ht1, e1, e2, e3, e4⟩ := px_row ht
  have hS : sx_S g (fun _ => False) (fun _ => False) s.heap s.heap [] := sx_S.rf
  have hl : lv_has ls 3 [(0, .ref x), (1, .ref ou)] := hl
  have h_x := k_x
  have h_r6 := k_r6
  have h_r7 := k_r7
  have l_ou := k_ou
  refine lv_aload_n hx hb d_L_point_0 rfl (lv_at hl 1 rfl) ?_
  refine lv_iconst (v := nI 0) hx hb d_L_point_1 (by decide +kernel) ?_
  refine lv_aload_n hx hb d_L_point_2 rfl (lv_at hl 0 rfl) ?_
  refine tx_catch (X := X_A) (ix := 19) (hpc := 18) (cells' := 1) (slots' := 6) (tx_runV (As := []) (rest := [.int (nI (0)), .ref ou]) EE hKx (fun _ _ => rfl) h_x rfl rfl (c_K_point htr h_x h_r6 h_r7 f_rt0 x_rt0 f_r1 n_x_r6 n_x_r7 n_r6_r7) w_L_42 rfl ⟨rfl, rfl⟩ ⟨Nat.le_of_ble_eq_true rfl, Nat.le_of_ble_eq_true rfl⟩ ⟨Nat.le_of_ble_eq_true rfl, Nat.le_of_ble_eq_true rfl⟩ hl.1 rfl (Nat.le_of_ble_eq_true rfl) d_L_point_3) hown (hts (.classLink R_L 19 X_A) (by decide +kernel)) ht1 (by simp only [covers, e1, e2]; decide) e4 e3 (by decide) rfl rfl (fun q H1 hsz hk => ?_)
  refine lv_astore_n (lv' := [(2, .ref q), (0, .ref x), (1, .ref ou)]) hx hb d_L_point_18 rfl hl (by decide) rfl (fun ls hl => ?_)
  refine lv_iconst (v := nI 1) hx hb d_L_point_19 (by decide +kernel) ?_
  exact hret _ _ _ _ trivial (sx_J.grow hsz hk) (fun q h => by cases h) d_L_point_20
abbrev rm_L_open : Room := { frames := 8, cells := 1, slots := 6, locals := 126 }
set_option maxHeartbeats 4000000 in
set_option maxRecDepth 100000 in
theorem c_L_open {l : Launch} {D : va_G} {g : ClassId → FieldType → Prop} {H0 : Heap} {x : Nat} {r rt rm : Nat → Nat} {v w : Int32} (htr : l.stackTraces = false) (k_x : va_P D classes [(x, .inr (1, [.ref (r 0), .ref (r 1), .ref (r 2), .ref (r 3), .ref (r 4), .ref (r 5), .ref (r 6), .ref (r 7), .int (nI (0)), .int (nI (0)), .int (nI (0)), .int (nI (0))]))] H0) (k_r6 : va_P D classes [(r 6, .inr (9, [.ref (rt 0), .int (nI (0))]))] H0) (k_r7 : va_P D classes [(r 7, .inr (9, [.ref (rm 0), .int (nI (0))]))] H0) (f_rt0 : sx_A g .byte H0 (rt 0) 1024) (x_rt0 : sx_L H0 (rt 0) 1024) (f_r1 : sx_A g .byte H0 (r 1) 64) (n_x_r6 : x ≠ r 6) (n_x_r7 : x ≠ r 7) (n_r6_r7 : r 6 ≠ r 7) : Met l y_L_open (.codeWith y_L_open b_L_open 4 (some .int) hh_L_open :: G_) rm_L_open (tx_Pc [.ref x, .int v, .int w] H0 D g) (px_Q g (fun _ => False) H0 (nI 1) (fun H => True)) 1 6 (fun _ => False) := by
  refine px_mW (own := R_L) (V := nI 1) (P := fun H => True) (by decide) rfl (Nat.le_of_ble_eq_true rfl) ?_
  intro p e s m args below meth c Q ls EE hKx ht hh hl hret
  subst hh
  obtain ⟨hx, hb, hml, hown, hts, hG, hK⟩ := id EE
  obtain ⟨x0, L0, ht1, e1, e2, e3, e4⟩ := px_row ht
  have hS : sx_S g (fun _ => False) (fun _ => False) s.heap s.heap [] := sx_S.rf
  have hl : lv_has ls 4 [(0, .ref x), (1, .int v), (2, .int w)] := hl
  have h_x := k_x
  have h_r6 := k_r6
  have h_r7 := k_r7
  refine lv_aload_n hx hb d_L_open_0 rfl (lv_at hl 0 rfl) ?_
  refine lv_iload_n hx hb d_L_open_1 rfl (lv_at hl 1 rfl) ?_
  refine lv_iload_n hx hb d_L_open_2 rfl (lv_at hl 2 rfl) ?_
  refine tx_catch (X := X_N) (ix := 29) (hpc := 9) (cells' := 1) (slots' := 6) (tx_runV (As := [.int v, .int w]) (rest := []) EE hKx (fun _ _ => rfl) h_x rfl rfl (c_K_open htr h_x h_r6 h_r7 f_rt0 x_rt0 f_r1 n_x_r6 n_x_r7 n_r6_r7) w_L_25 rfl ⟨rfl, rfl⟩ ⟨Nat.le_of_ble_eq_true rfl, Nat.le_of_ble_eq_true rfl⟩ ⟨Nat.le_of_ble_eq_true rfl, Nat.le_of_ble_eq_true rfl⟩ hl.1 rfl (Nat.le_of_ble_eq_true rfl) d_L_open_3) hown (hts (.classLink R_L 29 X_N) (by decide +kernel)) ht1 (by simp only [covers, e1, e2]; decide) e4 e3 (by decide) rfl rfl (fun q H1 hsz hk => ?_)
  refine lv_astore_n (lv' := [(3, .ref q), (0, .ref x), (1, .int v), (2, .int w)]) hx hb d_L_open_9 rfl hl (by decide) rfl (fun ls hl => ?_)
  refine lv_iconst (v := nI 1) hx hb d_L_open_10 (by decide +kernel) ?_
  exact hret _ _ _ _ trivial (sx_J.grow hsz hk) (fun q h => by cases h) d_L_open_11
abbrev rm_L_agree : Room := { frames := 8, cells := 1, slots := 6, locals := 126 }
set_option maxHeartbeats 4000000 in
set_option maxRecDepth 100000 in
theorem c_L_agree {l : Launch} {D : va_G} {g : ClassId → FieldType → Prop} {H0 : Heap} {x ou : Nat} {r rt rm : Nat → Nat} {w0 : Int64} {v : Int32} (htr : l.stackTraces = false) (k_x : va_P D classes [(x, .inr (1, [.ref (r 0), .ref (r 1), .ref (r 2), .ref (r 3), .ref (r 4), .ref (r 5), .ref (r 6), .ref (r 7), .int (nI (0)), .int (nI (0)), .int (nI (0)), .int (nI (0))]))] H0) (k_r6 : va_P D classes [(r 6, .inr (9, [.ref (rt 0), .int (nI (0))]))] H0) (k_r7 : va_P D classes [(r 7, .inr (9, [.ref (rm 0), .int (nI (0))]))] H0) (f_rt0 : sx_A g .byte H0 (rt 0) 1024) (x_rt0 : sx_L H0 (rt 0) 1024) (f_r1 : sx_A g .byte H0 (r 1) 64) (k_ou : lo_ g H0 ou w0) (n_x_r6 : x ≠ r 6) (n_x_r7 : x ≠ r 7) (n_r6_r7 : r 6 ≠ r 7) : Met l y_L_agree (.codeWith y_L_agree b_L_agree 4 (some .int) hh_L_agree :: G_) rm_L_agree (tx_Pc [.ref x, .int v, .ref ou] H0 D g) (px_Q g (fun _ => False) H0 (nI 1) (fun H => True)) 1 6 (fun _ => False) := by
  refine px_mW (own := R_L) (V := nI 1) (P := fun H => True) (by decide) rfl (Nat.le_of_ble_eq_true rfl) ?_
  intro p e s m args below meth c Q ls EE hKx ht hh hl hret
  subst hh
  obtain ⟨hx, hb, hml, hown, hts, hG, hK⟩ := id EE
  obtain ⟨x0, L0, ht1, e1, e2, e3, e4⟩ := px_row ht
  have hS : sx_S g (fun _ => False) (fun _ => False) s.heap s.heap [] := sx_S.rf
  have hl : lv_has ls 4 [(0, .ref x), (1, .int v), (2, .ref ou)] := hl
  have h_x := k_x
  have h_r6 := k_r6
  have h_r7 := k_r7
  have l_ou := k_ou
  refine lv_aload_n hx hb d_L_agree_0 rfl (lv_at hl 2 rfl) ?_
  refine lv_iconst (v := nI 0) hx hb d_L_agree_1 (by decide +kernel) ?_
  refine lv_aload_n hx hb d_L_agree_2 rfl (lv_at hl 0 rfl) ?_
  refine lv_iload_n hx hb d_L_agree_3 rfl (lv_at hl 1 rfl) ?_
  refine tx_catch (X := X_N) (ix := 29) (hpc := 19) (cells' := 1) (slots' := 6) (tx_runV (As := [.int v]) (rest := [.int (nI (0)), .ref ou]) EE hKx (fun _ _ => rfl) h_x rfl rfl (c_K_agree htr h_x h_r6 h_r7 f_rt0 x_rt0 f_r1 n_x_r6 n_x_r7 n_r6_r7) w_L_31 rfl ⟨rfl, rfl⟩ ⟨Nat.le_of_ble_eq_true rfl, Nat.le_of_ble_eq_true rfl⟩ ⟨Nat.le_of_ble_eq_true rfl, Nat.le_of_ble_eq_true rfl⟩ hl.1 rfl (Nat.le_of_ble_eq_true rfl) d_L_agree_4) hown (hts (.classLink R_L 29 X_N) (by decide +kernel)) ht1 (by simp only [covers, e1, e2]; decide) e4 e3 (by decide) rfl rfl (fun q H1 hsz hk => ?_)
  refine lv_astore_n (lv' := [(3, .ref q), (0, .ref x), (1, .int v), (2, .ref ou)]) hx hb d_L_agree_19 rfl hl (by decide) rfl (fun ls hl => ?_)
  refine lv_iconst (v := nI 1) hx hb d_L_agree_20 (by decide +kernel) ?_
  exact hret _ _ _ _ trivial (sx_J.grow hsz hk) (fun q h => by cases h) d_L_agree_21
abbrev rm_L_sign : Room := { frames := 8, cells := 1, slots := 6, locals := 125 }
set_option maxHeartbeats 4000000 in
set_option maxRecDepth 100000 in
theorem c_L_sign {l : Launch} {D : va_G} {g : ClassId → FieldType → Prop} {H0 : Heap} {x : Nat} {r rt rm : Nat → Nat} {v : Int32} (htr : l.stackTraces = false) (k_x : va_P D classes [(x, .inr (1, [.ref (r 0), .ref (r 1), .ref (r 2), .ref (r 3), .ref (r 4), .ref (r 5), .ref (r 6), .ref (r 7), .int (nI (0)), .int (nI (0)), .int (nI (0)), .int (nI (0))]))] H0) (k_r6 : va_P D classes [(r 6, .inr (9, [.ref (rt 0), .int (nI (0))]))] H0) (k_r7 : va_P D classes [(r 7, .inr (9, [.ref (rm 0), .int (nI (0))]))] H0) (f_rt0 : sx_A g .byte H0 (rt 0) 1024) (x_rt0 : sx_L H0 (rt 0) 1024) (f_r1 : sx_A g .byte H0 (r 1) 64) (n_x_r6 : x ≠ r 6) (n_x_r7 : x ≠ r 7) (n_r6_r7 : r 6 ≠ r 7) : Met l y_L_sign (.codeWith y_L_sign b_L_sign 3 (some .int) hh_L_sign :: G_) rm_L_sign (tx_Pc [.ref x, .int v] H0 D g) (px_Q g (fun _ => False) H0 (nI 1) (fun H => True)) 1 6 (fun _ => False) := by
  refine px_mW (own := R_L) (V := nI 1) (P := fun H => True) (by decide) rfl (Nat.le_of_ble_eq_true rfl) ?_
  intro p e s m args below meth c Q ls EE hKx ht hh hl hret
  subst hh
  obtain ⟨hx, hb, hml, hown, hts, hG, hK⟩ := id EE
  obtain ⟨x0, L0, ht1, e1, e2, e3, e4⟩ := px_row ht
  have hS : sx_S g (fun _ => False) (fun _ => False) s.heap s.heap [] := sx_S.rf
  have hl : lv_has ls 3 [(0, .ref x), (1, .int v)] := hl
  have h_x := k_x
  have h_r6 := k_r6
  have h_r7 := k_r7
  refine lv_aload_n hx hb d_L_sign_0 rfl (lv_at hl 0 rfl) ?_
  refine lv_iload_n hx hb d_L_sign_1 rfl (lv_at hl 1 rfl) ?_
  refine tx_catch (X := X_N) (ix := 29) (hpc := 8) (cells' := 1) (slots' := 6) (tx_runV (As := [.int v]) (rest := []) EE hKx (fun _ _ => rfl) h_x rfl rfl (c_K_sign htr h_x h_r6 h_r7 f_rt0 x_rt0 f_r1 n_x_r6 n_x_r7 n_r6_r7) w_L_35 rfl ⟨rfl, rfl⟩ ⟨Nat.le_of_ble_eq_true rfl, Nat.le_of_ble_eq_true rfl⟩ ⟨Nat.le_of_ble_eq_true rfl, Nat.le_of_ble_eq_true rfl⟩ hl.1 rfl (Nat.le_of_ble_eq_true rfl) d_L_sign_2) hown (hts (.classLink R_L 29 X_N) (by decide +kernel)) ht1 (by simp only [covers, e1, e2]; decide) e4 e3 (by decide) rfl rfl (fun q H1 hsz hk => ?_)
  refine lv_astore_n (lv' := [(2, .ref q), (0, .ref x), (1, .int v)]) hx hb d_L_sign_8 rfl hl (by decide) rfl (fun ls hl => ?_)
  refine lv_iconst (v := nI 1) hx hb d_L_sign_9 (by decide +kernel) ?_
  exact hret _ _ _ _ trivial (sx_J.grow hsz hk) (fun q h => by cases h) d_L_sign_10
abbrev rm_L_back : Room := { frames := 7, cells := 1, slots := 6, locals := 105 }
set_option maxHeartbeats 4000000 in
set_option maxRecDepth 100000 in
theorem c_L_back {l : Launch} {D : va_G} {g : ClassId → FieldType → Prop} {H0 : Heap} {x ou : Nat} {r rt rm : Nat → Nat} {w0 : Int64} {v w : Int32} (htr : l.stackTraces = false) (k_x : va_P D classes [(x, .inr (1, [.ref (r 0), .ref (r 1), .ref (r 2), .ref (r 3), .ref (r 4), .ref (r 5), .ref (r 6), .ref (r 7), .int (nI (0)), .int (nI (0)), .int (nI (0)), .int (nI (0))]))] H0) (k_r6 : va_P D classes [(r 6, .inr (9, [.ref (rt 0), .int (nI (0))]))] H0) (k_r7 : va_P D classes [(r 7, .inr (9, [.ref (rm 0), .int (nI (0))]))] H0) (f_rt0 : sx_A g .byte H0 (rt 0) 1024) (x_rt0 : sx_L H0 (rt 0) 1024) (f_r1 : sx_A g .byte H0 (r 1) 64) (k_ou : lo_ g H0 ou w0) (n_x_r6 : x ≠ r 6) (n_x_r7 : x ≠ r 7) (n_r6_r7 : r 6 ≠ r 7) (y0 : v ≠ -1) : Met l y_L_back (.codeWith y_L_back b_L_back 5 (some .int) hh_L_back :: G_) rm_L_back (tx_Pc [.ref x, .int v, .int w, .ref ou] H0 D g) (px_Q g (fun _ => False) H0 (nI 1) (fun H => True)) 1 6 (fun _ => False) := by
  refine px_mW (own := R_L) (V := nI 1) (P := fun H => True) (by decide) rfl (Nat.le_of_ble_eq_true rfl) ?_
  intro p e s m args below meth c Q ls EE hKx ht hh hl hret
  subst hh
  obtain ⟨hx, hb, hml, hown, hts, hG, hK⟩ := id EE
  obtain ⟨x0, L0, ht1, e1, e2, e3, e4⟩ := px_row ht
  have hS : sx_S g (fun _ => False) (fun _ => False) s.heap s.heap [] := sx_S.rf
  have hl : lv_has ls 5 [(0, .ref x), (1, .int v), (2, .int w), (3, .ref ou)] := hl
  have h_x := k_x
  have h_r6 := k_r6
  have h_r7 := k_r7
  have l_ou := k_ou
  refine lv_aload_n hx hb d_L_back_0 rfl (lv_at hl 3 rfl) ?_
  refine lv_iconst (v := nI 0) hx hb d_L_back_1 (by decide +kernel) ?_
  refine lv_aload_n hx hb d_L_back_2 rfl (lv_at hl 0 rfl) ?_
  refine lv_iload_n hx hb d_L_back_3 rfl (lv_at hl 1 rfl) ?_
  refine lv_iload_n hx hb d_L_back_4 rfl (lv_at hl 2 rfl) ?_
  refine tx_catch (X := X_I) (ix := 50) (hpc := 13) (cells' := 1) (slots' := 6) (tx_runV (As := [.int v, .int w]) (rest := [.int (nI (0)), .ref ou]) EE hKx (fun _ _ => rfl) h_x rfl rfl (c_K_back htr h_x h_r6 h_r7 f_rt0 x_rt0 f_r1 n_x_r6 n_x_r7 n_r6_r7 y0) w_L_46 rfl ⟨rfl, rfl⟩ ⟨Nat.le_of_ble_eq_true rfl, Nat.le_of_ble_eq_true rfl⟩ ⟨Nat.le_of_ble_eq_true rfl, Nat.le_of_ble_eq_true rfl⟩ hl.1 rfl (Nat.le_of_ble_eq_true rfl) d_L_back_5) hown (hts (.classLink R_L 50 X_I) (by decide +kernel)) ht1 (by simp only [covers, e1, e2]; decide) e4 e3 (by decide) rfl rfl (fun q H1 hsz hk => ?_)
  refine lv_astore (lv' := [(4, .ref q), (0, .ref x), (1, .int v), (2, .int w), (3, .ref ou)]) hx hb d_L_back_13 hl (by decide) rfl (fun ls hl => ?_)
  refine lv_iconst (v := nI 1) hx hb d_L_back_15 (by decide +kernel) ?_
  exact hret _ _ _ _ trivial (sx_J.grow hsz hk) (fun q h => by cases h) d_L_back_16
abbrev rm_L_result : Room := { frames := 7, cells := 1, slots := 6, locals := 103 }
set_option maxHeartbeats 4000000 in
set_option maxRecDepth 100000 in
theorem c_L_result {l : Launch} {D : va_G} {g : ClassId → FieldType → Prop} {H0 : Heap} {x ou : Nat} {r rt rm : Nat → Nat} {w0 : Int64} {v : Int32} (htr : l.stackTraces = false) (k_x : va_P D classes [(x, .inr (1, [.ref (r 0), .ref (r 1), .ref (r 2), .ref (r 3), .ref (r 4), .ref (r 5), .ref (r 6), .ref (r 7), .int (nI (0)), .int (nI (0)), .int (nI (0)), .int (nI (0))]))] H0) (k_r6 : va_P D classes [(r 6, .inr (9, [.ref (rt 0), .int (nI (0))]))] H0) (k_r7 : va_P D classes [(r 7, .inr (9, [.ref (rm 0), .int (nI (0))]))] H0) (f_rt0 : sx_A g .byte H0 (rt 0) 1024) (x_rt0 : sx_L H0 (rt 0) 1024) (f_r1 : sx_A g .byte H0 (r 1) 64) (k_ou : lo_ g H0 ou w0) (n_x_r6 : x ≠ r 6) (n_x_r7 : x ≠ r 7) (n_r6_r7 : r 6 ≠ r 7) : Met l y_L_result (.codeWith y_L_result b_L_result 4 (some .int) hh_L_result :: G_) rm_L_result (tx_Pc [.ref x, .int v, .ref ou] H0 D g) (px_Q g (fun _ => False) H0 (nI 1) (fun H => True)) 1 6 (fun _ => False) := by
  refine px_mW (own := R_L) (V := nI 1) (P := fun H => True) (by decide) rfl (Nat.le_of_ble_eq_true rfl) ?_
  intro p e s m args below meth c Q ls EE hKx ht hh hl hret
  subst hh
  obtain ⟨hx, hb, hml, hown, hts, hG, hK⟩ := id EE
  obtain ⟨x0, L0, ht1, e1, e2, e3, e4⟩ := px_row ht
  have hS : sx_S g (fun _ => False) (fun _ => False) s.heap s.heap [] := sx_S.rf
  have hl : lv_has ls 4 [(0, .ref x), (1, .int v), (2, .ref ou)] := hl
  have h_x := k_x
  have h_r6 := k_r6
  have h_r7 := k_r7
  have l_ou := k_ou
  refine lv_aload_n hx hb d_L_result_0 rfl (lv_at hl 2 rfl) ?_
  refine lv_iconst (v := nI 0) hx hb d_L_result_1 (by decide +kernel) ?_
  refine lv_aload_n hx hb d_L_result_2 rfl (lv_at hl 0 rfl) ?_
  refine lv_iload_n hx hb d_L_result_3 rfl (lv_at hl 1 rfl) ?_
  refine tx_catch (X := X_I) (ix := 50) (hpc := 12) (cells' := 1) (slots' := 6) (tx_runV (As := [.int v]) (rest := [.int (nI (0)), .ref ou]) EE hKx (fun _ _ => rfl) h_x rfl rfl (c_K_result htr h_x h_r6 h_r7 f_rt0 x_rt0 f_r1 n_x_r6 n_x_r7 n_r6_r7) w_L_52 rfl ⟨rfl, rfl⟩ ⟨Nat.le_of_ble_eq_true rfl, Nat.le_of_ble_eq_true rfl⟩ ⟨Nat.le_of_ble_eq_true rfl, Nat.le_of_ble_eq_true rfl⟩ hl.1 rfl (Nat.le_of_ble_eq_true rfl) d_L_result_4) hown (hts (.classLink R_L 50 X_I) (by decide +kernel)) ht1 (by simp only [covers, e1, e2]; decide) e4 e3 (by decide) rfl rfl (fun q H1 hsz hk => ?_)
  refine lv_astore_n (lv' := [(3, .ref q), (0, .ref x), (1, .int v), (2, .ref ou)]) hx hb d_L_result_12 rfl hl (by decide) rfl (fun ls hl => ?_)
  refine lv_iconst (v := nI 1) hx hb d_L_result_13 (by decide +kernel) ?_
  exact hret _ _ _ _ trivial (sx_J.grow hsz hk) (fun q h => by cases h) d_L_result_14
