abbrev rm_K_requireTape : Room := { frames := 6, cells := 1, slots := 6, locals := 82 }
set_option maxHeartbeats 4000000 in
set_option maxRecDepth 100000 in
theorem c_K_requireTape {l : Launch} {D : va_G} {g : ClassId → FieldType → Prop} {H0 : Heap} {x : Nat} {r rt rm : Nat → Nat} {n : Nat} (htr : l.stackTraces = false) (k_x : va_P D classes [(x, .inr (1, [.ref (r 0), .ref (r 1), .ref (r 2), .ref (r 3), .ref (r 4), .ref (r 5), .ref (r 6), .ref (r 7), .int (nI (0)), .int (nI (0)), .int (nI (0)), .int (nI (0))]))] H0) (k_r6 : va_P D classes [(r 6, .inr (9, [.ref (rt 0), .int (nI (0))]))] H0) (k_r7 : va_P D classes [(r 7, .inr (9, [.ref (rm 0), .int (nI (0))]))] H0) (f_rt0 : sx_A g .byte H0 (rt 0) 1024) (x_rt0 : sx_L H0 (rt 0) 1024) (f_r1 : sx_A g .byte H0 (r 1) 64) (n_x_r6 : x ≠ r 6) (n_x_r7 : x ≠ r 7) (n_r6_r7 : r 6 ≠ r 7) (y0 : 0 < n ∧ n < 1000) : MetT l y_K_requireTape (.code y_K_requireTape b_K_requireTape 2 none :: G_) rm_K_requireTape (tx_Pc [.ref x, .int (nI (n))] H0 D g) (tx_T X_A) 1 6 (fun _ => False) := by
  refine tx_m (own := R_K) (by decide) rfl (Nat.le_of_ble_eq_true rfl) ?_
  intro p e s m args below meth c ls EE hKx hno hlk hh hl
  subst hh
  obtain ⟨hx, hb, hml, hown, hts, hG, hK⟩ := id EE
  have hS : sx_S g (fun _ => False) (fun _ => False) s.heap s.heap [] := sx_S.rf
  have hl : lv_has ls 2 [(0, .ref x), (1, .int (nI (n)))] := hl
  have h_x := k_x
  have h_r6 := k_r6
  have h_r7 := k_r7
  refine lv_aload_n hx hb d_K_requireTape_0 rfl (lv_at hl 0 rfl) ?_
  refine sx_get (v := .ref (r 6)) EE h_x rfl i_K 6 (by decide) rfl fl_K_54 rfl d_K_requireTape_1 ?_
  refine sx_getN (v := .int (nI (0))) EE h_r6 rfl i_Ro 1 (by decide) rfl fn_K_76 rfl d_K_requireTape_4 ?_
  refine lv_iload_n hx hb d_K_requireTape_7 rfl (lv_at hl 1 rfl) ?_
  refine lv_icmp_eq (tgt := 21) hx hb d_K_requireTape_8 (by decide) (fun q => absurd q (fun z => absurd ((nI_eq (a := 0) (b := n) (by omega) (by omega)).mp z) (by omega))) (fun _ => ?_)
  exact tx_row (X := X_A) (tx := "the tape has another length") (inew := 80) (itx := 171) (ic := 84) (ix := 7) (rx := tx_b7) EE hKx htr hno hlk (fun w h => List.mem_append_left _ h) tn_80 (by decide +kernel) (by decide +kernel) (by decide +kernel) (by decide +kernel) (by decide +kernel) (by decide +kernel) d_K_requireTape_11 d_K_requireTape_14 d_K_requireTape_15 d_K_requireTape_17 d_K_requireTape_20 hl.1 ⟨Nat.le_of_ble_eq_true rfl, Nat.le_of_ble_eq_true rfl, Nat.le_of_ble_eq_true rfl, Nat.le_of_ble_eq_true rfl⟩
abbrev rm_K_existingKey : Room := { frames := 6, cells := 1, slots := 6, locals := 82 }
set_option maxHeartbeats 4000000 in
set_option maxRecDepth 100000 in
theorem c_K_existingKey {l : Launch} {D : va_G} {g : ClassId → FieldType → Prop} {H0 : Heap} {x : Nat} {r rt rm : Nat → Nat} {v : Int32} (htr : l.stackTraces = false) (k_x : va_P D classes [(x, .inr (1, [.ref (r 0), .ref (r 1), .ref (r 2), .ref (r 3), .ref (r 4), .ref (r 5), .ref (r 6), .ref (r 7), .int (nI (0)), .int (nI (0)), .int (nI (0)), .int (nI (0))]))] H0) (k_r6 : va_P D classes [(r 6, .inr (9, [.ref (rt 0), .int (nI (0))]))] H0) (k_r7 : va_P D classes [(r 7, .inr (9, [.ref (rm 0), .int (nI (0))]))] H0) (f_rt0 : sx_A g .byte H0 (rt 0) 1024) (x_rt0 : sx_L H0 (rt 0) 1024) (f_r1 : sx_A g .byte H0 (r 1) 64) (n_x_r6 : x ≠ r 6) (n_x_r7 : x ≠ r 7) (n_r6_r7 : r 6 ≠ r 7) : MetT l y_K_existingKey (.code y_K_existingKey b_K_existingKey 2 (some (.object "CurveKeys$Key")) :: G_) rm_K_existingKey (tx_Pc [.ref x, .int v] H0 D g) (tx_T X_N) 1 6 (fun _ => False) := by
  refine tx_m (own := R_K) (by decide) rfl (Nat.le_of_ble_eq_true rfl) ?_
  intro p e s m args below meth c ls EE hKx hno hlk hh hl
  subst hh
  obtain ⟨hx, hb, hml, hown, hts, hG, hK⟩ := id EE
  have hS : sx_S g (fun _ => False) (fun _ => False) s.heap s.heap [] := sx_S.rf
  have hl : lv_has ls 2 [(0, .ref x), (1, .int v)] := hl
  have h_x := k_x
  have h_r6 := k_r6
  have h_r7 := k_r7
  refine lv_iload_n hx hb d_K_existingKey_0 rfl (lv_at hl 1 rfl) ?_
  refine lv_if_lt (tgt := 12) hx hb d_K_existingKey_1 (by decide) (fun q1 => ?_) (fun q1 => ?_)
  · skip
    exact tx_row (X := X_N) (tx := "no such key") (inew := 166) (itx := 168) (ic := 170) (ix := 13) (rx := tx_b13) EE hKx htr hno hlk (fun w h => List.mem_append_right _ (List.mem_append_right _ h)) tn_166 (by decide +kernel) (by decide +kernel) (by decide +kernel) (by decide +kernel) (by decide +kernel) (by decide +kernel) d_K_existingKey_12 d_K_existingKey_15 d_K_existingKey_16 d_K_existingKey_18 d_K_existingKey_21 hl.1 ⟨Nat.le_of_ble_eq_true rfl, Nat.le_of_ble_eq_true rfl, Nat.le_of_ble_eq_true rfl, Nat.le_of_ble_eq_true rfl⟩
  · skip
    refine lv_iload_n hx hb d_K_existingKey_4 rfl (lv_at hl 1 rfl) ?_
    refine lv_aload_n hx hb d_K_existingKey_5 rfl (lv_at hl 0 rfl) ?_
    refine sx_get (v := .int (nI (0))) EE h_x rfl i_K 8 (by decide) rfl fl_K_88 rfl d_K_existingKey_6 ?_
    refine lv_icmp_lt (tgt := 22) hx hb d_K_existingKey_9 (by decide) (fun q => absurd q q1) (fun _ => ?_)
    exact tx_row (X := X_N) (tx := "no such key") (inew := 166) (itx := 168) (ic := 170) (ix := 13) (rx := tx_b13) EE hKx htr hno hlk (fun w h => List.mem_append_right _ (List.mem_append_right _ h)) tn_166 (by decide +kernel) (by decide +kernel) (by decide +kernel) (by decide +kernel) (by decide +kernel) (by decide +kernel) d_K_existingKey_12 d_K_existingKey_15 d_K_existingKey_16 d_K_existingKey_18 d_K_existingKey_21 hl.1 ⟨Nat.le_of_ble_eq_true rfl, Nat.le_of_ble_eq_true rfl, Nat.le_of_ble_eq_true rfl, Nat.le_of_ble_eq_true rfl⟩
abbrev rm_K_end : Room := { frames := 6, cells := 1, slots := 6, locals := 82 }
set_option maxHeartbeats 4000000 in
set_option maxRecDepth 100000 in
theorem c_K_end {l : Launch} {D : va_G} {g : ClassId → FieldType → Prop} {H0 : Heap} {x : Nat} {r rt rm : Nat → Nat} {v : Int32} (htr : l.stackTraces = false) (k_x : va_P D classes [(x, .inr (1, [.ref (r 0), .ref (r 1), .ref (r 2), .ref (r 3), .ref (r 4), .ref (r 5), .ref (r 6), .ref (r 7), .int (nI (0)), .int (nI (0)), .int (nI (0)), .int (nI (0))]))] H0) (k_r6 : va_P D classes [(r 6, .inr (9, [.ref (rt 0), .int (nI (0))]))] H0) (k_r7 : va_P D classes [(r 7, .inr (9, [.ref (rm 0), .int (nI (0))]))] H0) (f_rt0 : sx_A g .byte H0 (rt 0) 1024) (x_rt0 : sx_L H0 (rt 0) 1024) (f_r1 : sx_A g .byte H0 (r 1) 64) (n_x_r6 : x ≠ r 6) (n_x_r7 : x ≠ r 7) (n_r6_r7 : r 6 ≠ r 7) (y0 : v ≠ 0) : MetT l y_K_end (.code y_K_end b_K_end 2 (some .int) :: G_) rm_K_end (tx_Pc [.ref x, .int v] H0 D g) (tx_T X_A) 1 6 (fun _ => False) := by
  refine tx_m (own := R_K) (by decide) rfl (Nat.le_of_ble_eq_true rfl) ?_
  intro p e s m args below meth c ls EE hKx hno hlk hh hl
  subst hh
  obtain ⟨hx, hb, hml, hown, hts, hG, hK⟩ := id EE
  have hS : sx_S g (fun _ => False) (fun _ => False) s.heap s.heap [] := sx_S.rf
  have hl : lv_has ls 2 [(0, .ref x), (1, .int v)] := hl
  have h_x := k_x
  have h_r6 := k_r6
  have h_r7 := k_r7
  refine lv_iload_n hx hb d_K_end_0 rfl (lv_at hl 1 rfl) ?_
  refine lv_if_lt (tgt := 15) hx hb d_K_end_1 (by decide) (fun q1 => ?_) (fun q1 => ?_)
  · skip
    exact tx_row (X := X_A) (tx := "the tape has not so many bytes") (inew := 80) (itx := 82) (ic := 84) (ix := 7) (rx := tx_b7) EE hKx htr hno hlk (fun w h => List.mem_append_left _ h) tn_80 (by decide +kernel) (by decide +kernel) (by decide +kernel) (by decide +kernel) (by decide +kernel) (by decide +kernel) d_K_end_15 d_K_end_18 d_K_end_19 d_K_end_21 d_K_end_24 hl.1 ⟨Nat.le_of_ble_eq_true rfl, Nat.le_of_ble_eq_true rfl, Nat.le_of_ble_eq_true rfl, Nat.le_of_ble_eq_true rfl⟩
  · skip
    refine lv_iload_n hx hb d_K_end_4 rfl (lv_at hl 1 rfl) ?_
    refine lv_aload_n hx hb d_K_end_5 rfl (lv_at hl 0 rfl) ?_
    refine sx_get (v := .ref (r 6)) EE h_x rfl i_K 6 (by decide) rfl fl_K_54 rfl d_K_end_6 ?_
    refine sx_getN (v := .int (nI (0))) EE h_r6 rfl i_Ro 1 (by decide) rfl fn_K_76 rfl d_K_end_9 ?_
    refine lv_icmp_le (tgt := 25) hx hb d_K_end_12 (by decide) (fun q => absurd q (fun z => y0 (Int32.le_antisymm z (Int32.not_lt.mp q1)))) (fun _ => ?_)
    exact tx_row (X := X_A) (tx := "the tape has not so many bytes") (inew := 80) (itx := 82) (ic := 84) (ix := 7) (rx := tx_b7) EE hKx htr hno hlk (fun w h => List.mem_append_left _ h) tn_80 (by decide +kernel) (by decide +kernel) (by decide +kernel) (by decide +kernel) (by decide +kernel) (by decide +kernel) d_K_end_15 d_K_end_18 d_K_end_19 d_K_end_21 d_K_end_24 hl.1 ⟨Nat.le_of_ble_eq_true rfl, Nat.le_of_ble_eq_true rfl, Nat.le_of_ble_eq_true rfl, Nat.le_of_ble_eq_true rfl⟩
abbrev rm_K_key : Room := { frames := 7, cells := 1, slots := 6, locals := 103 }
set_option maxHeartbeats 4000000 in
set_option maxRecDepth 100000 in
theorem c_K_key {l : Launch} {D : va_G} {g : ClassId → FieldType → Prop} {H0 : Heap} {x : Nat} {r rt rm : Nat → Nat} (htr : l.stackTraces = false) (k_x : va_P D classes [(x, .inr (1, [.ref (r 0), .ref (r 1), .ref (r 2), .ref (r 3), .ref (r 4), .ref (r 5), .ref (r 6), .ref (r 7), .int (nI (0)), .int (nI (0)), .int (nI (0)), .int (nI (0))]))] H0) (k_r6 : va_P D classes [(r 6, .inr (9, [.ref (rt 0), .int (nI (0))]))] H0) (k_r7 : va_P D classes [(r 7, .inr (9, [.ref (rm 0), .int (nI (0))]))] H0) (f_rt0 : sx_A g .byte H0 (rt 0) 1024) (x_rt0 : sx_L H0 (rt 0) 1024) (f_r1 : sx_A g .byte H0 (r 1) 64) (n_x_r6 : x ≠ r 6) (n_x_r7 : x ≠ r 7) (n_r6_r7 : r 6 ≠ r 7) : MetT l y_K_key (.code y_K_key b_K_key 2 (some .int) :: G_) rm_K_key (tx_Pc [.ref x] H0 D g) (tx_T X_A) 1 6 (fun _ => False) := by
  refine tx_m (own := R_K) (by decide) rfl (Nat.le_of_ble_eq_true rfl) ?_
  intro p e s m args below meth c ls EE hKx hno hlk hh hl
  subst hh
  obtain ⟨hx, hb, hml, hown, hts, hG, hK⟩ := id EE
  have hS : sx_S g (fun _ => False) (fun _ => False) s.heap s.heap [] := sx_S.rf
  have hl : lv_has ls 2 [(0, .ref x)] := hl
  have h_x := k_x
  have h_r6 := k_r6
  have h_r7 := k_r7
  refine lv_aload_n hx hb d_K_key_0 rfl (lv_at hl 0 rfl) ?_
  refine lv_bipush (v := nI 32) hx hb d_K_key_1 (by decide +kernel) ?_
  exact tx_prop (tx_runV (As := [.int (nI (32))]) (rest := []) EE hKx (fun _ _ => rfl) h_x rfl rfl (c_K_requireTape htr h_x h_r6 h_r7 (hS.a f_rt0) (hS.1.2.2.2 _ _ x_rt0) (hS.a f_r1) n_x_r6 n_x_r7 n_r6_r7 (by omega)) w_K_85 rfl ⟨rfl, rfl⟩ ⟨Nat.le_of_ble_eq_true rfl, Nat.le_of_ble_eq_true rfl⟩ ⟨Nat.le_of_ble_eq_true rfl, Nat.le_of_ble_eq_true rfl⟩ hl.1 rfl (Nat.le_of_ble_eq_true rfl) d_K_key_3) hno hlk rfl rfl
abbrev rm_K_verify : Room := { frames := 7, cells := 1, slots := 6, locals := 103 }
set_option maxHeartbeats 4000000 in
set_option maxRecDepth 100000 in
theorem c_K_verify {l : Launch} {D : va_G} {g : ClassId → FieldType → Prop} {H0 : Heap} {x : Nat} {r rt rm : Nat → Nat} (htr : l.stackTraces = false) (k_x : va_P D classes [(x, .inr (1, [.ref (r 0), .ref (r 1), .ref (r 2), .ref (r 3), .ref (r 4), .ref (r 5), .ref (r 6), .ref (r 7), .int (nI (0)), .int (nI (0)), .int (nI (0)), .int (nI (0))]))] H0) (k_r6 : va_P D classes [(r 6, .inr (9, [.ref (rt 0), .int (nI (0))]))] H0) (k_r7 : va_P D classes [(r 7, .inr (9, [.ref (rm 0), .int (nI (0))]))] H0) (f_rt0 : sx_A g .byte H0 (rt 0) 1024) (x_rt0 : sx_L H0 (rt 0) 1024) (f_r1 : sx_A g .byte H0 (r 1) 64) (n_x_r6 : x ≠ r 6) (n_x_r7 : x ≠ r 7) (n_r6_r7 : r 6 ≠ r 7) : MetT l y_K_verify (.code y_K_verify b_K_verify 2 (some .int) :: G_) rm_K_verify (tx_Pc [.ref x] H0 D g) (tx_T X_A) 1 6 (fun _ => False) := by
  refine tx_m (own := R_K) (by decide) rfl (Nat.le_of_ble_eq_true rfl) ?_
  intro p e s m args below meth c ls EE hKx hno hlk hh hl
  subst hh
  obtain ⟨hx, hb, hml, hown, hts, hG, hK⟩ := id EE
  have hS : sx_S g (fun _ => False) (fun _ => False) s.heap s.heap [] := sx_S.rf
  have hl : lv_has ls 2 [(0, .ref x)] := hl
  have h_x := k_x
  have h_r6 := k_r6
  have h_r7 := k_r7
  refine lv_aload_n hx hb d_K_verify_0 rfl (lv_at hl 0 rfl) ?_
  refine lv_bipush (v := nI 96) hx hb d_K_verify_1 (by decide +kernel) ?_
  exact tx_prop (tx_runV (As := [.int (nI (96))]) (rest := []) EE hKx (fun _ _ => rfl) h_x rfl rfl (c_K_requireTape htr h_x h_r6 h_r7 (hS.a f_rt0) (hS.1.2.2.2 _ _ x_rt0) (hS.a f_r1) n_x_r6 n_x_r7 n_r6_r7 (by omega)) w_K_85 rfl ⟨rfl, rfl⟩ ⟨Nat.le_of_ble_eq_true rfl, Nat.le_of_ble_eq_true rfl⟩ ⟨Nat.le_of_ble_eq_true rfl, Nat.le_of_ble_eq_true rfl⟩ hl.1 rfl (Nat.le_of_ble_eq_true rfl) d_K_verify_3) hno hlk rfl rfl
abbrev rm_K_point : Room := { frames := 7, cells := 1, slots := 6, locals := 103 }
set_option maxHeartbeats 4000000 in
set_option maxRecDepth 100000 in
theorem c_K_point {l : Launch} {D : va_G} {g : ClassId → FieldType → Prop} {H0 : Heap} {x : Nat} {r rt rm : Nat → Nat} (htr : l.stackTraces = false) (k_x : va_P D classes [(x, .inr (1, [.ref (r 0), .ref (r 1), .ref (r 2), .ref (r 3), .ref (r 4), .ref (r 5), .ref (r 6), .ref (r 7), .int (nI (0)), .int (nI (0)), .int (nI (0)), .int (nI (0))]))] H0) (k_r6 : va_P D classes [(r 6, .inr (9, [.ref (rt 0), .int (nI (0))]))] H0) (k_r7 : va_P D classes [(r 7, .inr (9, [.ref (rm 0), .int (nI (0))]))] H0) (f_rt0 : sx_A g .byte H0 (rt 0) 1024) (x_rt0 : sx_L H0 (rt 0) 1024) (f_r1 : sx_A g .byte H0 (r 1) 64) (n_x_r6 : x ≠ r 6) (n_x_r7 : x ≠ r 7) (n_r6_r7 : r 6 ≠ r 7) : MetT l y_K_point (.code y_K_point b_K_point 2 (some .boolean) :: G_) rm_K_point (tx_Pc [.ref x] H0 D g) (tx_T X_A) 1 6 (fun _ => False) := by
  refine tx_m (own := R_K) (by decide) rfl (Nat.le_of_ble_eq_true rfl) ?_
  intro p e s m args below meth c ls EE hKx hno hlk hh hl
  subst hh
  obtain ⟨hx, hb, hml, hown, hts, hG, hK⟩ := id EE
  have hS : sx_S g (fun _ => False) (fun _ => False) s.heap s.heap [] := sx_S.rf
  have hl : lv_has ls 2 [(0, .ref x)] := hl
  have h_x := k_x
  have h_r6 := k_r6
  have h_r7 := k_r7
  refine lv_aload_n hx hb d_K_point_0 rfl (lv_at hl 0 rfl) ?_
  refine lv_bipush (v := nI 32) hx hb d_K_point_1 (by decide +kernel) ?_
  exact tx_prop (tx_runV (As := [.int (nI (32))]) (rest := []) EE hKx (fun _ _ => rfl) h_x rfl rfl (c_K_requireTape htr h_x h_r6 h_r7 (hS.a f_rt0) (hS.1.2.2.2 _ _ x_rt0) (hS.a f_r1) n_x_r6 n_x_r7 n_r6_r7 (by omega)) w_K_85 rfl ⟨rfl, rfl⟩ ⟨Nat.le_of_ble_eq_true rfl, Nat.le_of_ble_eq_true rfl⟩ ⟨Nat.le_of_ble_eq_true rfl, Nat.le_of_ble_eq_true rfl⟩ hl.1 rfl (Nat.le_of_ble_eq_true rfl) d_K_point_3) hno hlk rfl rfl
abbrev rm_K_open : Room := { frames := 7, cells := 1, slots := 6, locals := 103 }
set_option maxHeartbeats 4000000 in
set_option maxRecDepth 100000 in
theorem c_K_open {l : Launch} {D : va_G} {g : ClassId → FieldType → Prop} {H0 : Heap} {x : Nat} {r rt rm : Nat → Nat} {v w : Int32} (htr : l.stackTraces = false) (k_x : va_P D classes [(x, .inr (1, [.ref (r 0), .ref (r 1), .ref (r 2), .ref (r 3), .ref (r 4), .ref (r 5), .ref (r 6), .ref (r 7), .int (nI (0)), .int (nI (0)), .int (nI (0)), .int (nI (0))]))] H0) (k_r6 : va_P D classes [(r 6, .inr (9, [.ref (rt 0), .int (nI (0))]))] H0) (k_r7 : va_P D classes [(r 7, .inr (9, [.ref (rm 0), .int (nI (0))]))] H0) (f_rt0 : sx_A g .byte H0 (rt 0) 1024) (x_rt0 : sx_L H0 (rt 0) 1024) (f_r1 : sx_A g .byte H0 (r 1) 64) (n_x_r6 : x ≠ r 6) (n_x_r7 : x ≠ r 7) (n_r6_r7 : r 6 ≠ r 7) : MetT l y_K_open (.code y_K_open b_K_open 4 none :: G_) rm_K_open (tx_Pc [.ref x, .int v, .int w] H0 D g) (tx_T X_N) 1 6 (fun _ => False) := by
  refine tx_m (own := R_K) (by decide) rfl (Nat.le_of_ble_eq_true rfl) ?_
  intro p e s m args below meth c ls EE hKx hno hlk hh hl
  subst hh
  obtain ⟨hx, hb, hml, hown, hts, hG, hK⟩ := id EE
  have hS : sx_S g (fun _ => False) (fun _ => False) s.heap s.heap [] := sx_S.rf
  have hl : lv_has ls 4 [(0, .ref x), (1, .int v), (2, .int w)] := hl
  have h_x := k_x
  have h_r6 := k_r6
  have h_r7 := k_r7
  refine lv_aload_n hx hb d_K_open_0 rfl (lv_at hl 0 rfl) ?_
  refine lv_iload_n hx hb d_K_open_1 rfl (lv_at hl 1 rfl) ?_
  exact tx_prop (tx_runV (As := [.int v]) (rest := []) EE hKx (fun _ _ => rfl) h_x rfl rfl (c_K_existingKey htr h_x h_r6 h_r7 (hS.a f_rt0) (hS.1.2.2.2 _ _ x_rt0) (hS.a f_r1) n_x_r6 n_x_r7 n_r6_r7) w_K_106 rfl ⟨rfl, rfl⟩ ⟨Nat.le_of_ble_eq_true rfl, Nat.le_of_ble_eq_true rfl⟩ ⟨Nat.le_of_ble_eq_true rfl, Nat.le_of_ble_eq_true rfl⟩ hl.1 rfl (Nat.le_of_ble_eq_true rfl) d_K_open_2) hno hlk rfl rfl
abbrev rm_K_agree : Room := { frames := 7, cells := 1, slots := 6, locals := 103 }
set_option maxHeartbeats 4000000 in
set_option maxRecDepth 100000 in
theorem c_K_agree {l : Launch} {D : va_G} {g : ClassId → FieldType → Prop} {H0 : Heap} {x : Nat} {r rt rm : Nat → Nat} {v : Int32} (htr : l.stackTraces = false) (k_x : va_P D classes [(x, .inr (1, [.ref (r 0), .ref (r 1), .ref (r 2), .ref (r 3), .ref (r 4), .ref (r 5), .ref (r 6), .ref (r 7), .int (nI (0)), .int (nI (0)), .int (nI (0)), .int (nI (0))]))] H0) (k_r6 : va_P D classes [(r 6, .inr (9, [.ref (rt 0), .int (nI (0))]))] H0) (k_r7 : va_P D classes [(r 7, .inr (9, [.ref (rm 0), .int (nI (0))]))] H0) (f_rt0 : sx_A g .byte H0 (rt 0) 1024) (x_rt0 : sx_L H0 (rt 0) 1024) (f_r1 : sx_A g .byte H0 (r 1) 64) (n_x_r6 : x ≠ r 6) (n_x_r7 : x ≠ r 7) (n_r6_r7 : r 6 ≠ r 7) : MetT l y_K_agree (.code y_K_agree b_K_agree 4 (some .boolean) :: G_) rm_K_agree (tx_Pc [.ref x, .int v] H0 D g) (tx_T X_N) 1 6 (fun _ => False) := by
  refine tx_m (own := R_K) (by decide) rfl (Nat.le_of_ble_eq_true rfl) ?_
  intro p e s m args below meth c ls EE hKx hno hlk hh hl
  subst hh
  obtain ⟨hx, hb, hml, hown, hts, hG, hK⟩ := id EE
  have hS : sx_S g (fun _ => False) (fun _ => False) s.heap s.heap [] := sx_S.rf
  have hl : lv_has ls 4 [(0, .ref x), (1, .int v)] := hl
  have h_x := k_x
  have h_r6 := k_r6
  have h_r7 := k_r7
  refine lv_aload_n hx hb d_K_agree_0 rfl (lv_at hl 0 rfl) ?_
  refine lv_iload_n hx hb d_K_agree_1 rfl (lv_at hl 1 rfl) ?_
  exact tx_prop (tx_runV (As := [.int v]) (rest := []) EE hKx (fun _ _ => rfl) h_x rfl rfl (c_K_existingKey htr h_x h_r6 h_r7 (hS.a f_rt0) (hS.1.2.2.2 _ _ x_rt0) (hS.a f_r1) n_x_r6 n_x_r7 n_r6_r7) w_K_106 rfl ⟨rfl, rfl⟩ ⟨Nat.le_of_ble_eq_true rfl, Nat.le_of_ble_eq_true rfl⟩ ⟨Nat.le_of_ble_eq_true rfl, Nat.le_of_ble_eq_true rfl⟩ hl.1 rfl (Nat.le_of_ble_eq_true rfl) d_K_agree_2) hno hlk rfl rfl
abbrev rm_K_sign : Room := { frames := 7, cells := 1, slots := 6, locals := 103 }
set_option maxHeartbeats 4000000 in
set_option maxRecDepth 100000 in
theorem c_K_sign {l : Launch} {D : va_G} {g : ClassId → FieldType → Prop} {H0 : Heap} {x : Nat} {r rt rm : Nat → Nat} {v : Int32} (htr : l.stackTraces = false) (k_x : va_P D classes [(x, .inr (1, [.ref (r 0), .ref (r 1), .ref (r 2), .ref (r 3), .ref (r 4), .ref (r 5), .ref (r 6), .ref (r 7), .int (nI (0)), .int (nI (0)), .int (nI (0)), .int (nI (0))]))] H0) (k_r6 : va_P D classes [(r 6, .inr (9, [.ref (rt 0), .int (nI (0))]))] H0) (k_r7 : va_P D classes [(r 7, .inr (9, [.ref (rm 0), .int (nI (0))]))] H0) (f_rt0 : sx_A g .byte H0 (rt 0) 1024) (x_rt0 : sx_L H0 (rt 0) 1024) (f_r1 : sx_A g .byte H0 (r 1) 64) (n_x_r6 : x ≠ r 6) (n_x_r7 : x ≠ r 7) (n_r6_r7 : r 6 ≠ r 7) : MetT l y_K_sign (.code y_K_sign b_K_sign 3 none :: G_) rm_K_sign (tx_Pc [.ref x, .int v] H0 D g) (tx_T X_N) 1 6 (fun _ => False) := by
  refine tx_m (own := R_K) (by decide) rfl (Nat.le_of_ble_eq_true rfl) ?_
  intro p e s m args below meth c ls EE hKx hno hlk hh hl
  subst hh
  obtain ⟨hx, hb, hml, hown, hts, hG, hK⟩ := id EE
  have hS : sx_S g (fun _ => False) (fun _ => False) s.heap s.heap [] := sx_S.rf
  have hl : lv_has ls 3 [(0, .ref x), (1, .int v)] := hl
  have h_x := k_x
  have h_r6 := k_r6
  have h_r7 := k_r7
  refine lv_aload_n hx hb d_K_sign_0 rfl (lv_at hl 0 rfl) ?_
  refine lv_iload_n hx hb d_K_sign_1 rfl (lv_at hl 1 rfl) ?_
  exact tx_prop (tx_runV (As := [.int v]) (rest := []) EE hKx (fun _ _ => rfl) h_x rfl rfl (c_K_existingKey htr h_x h_r6 h_r7 (hS.a f_rt0) (hS.1.2.2.2 _ _ x_rt0) (hS.a f_r1) n_x_r6 n_x_r7 n_r6_r7) w_K_106 rfl ⟨rfl, rfl⟩ ⟨Nat.le_of_ble_eq_true rfl, Nat.le_of_ble_eq_true rfl⟩ ⟨Nat.le_of_ble_eq_true rfl, Nat.le_of_ble_eq_true rfl⟩ hl.1 rfl (Nat.le_of_ble_eq_true rfl) d_K_sign_2) hno hlk rfl rfl
abbrev rm_K_back : Room := { frames := 6, cells := 1, slots := 6, locals := 82 }
set_option maxHeartbeats 4000000 in
set_option maxRecDepth 100000 in
theorem c_K_back {l : Launch} {D : va_G} {g : ClassId → FieldType → Prop} {H0 : Heap} {x : Nat} {r rt rm : Nat → Nat} {v w : Int32} (htr : l.stackTraces = false) (k_x : va_P D classes [(x, .inr (1, [.ref (r 0), .ref (r 1), .ref (r 2), .ref (r 3), .ref (r 4), .ref (r 5), .ref (r 6), .ref (r 7), .int (nI (0)), .int (nI (0)), .int (nI (0)), .int (nI (0))]))] H0) (k_r6 : va_P D classes [(r 6, .inr (9, [.ref (rt 0), .int (nI (0))]))] H0) (k_r7 : va_P D classes [(r 7, .inr (9, [.ref (rm 0), .int (nI (0))]))] H0) (f_rt0 : sx_A g .byte H0 (rt 0) 1024) (x_rt0 : sx_L H0 (rt 0) 1024) (f_r1 : sx_A g .byte H0 (r 1) 64) (n_x_r6 : x ≠ r 6) (n_x_r7 : x ≠ r 7) (n_r6_r7 : r 6 ≠ r 7) (y0 : v ≠ -1) : MetT l y_K_back (.code y_K_back b_K_back 4 (some .int) :: G_) rm_K_back (tx_Pc [.ref x, .int v, .int w] H0 D g) (tx_T X_I) 1 6 (fun _ => False) := by
  refine tx_m (own := R_K) (by decide) rfl (Nat.le_of_ble_eq_true rfl) ?_
  intro p e s m args below meth c ls EE hKx hno hlk hh hl
  subst hh
  obtain ⟨hx, hb, hml, hown, hts, hG, hK⟩ := id EE
  have hS : sx_S g (fun _ => False) (fun _ => False) s.heap s.heap [] := sx_S.rf
  have hl : lv_has ls 4 [(0, .ref x), (1, .int v), (2, .int w)] := hl
  have h_x := k_x
  have h_r6 := k_r6
  have h_r7 := k_r7
  refine lv_iload_n hx hb d_K_back_0 rfl (lv_at hl 1 rfl) ?_
  refine lv_iconst (v := (-1)) hx hb d_K_back_1 (by decide +kernel) ?_
  refine lv_icmp_lt (tgt := 13) hx hb d_K_back_2 (by decide) (fun q2 => ?_) (fun q2 => ?_)
  · skip
    exact tx_row (X := X_I) (tx := "the result has no such byte") (inew := 155) (itx := 157) (ic := 159) (ix := 7) (rx := tx_b7) EE hKx htr hno hlk (fun w h => List.mem_append_right _ (List.mem_append_left _ h)) tn_155 (by decide +kernel) (by decide +kernel) (by decide +kernel) (by decide +kernel) (by decide +kernel) (by decide +kernel) d_K_back_13 d_K_back_16 d_K_back_17 d_K_back_19 d_K_back_22 hl.1 ⟨Nat.le_of_ble_eq_true rfl, Nat.le_of_ble_eq_true rfl, Nat.le_of_ble_eq_true rfl, Nat.le_of_ble_eq_true rfl⟩
  · skip
    refine lv_iload_n hx hb d_K_back_5 rfl (lv_at hl 1 rfl) ?_
    refine lv_aload_n hx hb d_K_back_6 rfl (lv_at hl 0 rfl) ?_
    refine sx_get (v := .int (nI (0))) EE h_x rfl i_K 9 (by decide) rfl fl_K_123 rfl d_K_back_7 ?_
    refine lv_icmp_lt (tgt := 23) hx hb d_K_back_10 (by decide) (fun q => absurd q (fun z => y0 (px_m1 q2 z))) (fun _ => ?_)
    exact tx_row (X := X_I) (tx := "the result has no such byte") (inew := 155) (itx := 157) (ic := 159) (ix := 7) (rx := tx_b7) EE hKx htr hno hlk (fun w h => List.mem_append_right _ (List.mem_append_left _ h)) tn_155 (by decide +kernel) (by decide +kernel) (by decide +kernel) (by decide +kernel) (by decide +kernel) (by decide +kernel) d_K_back_13 d_K_back_16 d_K_back_17 d_K_back_19 d_K_back_22 hl.1 ⟨Nat.le_of_ble_eq_true rfl, Nat.le_of_ble_eq_true rfl, Nat.le_of_ble_eq_true rfl, Nat.le_of_ble_eq_true rfl⟩
abbrev rm_K_result : Room := { frames := 6, cells := 1, slots := 6, locals := 82 }
set_option maxHeartbeats 4000000 in
set_option maxRecDepth 100000 in
theorem c_K_result {l : Launch} {D : va_G} {g : ClassId → FieldType → Prop} {H0 : Heap} {x : Nat} {r rt rm : Nat → Nat} {v : Int32} (htr : l.stackTraces = false) (k_x : va_P D classes [(x, .inr (1, [.ref (r 0), .ref (r 1), .ref (r 2), .ref (r 3), .ref (r 4), .ref (r 5), .ref (r 6), .ref (r 7), .int (nI (0)), .int (nI (0)), .int (nI (0)), .int (nI (0))]))] H0) (k_r6 : va_P D classes [(r 6, .inr (9, [.ref (rt 0), .int (nI (0))]))] H0) (k_r7 : va_P D classes [(r 7, .inr (9, [.ref (rm 0), .int (nI (0))]))] H0) (f_rt0 : sx_A g .byte H0 (rt 0) 1024) (x_rt0 : sx_L H0 (rt 0) 1024) (f_r1 : sx_A g .byte H0 (r 1) 64) (n_x_r6 : x ≠ r 6) (n_x_r7 : x ≠ r 7) (n_r6_r7 : r 6 ≠ r 7) : MetT l y_K_result (.code y_K_result b_K_result 2 (some .int) :: G_) rm_K_result (tx_Pc [.ref x, .int v] H0 D g) (tx_T X_I) 1 6 (fun _ => False) := by
  refine tx_m (own := R_K) (by decide) rfl (Nat.le_of_ble_eq_true rfl) ?_
  intro p e s m args below meth c ls EE hKx hno hlk hh hl
  subst hh
  obtain ⟨hx, hb, hml, hown, hts, hG, hK⟩ := id EE
  have hS : sx_S g (fun _ => False) (fun _ => False) s.heap s.heap [] := sx_S.rf
  have hl : lv_has ls 2 [(0, .ref x), (1, .int v)] := hl
  have h_x := k_x
  have h_r6 := k_r6
  have h_r7 := k_r7
  refine lv_iload_n hx hb d_K_result_0 rfl (lv_at hl 1 rfl) ?_
  refine lv_if_lt (tgt := 12) hx hb d_K_result_1 (by decide) (fun q1 => ?_) (fun q1 => ?_)
  · skip
    exact tx_row (X := X_I) (tx := "the result has no such byte") (inew := 155) (itx := 157) (ic := 159) (ix := 7) (rx := tx_b7) EE hKx htr hno hlk (fun w h => List.mem_append_right _ (List.mem_append_left _ h)) tn_155 (by decide +kernel) (by decide +kernel) (by decide +kernel) (by decide +kernel) (by decide +kernel) (by decide +kernel) d_K_result_12 d_K_result_15 d_K_result_16 d_K_result_18 d_K_result_21 hl.1 ⟨Nat.le_of_ble_eq_true rfl, Nat.le_of_ble_eq_true rfl, Nat.le_of_ble_eq_true rfl, Nat.le_of_ble_eq_true rfl⟩
  · skip
    refine lv_iload_n hx hb d_K_result_4 rfl (lv_at hl 1 rfl) ?_
    refine lv_aload_n hx hb d_K_result_5 rfl (lv_at hl 0 rfl) ?_
    refine sx_get (v := .int (nI (0))) EE h_x rfl i_K 9 (by decide) rfl fl_K_123 rfl d_K_result_6 ?_
    refine lv_icmp_lt (tgt := 22) hx hb d_K_result_9 (by decide) (fun q => absurd q q1) (fun _ => ?_)
    exact tx_row (X := X_I) (tx := "the result has no such byte") (inew := 155) (itx := 157) (ic := 159) (ix := 7) (rx := tx_b7) EE hKx htr hno hlk (fun w h => List.mem_append_right _ (List.mem_append_left _ h)) tn_155 (by decide +kernel) (by decide +kernel) (by decide +kernel) (by decide +kernel) (by decide +kernel) (by decide +kernel) d_K_result_12 d_K_result_15 d_K_result_16 d_K_result_18 d_K_result_21 hl.1 ⟨Nat.le_of_ble_eq_true rfl, Nat.le_of_ble_eq_true rfl, Nat.le_of_ble_eq_true rfl, Nat.le_of_ble_eq_true rfl⟩
