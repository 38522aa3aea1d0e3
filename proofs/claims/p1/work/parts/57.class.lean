abbrev rm_Ro_growBy : Room := { frames := 0, cells := 0, slots := 0, locals := 0 }
set_option maxHeartbeats 4000000 in
set_option maxRecDepth 100000 in
theorem c_Ro_growBy {l : Launch} {D : va_G} {g : ClassId → FieldType → Prop} {H0 : Heap} {o t a b : Nat} (k_o : va_P D classes [(o, .inr (9, [.ref t, .int (nI (a))]))] H0) (f_t : sx_A g .byte H0 t 1024) (x_t : sx_L H0 t 1024) (y0 : a + b ≤ 1024) : Met l y_Ro_growBy (.code y_Ro_growBy b_Ro_growBy 2 none :: G_) rm_Ro_growBy (sx_Pc [.ref o, .int (nI (b))] H0 D g) (px_Qv g (fun _ => False) H0 (fun H => True)) 0 0 (fun _ => False) := by
  refine px_mv (own := R_Ro) (P := fun H => True) (by decide) rfl (Nat.le_of_ble_eq_true rfl) ?_
  intro p e s m args below meth c Q ls EE hl hret
  obtain ⟨hx, hb, hml, hown, hts, hG, hK⟩ := id EE
  have hS : sx_S g (fun _ => False) (fun _ => False) H0 H0 [] := sx_S.rf
  have hl : lv_has ls 2 [(0, .ref o), (1, .int (nI (b)))] := hl
  have h_o := k_o
  refine lv_aload_n hx hb d_Ro_growBy_0 rfl (lv_at hl 0 rfl) ?_
  refine sx_get (v := .int (nI (a))) EE h_o rfl i_Ro 1 (by decide) rfl fl_Ro_15 rfl d_Ro_growBy_1 ?_
  refine lv_iload_n hx hb d_Ro_growBy_4 rfl (lv_at hl 1 rfl) ?_
  refine lv_iadd hx hb d_Ro_growBy_5 ?_
  refine sx_ti (y := nI (a + b)) (nI_add _ _) ?_
  refine lv_aload_n hx hb d_Ro_growBy_6 rfl (lv_at hl 0 rfl) ?_
  refine sx_get (v := .ref t) EE h_o rfl i_Ro 0 (by decide) rfl fl_Ro_11 rfl d_Ro_growBy_7 ?_
  refine sx_alen hx hb hG hS f_t x_t d_Ro_growBy_10 ?_
  refine lv_icmp_le (tgt := 32) hx hb d_Ro_growBy_11 (by decide) (fun _ => ?_) (fun q => absurd ((nI_leI (a := (a + b)) (b := 1024) (by omega) (by omega)).mpr (by omega)) q)
  exact hret _ _ _ _ trivial hS d_Ro_growBy_32
abbrev rm_Ro_hasRoomFor : Room := { frames := 0, cells := 0, slots := 0, locals := 0 }
set_option maxHeartbeats 4000000 in
set_option maxRecDepth 100000 in
theorem c_Ro_hasRoomFor {l : Launch} {D : va_G} {g : ClassId → FieldType → Prop} {H0 : Heap} {o t a b : Nat} (k_o : va_P D classes [(o, .inr (9, [.ref t, .int (nI (a))]))] H0) (y0 : a + b ≤ 1024) : Met l y_Ro_hasRoomFor (.code y_Ro_hasRoomFor b_Ro_hasRoomFor 2 (some .boolean) :: G_) rm_Ro_hasRoomFor (sx_Pc [.ref o, .int (nI (b))] H0 D g) (px_Q g (fun _ => False) H0 (nI 1) (fun H => True)) 0 0 (fun _ => False) := by
  refine px_mz (own := R_Ro) (P := fun H => True) (z := 1) (by decide) (by decide) rfl (Nat.le_of_ble_eq_true rfl) ?_
  intro p e s m args below meth c Q ls EE hl hret
  obtain ⟨hx, hb, hml, hown, hts, hG, hK⟩ := id EE
  have hS : sx_S g (fun _ => False) (fun _ => False) H0 H0 [] := sx_S.rf
  have hl : lv_has ls 2 [(0, .ref o), (1, .int (nI (b)))] := hl
  have h_o := k_o
  refine lv_aload_n hx hb d_Ro_hasRoomFor_0 rfl (lv_at hl 0 rfl) ?_
  refine sx_get (v := .int (nI (a))) EE h_o rfl i_Ro 1 (by decide) rfl fl_Ro_15 rfl d_Ro_hasRoomFor_1 ?_
  refine lv_iload_n hx hb d_Ro_hasRoomFor_4 rfl (lv_at hl 1 rfl) ?_
  refine lv_iadd hx hb d_Ro_hasRoomFor_5 ?_
  refine sx_ti (y := nI (a + b)) (nI_add _ _) ?_
  refine lv_ldc (v := (nI 65536)) hx hb hown (hts (.constant R_Ro 19 (nI 65536)) (by decide +kernel)) d_Ro_hasRoomFor_6 ?_
  refine lv_icmp_gt (tgt := 15) hx hb d_Ro_hasRoomFor_8 (by decide) (fun q => absurd q (fun z => absurd ((nI_ltI (a := 65536) (b := (a + b)) (by omega) (by omega)).mp z) (by omega))) (fun _ => ?_)
  refine lv_iconst (v := nI 1) hx hb d_Ro_hasRoomFor_11 (by decide +kernel) ?_
  refine lv_goto (tgt := 16) hx hb d_Ro_hasRoomFor_12 (by decide) ?_
  exact hret _ _ _ _ trivial hS d_Ro_hasRoomFor_16
abbrev rm_Ro_appendNumber : Room := { frames := 1, cells := 0, slots := 0, locals := 21 }
set_option maxHeartbeats 4000000 in
set_option maxRecDepth 100000 in
theorem c_Ro_appendNumber {l : Launch} {D : va_G} {g : ClassId → FieldType → Prop} {H0 : Heap} {o t a : Nat} {v : Int32} (k_o : va_P D classes [(o, .inr (9, [.ref t, .int (nI (a))]))] H0) (f_t : sx_A g .byte H0 t 1024) (x_t : sx_L H0 t 1024) (y0 : a + 4 ≤ 1024) : Met l y_Ro_appendNumber (.code y_Ro_appendNumber b_Ro_appendNumber 2 none :: G_) rm_Ro_appendNumber (sx_Pc [.ref o, .int v] H0 D g) (px_Qv g (fun z => z = o ∨ z = t) H0 (fun H => va_P D classes [(o, .inr (9, [.ref t, .int (nI (a + 4))]))] H)) 0 0 (fun z => z = o ∨ z = t) := by
  refine px_mv (own := R_Ro) (P := fun H => va_P D classes [(o, .inr (9, [.ref t, .int (nI (a + 4))]))] H) (by decide) rfl (Nat.le_of_ble_eq_true rfl) ?_
  intro p e s m args below meth c Q ls EE hl hret
  obtain ⟨hx, hb, hml, hown, hts, hG, hK⟩ := id EE
  have hS : sx_S g (fun z => z = o ∨ z = t) (fun z => z = o ∨ z = t) H0 H0 [] := sx_S.rf
  have hl : lv_has ls 2 [(0, .ref o), (1, .int v)] := hl
  have h_o := k_o
  refine lv_aload_n hx hb d_Ro_appendNumber_0 rfl (lv_at hl 0 rfl) ?_
  refine lv_iconst (v := nI 4) hx hb d_Ro_appendNumber_1 (by decide +kernel) ?_
  refine px_gv (E' := (fun _ => False)) (P := fun H => True) (sx_runV (As := [.int (nI (4))]) (rest := []) EE h_o rfl rfl (c_Ro_growBy h_o (hS.a f_t) (hS.1.2.2.2 _ _ x_t) (by omega)) w_Ro_20 rfl ⟨rfl, rfl⟩ ⟨Nat.le_of_ble_eq_true rfl, Nat.le_of_ble_eq_true rfl⟩ ⟨Nat.zero_le _, Nat.zero_le _⟩ hl.1 rfl (Nat.le_of_ble_eq_true rfl) d_Ro_appendNumber_2) (fun _ h => h.elim) hS (fun H locs hJ hP hS => ?_)
  have h_o := hJ.ob id h_o
  refine lv_aload_n hx hb d_Ro_appendNumber_5 rfl (lv_at hl 0 rfl) ?_
  refine sx_get (v := .ref t) EE h_o rfl i_Ro 0 (by decide) rfl fl_Ro_11 rfl d_Ro_appendNumber_6 ?_
  refine lv_aload_n hx hb d_Ro_appendNumber_9 rfl (lv_at hl 0 rfl) ?_
  refine sx_get (v := .int (nI (a))) EE h_o rfl i_Ro 1 (by decide) rfl fl_Ro_15 rfl d_Ro_appendNumber_10 ?_
  refine lv_iload_n hx hb d_Ro_appendNumber_13 rfl (lv_at hl 1 rfl) ?_
  refine lv_bipush (v := nI 24) hx hb d_Ro_appendNumber_14 (by decide +kernel) ?_
  refine sx_ishr hx hb d_Ro_appendNumber_16 (fun x1 => ?_)
  refine sx_i2b hx hb d_Ro_appendNumber_17 (fun z2 => ?_)
  refine px_bast (E := (fun z => z = o ∨ z = t)) hx hb hG hS f_t (Or.inr rfl) (sx_in (by omega) (by decide)) d_Ro_appendNumber_18 (fun H locs hs hS => ?_)
  have h_o := h_o.one hs (px_ne hG hK.1 k_o f_t)
  refine lv_aload_n hx hb d_Ro_appendNumber_19 rfl (lv_at hl 0 rfl) ?_
  refine sx_get (v := .ref t) EE h_o rfl i_Ro 0 (by decide) rfl fl_Ro_11 rfl d_Ro_appendNumber_20 ?_
  refine lv_aload_n hx hb d_Ro_appendNumber_23 rfl (lv_at hl 0 rfl) ?_
  refine sx_get (v := .int (nI (a))) EE h_o rfl i_Ro 1 (by decide) rfl fl_Ro_15 rfl d_Ro_appendNumber_24 ?_
  refine lv_iconst (v := nI 1) hx hb d_Ro_appendNumber_27 (by decide +kernel) ?_
  refine lv_iadd hx hb d_Ro_appendNumber_28 ?_
  refine sx_ti (y := nI (a + 1)) (nI_add _ _) ?_
  refine lv_iload_n hx hb d_Ro_appendNumber_29 rfl (lv_at hl 1 rfl) ?_
  refine lv_bipush (v := nI 16) hx hb d_Ro_appendNumber_30 (by decide +kernel) ?_
  refine sx_ishr hx hb d_Ro_appendNumber_32 (fun x3 => ?_)
  refine sx_i2b hx hb d_Ro_appendNumber_33 (fun z4 => ?_)
  refine px_bast (E := (fun z => z = o ∨ z = t)) hx hb hG hS f_t (Or.inr rfl) (sx_in (by omega) (by decide)) d_Ro_appendNumber_34 (fun H locs hs hS => ?_)
  have h_o := h_o.one hs (px_ne hG hK.1 k_o f_t)
  refine lv_aload_n hx hb d_Ro_appendNumber_35 rfl (lv_at hl 0 rfl) ?_
  refine sx_get (v := .ref t) EE h_o rfl i_Ro 0 (by decide) rfl fl_Ro_11 rfl d_Ro_appendNumber_36 ?_
  refine lv_aload_n hx hb d_Ro_appendNumber_39 rfl (lv_at hl 0 rfl) ?_
  refine sx_get (v := .int (nI (a))) EE h_o rfl i_Ro 1 (by decide) rfl fl_Ro_15 rfl d_Ro_appendNumber_40 ?_
  refine lv_iconst (v := nI 2) hx hb d_Ro_appendNumber_43 (by decide +kernel) ?_
  refine lv_iadd hx hb d_Ro_appendNumber_44 ?_
  refine sx_ti (y := nI (a + 2)) (nI_add _ _) ?_
  refine lv_iload_n hx hb d_Ro_appendNumber_45 rfl (lv_at hl 1 rfl) ?_
  refine lv_bipush (v := nI 8) hx hb d_Ro_appendNumber_46 (by decide +kernel) ?_
  refine sx_ishr hx hb d_Ro_appendNumber_48 (fun x5 => ?_)
  refine sx_i2b hx hb d_Ro_appendNumber_49 (fun z6 => ?_)
  refine px_bast (E := (fun z => z = o ∨ z = t)) hx hb hG hS f_t (Or.inr rfl) (sx_in (by omega) (by decide)) d_Ro_appendNumber_50 (fun H locs hs hS => ?_)
  have h_o := h_o.one hs (px_ne hG hK.1 k_o f_t)
  refine lv_aload_n hx hb d_Ro_appendNumber_51 rfl (lv_at hl 0 rfl) ?_
  refine sx_get (v := .ref t) EE h_o rfl i_Ro 0 (by decide) rfl fl_Ro_11 rfl d_Ro_appendNumber_52 ?_
  refine lv_aload_n hx hb d_Ro_appendNumber_55 rfl (lv_at hl 0 rfl) ?_
  refine sx_get (v := .int (nI (a))) EE h_o rfl i_Ro 1 (by decide) rfl fl_Ro_15 rfl d_Ro_appendNumber_56 ?_
  refine lv_iconst (v := nI 3) hx hb d_Ro_appendNumber_59 (by decide +kernel) ?_
  refine lv_iadd hx hb d_Ro_appendNumber_60 ?_
  refine sx_ti (y := nI (a + 3)) (nI_add _ _) ?_
  refine lv_iload_n hx hb d_Ro_appendNumber_61 rfl (lv_at hl 1 rfl) ?_
  refine sx_i2b hx hb d_Ro_appendNumber_62 (fun z7 => ?_)
  refine px_bast (E := (fun z => z = o ∨ z = t)) hx hb hG hS f_t (Or.inr rfl) (sx_in (by omega) (by decide)) d_Ro_appendNumber_63 (fun H locs hs hS => ?_)
  have h_o := h_o.one hs (px_ne hG hK.1 k_o f_t)
  refine lv_aload_n hx hb d_Ro_appendNumber_64 rfl (lv_at hl 0 rfl) ?_
  refine lv_dup hx hb d_Ro_appendNumber_65 rfl ?_
  refine sx_get (v := .int (nI (a))) EE h_o rfl i_Ro 1 (by decide) rfl fl_Ro_15 rfl d_Ro_appendNumber_66 ?_
  refine lv_iconst (v := nI 4) hx hb d_Ro_appendNumber_69 (by decide +kernel) ?_
  refine lv_iadd hx hb d_Ro_appendNumber_70 ?_
  refine sx_ti (y := nI (a + 4)) (nI_add _ _) ?_
  refine sx_put (E := (fun z => z = o ∨ z = t)) (v := .int (nI (a + 4))) EE h_o rfl i_Ro t_Ro tok_Ro n_Ro 1 (by decide) rfl fl_Ro_15 (ty := t_Ro 1) (by decide +kernel) rfl rfl (Nat.le_of_ble_eq_true rfl) (Or.inl rfl) hS d_Ro_appendNumber_71 (fun H locs h_o hJ hs hS => ?_)
  have h_o : va_P D classes [(o, .inr (9, [.ref t, .int (nI (a + 4))]))] H := h_o
  exact hret _ _ _ _ h_o hS d_Ro_appendNumber_74
abbrev rm_Ro_append : Room := { frames := 1, cells := 0, slots := 0, locals := 100 }
set_option maxHeartbeats 4000000 in
set_option maxRecDepth 100000 in
theorem c_Ro_append {l : Launch} {D : va_G} {g : ClassId → FieldType → Prop} {H0 : Heap} {o t f : Nat} (k_o : va_P D classes [(o, .inr (9, [.ref t, .int (nI (0))]))] H0) (f_t : sx_A g .byte H0 t 1024) (x_t : sx_L H0 t 1024) (f_f : sx_A g .byte H0 f 0) : Met l y_Ro_append (.code y_Ro_append b_Ro_append 3 none :: G_) rm_Ro_append (sx_Pc [.ref o, .ref f, .int (nI (0))] H0 D g) (px_Qv g (fun z => z = o ∨ z = t) H0 (fun H => va_P D classes [(o, .inr (9, [.ref t, .int (nI 0)]))] H)) 0 0 (fun z => z = o ∨ z = t) := by
  refine px_mv (own := R_Ro) (P := fun H => va_P D classes [(o, .inr (9, [.ref t, .int (nI 0)]))] H) (by decide) rfl (Nat.le_of_ble_eq_true rfl) ?_
  intro p e s m args below meth c Q ls EE hl hret
  obtain ⟨hx, hb, hml, hown, hts, hG, hK⟩ := id EE
  have hS : sx_S g (fun z => z = o ∨ z = t) (fun z => z = o ∨ z = t) H0 H0 [] := sx_S.rf
  have hl : lv_has ls 3 [(0, .ref o), (1, .ref f), (2, .int (nI (0)))] := hl
  have h_o := k_o
  refine lv_aload_n hx hb d_Ro_append_0 rfl (lv_at hl 0 rfl) ?_
  refine lv_iload_n hx hb d_Ro_append_1 rfl (lv_at hl 2 rfl) ?_
  refine px_gv (E' := (fun _ => False)) (P := fun H => True) (sx_runV (As := [.int (nI (0))]) (rest := []) EE h_o rfl rfl (c_Ro_growBy h_o (hS.a f_t) (hS.1.2.2.2 _ _ x_t) (by omega)) w_Ro_20 rfl ⟨rfl, rfl⟩ ⟨Nat.le_of_ble_eq_true rfl, Nat.le_of_ble_eq_true rfl⟩ ⟨Nat.zero_le _, Nat.zero_le _⟩ hl.1 rfl (Nat.le_of_ble_eq_true rfl) d_Ro_append_2) (fun _ h => h.elim) hS (fun H locs hJ hP hS => ?_)
  have h_o := hJ.ob id h_o
  refine lv_aload_n hx hb d_Ro_append_5 rfl (lv_at hl 1 rfl) ?_
  refine lv_iconst (v := nI 0) hx hb d_Ro_append_6 (by decide +kernel) ?_
  refine lv_aload_n hx hb d_Ro_append_7 rfl (lv_at hl 0 rfl) ?_
  refine sx_get (v := .ref t) EE h_o rfl i_Ro 0 (by decide) rfl fl_Ro_11 rfl d_Ro_append_8 ?_
  refine lv_aload_n hx hb d_Ro_append_11 rfl (lv_at hl 0 rfl) ?_
  refine sx_get (v := .int (nI (0))) EE h_o rfl i_Ro 1 (by decide) rfl fl_Ro_15 rfl d_Ro_append_12 ?_
  refine lv_iload_n hx hb d_Ro_append_15 rfl (lv_at hl 2 rfl) ?_
  refine px_cpy0 (E := (fun z => z = o ∨ z = t)) hx hb (by rw [hml]; exact hl.1.symm) hown (hts (.methodLink R_Ro 24 arraycopyName) (by decide +kernel)) (hts (.native arraycopyName) (by decide +kernel)) (hts (.static arraycopyName) (by decide +kernel)) (hts (.initialized "java/lang/System") (by decide +kernel)) hG hS (f_f.le (by decide)) (f_t.le (by decide)) (Or.inr rfl) (Nat.le_of_ble_eq_true rfl) (Nat.le_of_ble_eq_true rfl) d_Ro_append_16 (fun H locs hs hS => ?_)
  have h_o := h_o.one hs (px_ne hG hK.1 k_o f_t)
  refine lv_aload_n hx hb d_Ro_append_19 rfl (lv_at hl 0 rfl) ?_
  refine lv_dup hx hb d_Ro_append_20 rfl ?_
  refine sx_get (v := .int (nI (0))) EE h_o rfl i_Ro 1 (by decide) rfl fl_Ro_15 rfl d_Ro_append_21 ?_
  refine lv_iload_n hx hb d_Ro_append_24 rfl (lv_at hl 2 rfl) ?_
  refine lv_iadd hx hb d_Ro_append_25 ?_
  refine sx_ti (y := nI (0)) (nI_add _ _) ?_
  refine sx_put (E := (fun z => z = o ∨ z = t)) (v := .int (nI (0))) EE h_o rfl i_Ro t_Ro tok_Ro n_Ro 1 (by decide) rfl fl_Ro_15 (ty := t_Ro 1) (by decide +kernel) rfl rfl (Nat.le_of_ble_eq_true rfl) (Or.inl rfl) hS d_Ro_append_26 (fun H locs h_o hJ hs hS => ?_)
  have h_o : va_P D classes [(o, .inr (9, [.ref t, .int (nI (0))]))] H := h_o
  exact hret _ _ _ _ h_o hS d_Ro_append_29
abbrev rm_K_feed : Room := { frames := 2, cells := 0, slots := 0, locals := 42 }
set_option maxHeartbeats 4000000 in
set_option maxRecDepth 100000 in
theorem c_K_feed {l : Launch} {D : va_G} {g : ClassId → FieldType → Prop} {H0 : Heap} {x : Nat} {r rt rm : Nat → Nat} {v0 v1 v2 v3 v4 : Int32} (k_x : va_P D classes [(x, .inr (1, [.ref (r 0), .ref (r 1), .ref (r 2), .ref (r 3), .ref (r 4), .ref (r 5), .ref (r 6), .ref (r 7), .int (nI (0)), .int (nI (0)), .int (nI (0)), .int (nI (0))]))] H0) (k_r6 : va_P D classes [(r 6, .inr (9, [.ref (rt 0), .int (nI (0))]))] H0) (k_r7 : va_P D classes [(r 7, .inr (9, [.ref (rm 0), .int (nI (0))]))] H0) (f_rt0 : sx_A g .byte H0 (rt 0) 1024) (x_rt0 : sx_L H0 (rt 0) 1024) (f_r1 : sx_A g .byte H0 (r 1) 64) (n_x_r6 : x ≠ r 6) (n_x_r7 : x ≠ r 7) (n_r6_r7 : r 6 ≠ r 7) : Met l y_K_feed (.code y_K_feed b_K_feed 6 (some .int) :: G_) rm_K_feed (sx_Pc [.ref x, .int v0, .int v1, .int v2, .int v3, .int v4] H0 D g) (px_Q g (fun z => z = (r 6) ∨ z = (rt 0)) H0 (nI 20) (fun H => True)) 0 0 (fun z => z = (r 6) ∨ z = (rt 0)) := by
  refine px_mi (own := R_K) (V := nI 20) (P := fun H => True) (by decide) rfl (Nat.le_of_ble_eq_true rfl) ?_
  intro p e s m args below meth c Q ls EE hl hret
  obtain ⟨hx, hb, hml, hown, hts, hG, hK⟩ := id EE
  have hS : sx_S g (fun z => z = (r 6) ∨ z = (rt 0)) (fun z => z = (r 6) ∨ z = (rt 0)) H0 H0 [] := sx_S.rf
  have hl : lv_has ls 6 [(0, .ref x), (1, .int v0), (2, .int v1), (3, .int v2), (4, .int v3), (5, .int v4)] := hl
  have h_x := k_x
  have h_r6 := k_r6
  have h_r7 := k_r7
  refine lv_aload_n hx hb d_K_feed_0 rfl (lv_at hl 0 rfl) ?_
  refine sx_get (v := .ref (r 6)) EE h_x rfl i_K 6 (by decide) rfl fl_K_54 rfl d_K_feed_1 ?_
  refine lv_bipush (v := nI 20) hx hb d_K_feed_4 (by decide +kernel) ?_
  refine px_gi (E' := (fun _ => False)) (V := nI 1) (P := fun H => True) (sx_runV (As := [.int (nI (20))]) (rest := []) EE h_r6 rfl rfl (c_Ro_hasRoomFor h_r6 (by omega)) w_K_61 rfl ⟨rfl, rfl⟩ ⟨Nat.le_of_ble_eq_true rfl, Nat.le_of_ble_eq_true rfl⟩ ⟨Nat.zero_le _, Nat.zero_le _⟩ hl.1 rfl (Nat.le_of_ble_eq_true rfl) d_K_feed_6) (fun _ h => h.elim) hS (fun H locs hJ hP hS => ?_)
  have h_x := hJ.ob id h_x
  have h_r6 := hJ.ob id h_r6
  have h_r7 := hJ.ob id h_r7
  refine lv_if_ne (tgt := 22) hx hb d_K_feed_9 (by decide) (fun _ => ?_) (fun q => absurd q (by decide +kernel))
  refine lv_aload_n hx hb d_K_feed_22 rfl (lv_at hl 0 rfl) ?_
  refine sx_get (v := .ref (r 6)) EE h_x rfl i_K 6 (by decide) rfl fl_K_54 rfl d_K_feed_23 ?_
  refine lv_iload_n hx hb d_K_feed_26 rfl (lv_at hl 1 rfl) ?_
  refine px_gv (E' := (fun z => z = (r 6) ∨ z = (rt 0))) (P := fun H => va_P D classes [((r 6), .inr (9, [.ref (rt 0), .int (nI (0 + 4))]))] H) (sx_runV (As := [.int v0]) (rest := []) EE h_r6 rfl rfl (c_Ro_appendNumber h_r6 (hS.a f_rt0) (hS.1.2.2.2 _ _ x_rt0) (by omega)) w_K_72 rfl ⟨rfl, rfl⟩ ⟨Nat.le_of_ble_eq_true rfl, Nat.le_of_ble_eq_true rfl⟩ ⟨Nat.zero_le _, Nat.zero_le _⟩ hl.1 rfl (Nat.le_of_ble_eq_true rfl) d_K_feed_27) (fun _ h => by rcases h with rfl | rfl <;> simp) hS (fun H locs hJ hP hS => ?_)
  have h_x := hJ.ob (fun h => h.elim n_x_r6 (px_ne hG hK.1 k_x f_rt0)) h_x
  have h_r7 := hJ.ob (fun h => h.elim (Ne.symm n_r6_r7) (px_ne hG hK.1 k_r7 f_rt0)) h_r7
  have h_r6 : va_P D classes [(r 6, .inr (9, [.ref (rt 0), .int (nI (4))]))] H := hP
  refine lv_aload_n hx hb d_K_feed_30 rfl (lv_at hl 0 rfl) ?_
  refine sx_get (v := .ref (r 6)) EE h_x rfl i_K 6 (by decide) rfl fl_K_54 rfl d_K_feed_31 ?_
  refine lv_iload_n hx hb d_K_feed_34 rfl (lv_at hl 2 rfl) ?_
  refine px_gv (E' := (fun z => z = (r 6) ∨ z = (rt 0))) (P := fun H => va_P D classes [((r 6), .inr (9, [.ref (rt 0), .int (nI (4 + 4))]))] H) (sx_runV (As := [.int v1]) (rest := []) EE h_r6 rfl rfl (c_Ro_appendNumber h_r6 (hS.a f_rt0) (hS.1.2.2.2 _ _ x_rt0) (by omega)) w_K_72 rfl ⟨rfl, rfl⟩ ⟨Nat.le_of_ble_eq_true rfl, Nat.le_of_ble_eq_true rfl⟩ ⟨Nat.zero_le _, Nat.zero_le _⟩ hl.1 rfl (Nat.le_of_ble_eq_true rfl) d_K_feed_35) (fun _ h => by rcases h with rfl | rfl <;> simp) hS (fun H locs hJ hP hS => ?_)
  have h_x := hJ.ob (fun h => h.elim n_x_r6 (px_ne hG hK.1 k_x f_rt0)) h_x
  have h_r7 := hJ.ob (fun h => h.elim (Ne.symm n_r6_r7) (px_ne hG hK.1 k_r7 f_rt0)) h_r7
  have h_r6 : va_P D classes [(r 6, .inr (9, [.ref (rt 0), .int (nI (8))]))] H := hP
  refine lv_aload_n hx hb d_K_feed_38 rfl (lv_at hl 0 rfl) ?_
  refine sx_get (v := .ref (r 6)) EE h_x rfl i_K 6 (by decide) rfl fl_K_54 rfl d_K_feed_39 ?_
  refine lv_iload_n hx hb d_K_feed_42 rfl (lv_at hl 3 rfl) ?_
  refine px_gv (E' := (fun z => z = (r 6) ∨ z = (rt 0))) (P := fun H => va_P D classes [((r 6), .inr (9, [.ref (rt 0), .int (nI (8 + 4))]))] H) (sx_runV (As := [.int v2]) (rest := []) EE h_r6 rfl rfl (c_Ro_appendNumber h_r6 (hS.a f_rt0) (hS.1.2.2.2 _ _ x_rt0) (by omega)) w_K_72 rfl ⟨rfl, rfl⟩ ⟨Nat.le_of_ble_eq_true rfl, Nat.le_of_ble_eq_true rfl⟩ ⟨Nat.zero_le _, Nat.zero_le _⟩ hl.1 rfl (Nat.le_of_ble_eq_true rfl) d_K_feed_43) (fun _ h => by rcases h with rfl | rfl <;> simp) hS (fun H locs hJ hP hS => ?_)
  have h_x := hJ.ob (fun h => h.elim n_x_r6 (px_ne hG hK.1 k_x f_rt0)) h_x
  have h_r7 := hJ.ob (fun h => h.elim (Ne.symm n_r6_r7) (px_ne hG hK.1 k_r7 f_rt0)) h_r7
  have h_r6 : va_P D classes [(r 6, .inr (9, [.ref (rt 0), .int (nI (12))]))] H := hP
  refine lv_aload_n hx hb d_K_feed_46 rfl (lv_at hl 0 rfl) ?_
  refine sx_get (v := .ref (r 6)) EE h_x rfl i_K 6 (by decide) rfl fl_K_54 rfl d_K_feed_47 ?_
  refine lv_iload hx hb d_K_feed_50 (lv_at hl 4 rfl) ?_
  refine px_gv (E' := (fun z => z = (r 6) ∨ z = (rt 0))) (P := fun H => va_P D classes [((r 6), .inr (9, [.ref (rt 0), .int (nI (12 + 4))]))] H) (sx_runV (As := [.int v3]) (rest := []) EE h_r6 rfl rfl (c_Ro_appendNumber h_r6 (hS.a f_rt0) (hS.1.2.2.2 _ _ x_rt0) (by omega)) w_K_72 rfl ⟨rfl, rfl⟩ ⟨Nat.le_of_ble_eq_true rfl, Nat.le_of_ble_eq_true rfl⟩ ⟨Nat.zero_le _, Nat.zero_le _⟩ hl.1 rfl (Nat.le_of_ble_eq_true rfl) d_K_feed_52) (fun _ h => by rcases h with rfl | rfl <;> simp) hS (fun H locs hJ hP hS => ?_)
  have h_x := hJ.ob (fun h => h.elim n_x_r6 (px_ne hG hK.1 k_x f_rt0)) h_x
  have h_r7 := hJ.ob (fun h => h.elim (Ne.symm n_r6_r7) (px_ne hG hK.1 k_r7 f_rt0)) h_r7
  have h_r6 : va_P D classes [(r 6, .inr (9, [.ref (rt 0), .int (nI (16))]))] H := hP
  refine lv_aload_n hx hb d_K_feed_55 rfl (lv_at hl 0 rfl) ?_
  refine sx_get (v := .ref (r 6)) EE h_x rfl i_K 6 (by decide) rfl fl_K_54 rfl d_K_feed_56 ?_
  refine lv_iload hx hb d_K_feed_59 (lv_at hl 5 rfl) ?_
  refine px_gv (E' := (fun z => z = (r 6) ∨ z = (rt 0))) (P := fun H => va_P D classes [((r 6), .inr (9, [.ref (rt 0), .int (nI (16 + 4))]))] H) (sx_runV (As := [.int v4]) (rest := []) EE h_r6 rfl rfl (c_Ro_appendNumber h_r6 (hS.a f_rt0) (hS.1.2.2.2 _ _ x_rt0) (by omega)) w_K_72 rfl ⟨rfl, rfl⟩ ⟨Nat.le_of_ble_eq_true rfl, Nat.le_of_ble_eq_true rfl⟩ ⟨Nat.zero_le _, Nat.zero_le _⟩ hl.1 rfl (Nat.le_of_ble_eq_true rfl) d_K_feed_61) (fun _ h => by rcases h with rfl | rfl <;> simp) hS (fun H locs hJ hP hS => ?_)
  have h_x := hJ.ob (fun h => h.elim n_x_r6 (px_ne hG hK.1 k_x f_rt0)) h_x
  have h_r7 := hJ.ob (fun h => h.elim (Ne.symm n_r6_r7) (px_ne hG hK.1 k_r7 f_rt0)) h_r7
  have h_r6 : va_P D classes [(r 6, .inr (9, [.ref (rt 0), .int (nI (20))]))] H := hP
  refine lv_aload_n hx hb d_K_feed_64 rfl (lv_at hl 0 rfl) ?_
  refine sx_get (v := .ref (r 6)) EE h_x rfl i_K 6 (by decide) rfl fl_K_54 rfl d_K_feed_65 ?_
  refine sx_getN (v := .int (nI (20))) EE h_r6 rfl i_Ro 1 (by decide) rfl fn_K_76 rfl d_K_feed_68 ?_
  exact hret _ _ _ _ trivial hS d_K_feed_71
abbrev rm_K_end0 : Room := { frames := 0, cells := 0, slots := 0, locals := 0 }
set_option maxHeartbeats 4000000 in
set_option maxRecDepth 100000 in
theorem c_K_end0 {l : Launch} {D : va_G} {g : ClassId → FieldType → Prop} {H0 : Heap} {x : Nat} {r rt rm : Nat → Nat} (k_x : va_P D classes [(x, .inr (1, [.ref (r 0), .ref (r 1), .ref (r 2), .ref (r 3), .ref (r 4), .ref (r 5), .ref (r 6), .ref (r 7), .int (nI (0)), .int (nI (0)), .int (nI (0)), .int (nI (0))]))] H0) (k_r6 : va_P D classes [(r 6, .inr (9, [.ref (rt 0), .int (nI (0))]))] H0) (k_r7 : va_P D classes [(r 7, .inr (9, [.ref (rm 0), .int (nI (0))]))] H0) (f_rt0 : sx_A g .byte H0 (rt 0) 1024) (x_rt0 : sx_L H0 (rt 0) 1024) (f_r1 : sx_A g .byte H0 (r 1) 64) (n_x_r6 : x ≠ r 6) (n_x_r7 : x ≠ r 7) (n_r6_r7 : r 6 ≠ r 7) : Met l y_K_end (.code y_K_end b_K_end 2 (some .int) :: G_) rm_K_end0 (sx_Pc [.ref x, .int (nI (0))] H0 D g) (px_Q g (fun z => z = (r 6)) H0 (nI 0) (fun H => True)) 0 0 (fun z => z = (r 6)) := by
  refine px_mi (own := R_K) (V := nI 0) (P := fun H => True) (by decide) rfl (Nat.le_of_ble_eq_true rfl) ?_
  intro p e s m args below meth c Q ls EE hl hret
  obtain ⟨hx, hb, hml, hown, hts, hG, hK⟩ := id EE
  have hS : sx_S g (fun z => z = (r 6)) (fun z => z = (r 6)) H0 H0 [] := sx_S.rf
  have hl : lv_has ls 2 [(0, .ref x), (1, .int (nI (0)))] := hl
  have h_x := k_x
  have h_r6 := k_r6
  have h_r7 := k_r7
  refine lv_iload_n hx hb d_K_end_0 rfl (lv_at hl 1 rfl) ?_
  refine lv_if_lt (tgt := 15) hx hb d_K_end_1 (by decide) (fun q => absurd q (by decide +kernel)) (fun _ => ?_)
  refine lv_iload_n hx hb d_K_end_4 rfl (lv_at hl 1 rfl) ?_
  refine lv_aload_n hx hb d_K_end_5 rfl (lv_at hl 0 rfl) ?_
  refine sx_get (v := .ref (r 6)) EE h_x rfl i_K 6 (by decide) rfl fl_K_54 rfl d_K_end_6 ?_
  refine sx_getN (v := .int (nI (0))) EE h_r6 rfl i_Ro 1 (by decide) rfl fn_K_76 rfl d_K_end_9 ?_
  refine lv_icmp_le (tgt := 25) hx hb d_K_end_12 (by decide) (fun _ => ?_) (fun q => absurd (by decide +kernel) q)
  refine lv_aload_n hx hb d_K_end_25 rfl (lv_at hl 0 rfl) ?_
  refine sx_get (v := .ref (r 6)) EE h_x rfl i_K 6 (by decide) rfl fl_K_54 rfl d_K_end_26 ?_
  refine lv_iload_n hx hb d_K_end_29 rfl (lv_at hl 1 rfl) ?_
  refine sx_putN (E := (fun z => z = (r 6))) (v := .int (nI (0))) EE h_r6 rfl i_Ro t_Ro tok_Ro n_Ro 1 (by decide) rfl fn_K_76 (ty := t_Ro 1) (by decide +kernel) rfl rfl (Nat.le_of_ble_eq_true rfl) rfl hS d_K_end_30 (fun H locs h_r6 hJ hs hS => ?_)
  have h_r6 : va_P D classes [(r 6, .inr (9, [.ref (rt 0), .int (nI (0))]))] H := h_r6
  have h_x := h_x.one hs n_x_r6
  have h_r7 := h_r7.one hs (Ne.symm n_r6_r7)
  refine lv_iload_n hx hb d_K_end_33 rfl (lv_at hl 1 rfl) ?_
  exact hret _ _ _ _ trivial hS d_K_end_34
abbrev rm_K_message : Room := { frames := 0, cells := 0, slots := 0, locals := 0 }
set_option maxHeartbeats 4000000 in
set_option maxRecDepth 100000 in
theorem c_K_message {l : Launch} {D : va_G} {g : ClassId → FieldType → Prop} {H0 : Heap} {x : Nat} {r rt rm : Nat → Nat} (k_x : va_P D classes [(x, .inr (1, [.ref (r 0), .ref (r 1), .ref (r 2), .ref (r 3), .ref (r 4), .ref (r 5), .ref (r 6), .ref (r 7), .int (nI (0)), .int (nI (0)), .int (nI (0)), .int (nI (0))]))] H0) (k_r6 : va_P D classes [(r 6, .inr (9, [.ref (rt 0), .int (nI (0))]))] H0) (k_r7 : va_P D classes [(r 7, .inr (9, [.ref (rm 0), .int (nI (0))]))] H0) (f_rt0 : sx_A g .byte H0 (rt 0) 1024) (x_rt0 : sx_L H0 (rt 0) 1024) (f_r1 : sx_A g .byte H0 (r 1) 64) (n_x_r6 : x ≠ r 6) (n_x_r7 : x ≠ r 7) (n_r6_r7 : r 6 ≠ r 7) : Met l y_K_message (.code y_K_message b_K_message 2 (some .int) :: G_) rm_K_message (sx_Pc [.ref x] H0 D g) (px_Q g (fun z => z = x ∨ z = (r 6) ∨ z = (r 7)) H0 (nI 0) (fun H => True)) 0 0 (fun z => z = x ∨ z = (r 6) ∨ z = (r 7)) := by
  refine px_mi (own := R_K) (V := nI 0) (P := fun H => True) (by decide) rfl (Nat.le_of_ble_eq_true rfl) ?_
  intro p e s m args below meth c Q ls EE hl hret
  obtain ⟨hx, hb, hml, hown, hts, hG, hK⟩ := id EE
  have hS : sx_S g (fun z => z = x ∨ z = (r 6) ∨ z = (r 7)) (fun z => z = x ∨ z = (r 6) ∨ z = (r 7)) H0 H0 [] := sx_S.rf
  have hl : lv_has ls 2 [(0, .ref x)] := hl
  have h_x := k_x
  have h_r6 := k_r6
  have h_r7 := k_r7
  refine lv_aload_n hx hb d_K_message_0 rfl (lv_at hl 0 rfl) ?_
  refine sx_get (v := .ref (r 6)) EE h_x rfl i_K 6 (by decide) rfl fl_K_54 rfl d_K_message_1 ?_
  refine lv_astore_n (lv' := [(1, .ref (r 6)), (0, .ref x)]) hx hb d_K_message_4 rfl hl (by decide) rfl (fun ls hl => ?_)
  refine lv_aload_n hx hb d_K_message_5 rfl (lv_at hl 1 rfl) ?_
  refine lv_aload_n hx hb d_K_message_6 rfl (lv_at hl 1 rfl) ?_
  refine sx_get (v := .ref (r 7)) EE h_x rfl i_K 7 (by decide) rfl fl_K_58 rfl d_K_message_7 ?_
  refine sx_put (E := (fun z => z = x ∨ z = (r 6) ∨ z = (r 7))) (v := .ref (r 7)) EE h_x rfl i_K t_K tok_K n_K 6 (by decide) rfl fl_K_54 (ty := t_K 6) (by decide +kernel) rfl rfl (Nat.le_of_ble_eq_true rfl) (Or.inl rfl) hS d_K_message_10 (fun H locs h_x hJ hs hS => ?_)
  have h_x : va_P D classes [(x, .inr (1, [.ref (r 0), .ref (r 1), .ref (r 2), .ref (r 3), .ref (r 4), .ref (r 5), .ref (r 7), .ref (r 7), .int (nI (0)), .int (nI (0)), .int (nI (0)), .int (nI (0))]))] H := h_x
  have h_r6 := h_r6.one hs (Ne.symm n_x_r6)
  have h_r7 := h_r7.one hs (Ne.symm n_x_r7)
  refine lv_aload_n hx hb d_K_message_13 rfl (lv_at hl 1 rfl) ?_
  refine sx_get (v := .ref (r 7)) EE h_x rfl i_K 6 (by decide) rfl fl_K_54 rfl d_K_message_14 ?_
  refine lv_iconst (v := nI 0) hx hb d_K_message_17 (by decide +kernel) ?_
  refine sx_putN (E := (fun z => z = x ∨ z = (r 6) ∨ z = (r 7))) (v := .int (nI (0))) EE h_r7 rfl i_Ro t_Ro tok_Ro n_Ro 1 (by decide) rfl fn_K_76 (ty := t_Ro 1) (by decide +kernel) rfl rfl (Nat.le_of_ble_eq_true rfl) (Or.inr (Or.inr rfl)) hS d_K_message_18 (fun H locs h_r7 hJ hs hS => ?_)
  have h_r7 : va_P D classes [(r 7, .inr (9, [.ref (rm 0), .int (nI (0))]))] H := h_r7
  have h_x := h_x.one hs n_x_r7
  have h_r6 := h_r6.one hs n_r6_r7
  refine lv_aload_n hx hb d_K_message_21 rfl (lv_at hl 1 rfl) ?_
  refine lv_aload_n hx hb d_K_message_22 rfl (lv_at hl 0 rfl) ?_
  refine sx_put (E := (fun z => z = x ∨ z = (r 6) ∨ z = (r 7))) (v := .ref (r 6)) EE h_x rfl i_K t_K tok_K n_K 7 (by decide) rfl fl_K_58 (ty := t_K 7) (by decide +kernel) rfl rfl (Nat.le_of_ble_eq_true rfl) (Or.inl rfl) hS d_K_message_23 (fun H locs h_x hJ hs hS => ?_)
  have h_x : va_P D classes [(x, .inr (1, [.ref (r 0), .ref (r 1), .ref (r 2), .ref (r 3), .ref (r 4), .ref (r 5), .ref (r 7), .ref (r 6), .int (nI (0)), .int (nI (0)), .int (nI (0)), .int (nI (0))]))] H := h_x
  have h_r6 := h_r6.one hs (Ne.symm n_x_r6)
  have h_r7 := h_r7.one hs (Ne.symm n_x_r7)
  refine lv_aload_n hx hb d_K_message_26 rfl (lv_at hl 1 rfl) ?_
  refine sx_get (v := .ref (r 6)) EE h_x rfl i_K 7 (by decide) rfl fl_K_58 rfl d_K_message_27 ?_
  refine sx_getN (v := .int (nI (0))) EE h_r6 rfl i_Ro 1 (by decide) rfl fn_K_76 rfl d_K_message_30 ?_
  exact hret _ _ _ _ trivial hS d_K_message_33
abbrev rm_K_back0 : Room := { frames := 2, cells := 0, slots := 0, locals := 122 }
set_option maxHeartbeats 4000000 in
set_option maxRecDepth 100000 in
theorem c_K_back0 {l : Launch} {D : va_G} {g : ClassId → FieldType → Prop} {H0 : Heap} {x : Nat} {r rt rm : Nat → Nat} {v1 : Int32} (k_x : va_P D classes [(x, .inr (1, [.ref (r 0), .ref (r 1), .ref (r 2), .ref (r 3), .ref (r 4), .ref (r 5), .ref (r 6), .ref (r 7), .int (nI (0)), .int (nI (0)), .int (nI (0)), .int (nI (0))]))] H0) (k_r6 : va_P D classes [(r 6, .inr (9, [.ref (rt 0), .int (nI (0))]))] H0) (k_r7 : va_P D classes [(r 7, .inr (9, [.ref (rm 0), .int (nI (0))]))] H0) (f_rt0 : sx_A g .byte H0 (rt 0) 1024) (x_rt0 : sx_L H0 (rt 0) 1024) (f_r1 : sx_A g .byte H0 (r 1) 64) (n_x_r6 : x ≠ r 6) (n_x_r7 : x ≠ r 7) (n_r6_r7 : r 6 ≠ r 7) : Met l y_K_back (.code y_K_back b_K_back 4 (some .int) :: G_) rm_K_back0 (sx_Pc [.ref x, .int (-1), .int v1] H0 D g) (px_Q g (fun z => z = (r 6) ∨ z = (rt 0)) H0 (nI 0) (fun H => True)) 0 0 (fun z => z = (r 6) ∨ z = (rt 0)) := by
  refine px_mi (own := R_K) (V := nI 0) (P := fun H => True) (by decide) rfl (Nat.le_of_ble_eq_true rfl) ?_
  intro p e s m args below meth c Q ls EE hl hret
  obtain ⟨hx, hb, hml, hown, hts, hG, hK⟩ := id EE
  have hS : sx_S g (fun z => z = (r 6) ∨ z = (rt 0)) (fun z => z = (r 6) ∨ z = (rt 0)) H0 H0 [] := sx_S.rf
  have hl : lv_has ls 4 [(0, .ref x), (1, .int (-1)), (2, .int v1)] := hl
  have h_x := k_x
  have h_r6 := k_r6
  have h_r7 := k_r7
  refine lv_iload_n hx hb d_K_back_0 rfl (lv_at hl 1 rfl) ?_
  refine lv_iconst (v := (-1)) hx hb d_K_back_1 (by decide +kernel) ?_
  refine lv_icmp_lt (tgt := 13) hx hb d_K_back_2 (by decide) (fun q => absurd q (by decide +kernel)) (fun _ => ?_)
  refine lv_iload_n hx hb d_K_back_5 rfl (lv_at hl 1 rfl) ?_
  refine lv_aload_n hx hb d_K_back_6 rfl (lv_at hl 0 rfl) ?_
  refine sx_get (v := .int (nI (0))) EE h_x rfl i_K 9 (by decide) rfl fl_K_123 rfl d_K_back_7 ?_
  refine lv_icmp_lt (tgt := 23) hx hb d_K_back_10 (by decide) (fun _ => ?_) (fun q => absurd (by decide +kernel) q)
  refine lv_aload_n hx hb d_K_back_23 rfl (lv_at hl 0 rfl) ?_
  refine sx_get (v := .ref (r 6)) EE h_x rfl i_K 6 (by decide) rfl fl_K_54 rfl d_K_back_24 ?_
  refine lv_aload_n hx hb d_K_back_27 rfl (lv_at hl 0 rfl) ?_
  refine sx_get (v := .int (nI (0))) EE h_x rfl i_K 9 (by decide) rfl fl_K_123 rfl d_K_back_28 ?_
  refine px_gi (E' := (fun _ => False)) (V := nI 1) (P := fun H => True) (sx_runV (As := [.int (nI (0))]) (rest := []) EE h_r6 rfl rfl (c_Ro_hasRoomFor h_r6 (by omega)) w_K_61 rfl ⟨rfl, rfl⟩ ⟨Nat.le_of_ble_eq_true rfl, Nat.le_of_ble_eq_true rfl⟩ ⟨Nat.zero_le _, Nat.zero_le _⟩ hl.1 rfl (Nat.le_of_ble_eq_true rfl) d_K_back_31) (fun _ h => h.elim) hS (fun H locs hJ hP hS => ?_)
  have h_x := hJ.ob id h_x
  have h_r6 := hJ.ob id h_r6
  have h_r7 := hJ.ob id h_r7
  refine lv_if_ne (tgt := 47) hx hb d_K_back_34 (by decide) (fun _ => ?_) (fun q => absurd q (by decide +kernel))
  refine lv_aload_n hx hb d_K_back_47 rfl (lv_at hl 0 rfl) ?_
  refine sx_get (v := .ref (r 6)) EE h_x rfl i_K 6 (by decide) rfl fl_K_54 rfl d_K_back_48 ?_
  refine sx_getN (v := .int (nI (0))) EE h_r6 rfl i_Ro 1 (by decide) rfl fn_K_76 rfl d_K_back_51 ?_
  refine lv_istore_n (lv' := [(3, .int (nI (0))), (0, .ref x), (1, .int (-1)), (2, .int v1)]) hx hb d_K_back_54 rfl hl (by decide) rfl (fun ls hl => ?_)
  refine lv_aload_n hx hb d_K_back_55 rfl (lv_at hl 1 rfl) ?_
  refine sx_get (v := .ref (r 6)) EE h_x rfl i_K 6 (by decide) rfl fl_K_54 rfl d_K_back_56 ?_
  refine lv_aload_n hx hb d_K_back_59 rfl (lv_at hl 1 rfl) ?_
  refine sx_get (v := .ref (r 1)) EE h_x rfl i_K 1 (by decide) rfl fl_K_18 rfl d_K_back_60 ?_
  refine lv_aload_n hx hb d_K_back_63 rfl (lv_at hl 1 rfl) ?_
  refine sx_get (v := .int (nI (0))) EE h_x rfl i_K 9 (by decide) rfl fl_K_123 rfl d_K_back_64 ?_
  refine px_gv (E' := (fun z => z = (r 6) ∨ z = (rt 0))) (P := fun H => va_P D classes [((r 6), .inr (9, [.ref (rt 0), .int (nI 0)]))] H) (sx_runV (As := [.ref (r 1), .int (nI (0))]) (rest := []) EE h_r6 rfl rfl (c_Ro_append h_r6 (hS.a f_rt0) (hS.1.2.2.2 _ _ x_rt0) ((hS.a f_r1).le (by decide))) w_K_162 rfl ⟨rfl, rfl⟩ ⟨Nat.le_of_ble_eq_true rfl, Nat.le_of_ble_eq_true rfl⟩ ⟨Nat.zero_le _, Nat.zero_le _⟩ hl.1 rfl (Nat.le_of_ble_eq_true rfl) d_K_back_67) (fun _ h => by rcases h with rfl | rfl <;> simp) hS (fun H locs hJ hP hS => ?_)
  have h_x := hJ.ob (fun h => h.elim n_x_r6 (px_ne hG hK.1 k_x f_rt0)) h_x
  have h_r7 := hJ.ob (fun h => h.elim (Ne.symm n_r6_r7) (px_ne hG hK.1 k_r7 f_rt0)) h_r7
  have h_r6 : va_P D classes [(r 6, .inr (9, [.ref (rt 0), .int (nI (0))]))] H := hP
  refine lv_iload_n hx hb d_K_back_70 rfl (lv_at hl 2 rfl) ?_
  refine lv_if_lt (tgt := 91) hx hb d_K_back_71 (by decide) (fun _ => ?_) (fun q => absurd (by decide +kernel) q)
  refine lv_aload_n hx hb d_K_back_91 rfl (lv_at hl 1 rfl) ?_
  refine sx_get (v := .ref (r 6)) EE h_x rfl i_K 6 (by decide) rfl fl_K_54 rfl d_K_back_92 ?_
  refine sx_getN (v := .int (nI (0))) EE h_r6 rfl i_Ro 1 (by decide) rfl fn_K_76 rfl d_K_back_95 ?_
  exact hret _ _ _ _ trivial hS d_K_back_98
