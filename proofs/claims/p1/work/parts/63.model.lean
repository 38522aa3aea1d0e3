abbrev rm_M_fail : Room := { frames := 0, cells := 0, slots := 0, locals := 0 }
set_option maxHeartbeats 4000000 in
set_option maxRecDepth 100000 in
theorem c_M_fail {l : Launch} {D : va_G} {g : ClassId → FieldType → Prop} {H0 : Heap} {o : Nat} {r : Nat → Nat} (k_o : va_P D classes [(o, .inr (0, mo_fs r (fun _ => 0)))] H0) : Met l y_M_fail (.code y_M_fail b_M_fail 2 (some .int) :: G_) rm_M_fail (sx_Pc [.ref o, .int (nI (1))] H0 D g) (px_Q g (fun z => z = o) H0 (nI 0) (fun H => va_P D classes [(o, .inr (0, mo_fs r (fun k => if k = 0 then (nI (1)) else 0)))] H)) 0 0 (fun z => z = o) := by
  refine px_mi (own := R_M) (V := nI 0) (P := fun H => va_P D classes [(o, .inr (0, mo_fs r (fun k => if k = 0 then (nI (1)) else 0)))] H) (by decide) rfl (Nat.le_of_ble_eq_true rfl) ?_
  intro p e s m args below meth c Q ls EE hl hret
  obtain ⟨hx, hb, hml, hown, hts, hG, hK⟩ := id EE
  have hS : sx_S g (fun z => z = o) (fun z => z = o) H0 H0 [] := sx_S.rf
  have hl : lv_has ls 2 [(0, .ref o), (1, .int (nI (1)))] := hl
  have h_o := k_o
  refine lv_aload_n hx hb d_M_fail_0 rfl (lv_at hl 0 rfl) ?_
  refine lv_iload_n hx hb d_M_fail_1 rfl (lv_at hl 1 rfl) ?_
  refine sx_put (E := (fun z => z = o)) (v := .int (nI (1))) EE h_o rfl i_M t_M tok_M n_M 0 (by decide) rfl fl_M_211 (ty := t_M 0) (by decide +kernel) rfl rfl (Nat.le_of_ble_eq_true rfl) rfl hS d_M_fail_2 (fun H locs h_o hJ hs hS => ?_)
  have h_o : va_P D classes [(o, .inr (0, mo_fs r (fun k => if k = 0 then (nI (1)) else 0)))] H := h_o
  refine lv_iconst (v := nI 0) hx hb d_M_fail_5 (by decide +kernel) ?_
  exact hret _ _ _ _ h_o hS d_M_fail_6
abbrev rm_M_none : Room := { frames := 0, cells := 0, slots := 0, locals := 0 }
set_option maxHeartbeats 4000000 in
set_option maxRecDepth 100000 in
theorem c_M_none {l : Launch} {D : va_G} {g : ClassId → FieldType → Prop} {H0 : Heap} {o : Nat} {r : Nat → Nat} {v : Int32} (k_o : va_P D classes [(o, .inr (0, mo_fs r (fun _ => 0)))] H0) : Met l y_M_none (.code y_M_none b_M_none 2 (some .boolean) :: G_) rm_M_none (sx_Pc [.ref o, .int v] H0 D g) (px_Q g (fun _ => False) H0 (nI 1) (fun H => True)) 0 0 (fun _ => False) := by
  refine px_mz (own := R_M) (P := fun H => True) (z := 1) (by decide) (by decide) rfl (Nat.le_of_ble_eq_true rfl) ?_
  intro p e s m args below meth c Q ls EE hl hret
  obtain ⟨hx, hb, hml, hown, hts, hG, hK⟩ := id EE
  have hS : sx_S g (fun _ => False) (fun _ => False) H0 H0 [] := sx_S.rf
  have hl : lv_has ls 2 [(0, .ref o), (1, .int v)] := hl
  have h_o := k_o
  refine lv_iload_n hx hb d_M_none_0 rfl (lv_at hl 1 rfl) ?_
  refine lv_if_lt (tgt := 12) hx hb d_M_none_1 (by decide) (fun q1 => ?_) (fun q1 => ?_)
  · skip
    refine lv_iconst (v := nI 1) hx hb d_M_none_12 (by decide +kernel) ?_
    refine lv_goto (tgt := 17) hx hb d_M_none_13 (by decide) ?_
    exact hret _ _ _ _ trivial hS d_M_none_17
  · skip
    refine lv_iload_n hx hb d_M_none_4 rfl (lv_at hl 1 rfl) ?_
    refine lv_aload_n hx hb d_M_none_5 rfl (lv_at hl 0 rfl) ?_
    refine sx_get (v := .int (nI (0))) EE h_o rfl i_M 8 (by decide) rfl fl_M_322 rfl d_M_none_6 ?_
    refine lv_icmp_lt (tgt := 16) hx hb d_M_none_9 (by decide) (fun q => absurd q q1) (fun _ => ?_)
    refine lv_iconst (v := nI 1) hx hb d_M_none_12 (by decide +kernel) ?_
    refine lv_goto (tgt := 17) hx hb d_M_none_13 (by decide) ?_
    exact hret _ _ _ _ trivial hS d_M_none_17
abbrev rm_M_end0 : Room := { frames := 0, cells := 0, slots := 0, locals := 0 }
set_option maxHeartbeats 4000000 in
set_option maxRecDepth 100000 in
theorem c_M_end0 {l : Launch} {D : va_G} {g : ClassId → FieldType → Prop} {H0 : Heap} {o : Nat} {r : Nat → Nat} (k_o : va_P D classes [(o, .inr (0, mo_fs r (fun _ => 0)))] H0) : Met l y_M_end (.code y_M_end b_M_end 2 (some .int) :: G_) rm_M_end0 (sx_Pc [.ref o, .int (nI (0))] H0 D g) (px_Q g (fun z => z = o) H0 (nI 0) (fun H => va_P D classes [(o, .inr (0, mo_fs r (fun _ => 0)))] H)) 0 0 (fun z => z = o) := by
  refine px_mi (own := R_M) (V := nI 0) (P := fun H => va_P D classes [(o, .inr (0, mo_fs r (fun _ => 0)))] H) (by decide) rfl (Nat.le_of_ble_eq_true rfl) ?_
  intro p e s m args below meth c Q ls EE hl hret
  obtain ⟨hx, hb, hml, hown, hts, hG, hK⟩ := id EE
  have hS : sx_S g (fun z => z = o) (fun z => z = o) H0 H0 [] := sx_S.rf
  have hl : lv_has ls 2 [(0, .ref o), (1, .int (nI (0)))] := hl
  have h_o := k_o
  refine lv_aload_n hx hb d_M_end_0 rfl (lv_at hl 0 rfl) ?_
  refine lv_iconst (v := nI 0) hx hb d_M_end_1 (by decide +kernel) ?_
  refine sx_put (E := (fun z => z = o)) (v := .int (nI (0))) EE h_o rfl i_M t_M tok_M n_M 0 (by decide) rfl fl_M_211 (ty := t_M 0) (by decide +kernel) rfl rfl (Nat.le_of_ble_eq_true rfl) rfl hS d_M_end_2 (fun H locs h_o hJ hs hS => ?_)
  have h_o : va_P D classes [(o, .inr (0, mo_fs r (fun _ => 0)))] H := h_o
  refine lv_iload_n hx hb d_M_end_5 rfl (lv_at hl 1 rfl) ?_
  refine lv_if_lt (tgt := 17) hx hb d_M_end_6 (by decide) (fun q => absurd q (by decide +kernel)) (fun _ => ?_)
  refine lv_iload_n hx hb d_M_end_9 rfl (lv_at hl 1 rfl) ?_
  refine lv_aload_n hx hb d_M_end_10 rfl (lv_at hl 0 rfl) ?_
  refine sx_get (v := .int (nI (0))) EE h_o rfl i_M 5 (by decide) rfl fl_M_315 rfl d_M_end_11 ?_
  refine lv_icmp_le (tgt := 23) hx hb d_M_end_14 (by decide) (fun _ => ?_) (fun q => absurd (by decide +kernel) q)
  refine lv_aload_n hx hb d_M_end_23 rfl (lv_at hl 0 rfl) ?_
  refine lv_iload_n hx hb d_M_end_24 rfl (lv_at hl 1 rfl) ?_
  refine sx_put (E := (fun z => z = o)) (v := .int (nI (0))) EE h_o rfl i_M t_M tok_M n_M 5 (by decide) rfl fl_M_315 (ty := t_M 5) (by decide +kernel) rfl rfl (Nat.le_of_ble_eq_true rfl) rfl hS d_M_end_25 (fun H locs h_o hJ hs hS => ?_)
  have h_o : va_P D classes [(o, .inr (0, mo_fs r (fun _ => 0)))] H := h_o
  refine lv_iload_n hx hb d_M_end_28 rfl (lv_at hl 1 rfl) ?_
  exact hret _ _ _ _ h_o hS d_M_end_29
abbrev rm_M_end : Room := { frames := 1, cells := 0, slots := 0, locals := 21 }
set_option maxHeartbeats 4000000 in
set_option maxRecDepth 100000 in
theorem c_M_end {l : Launch} {D : va_G} {g : ClassId → FieldType → Prop} {H0 : Heap} {o : Nat} {r : Nat → Nat} {v : Int32} (k_o : va_P D classes [(o, .inr (0, mo_fs r (fun _ => 0)))] H0) (y0 : v ≠ 0) : Met l y_M_end (.code y_M_end b_M_end 2 (some .int) :: G_) rm_M_end (sx_Pc [.ref o, .int v] H0 D g) (px_Q g (fun z => z = o) H0 (nI 0) (fun H => va_P D classes [(o, .inr (0, mo_fs r (fun k => if k = 0 then (nI (1)) else 0)))] H)) 0 0 (fun z => z = o) := by
  refine px_mi (own := R_M) (V := nI 0) (P := fun H => va_P D classes [(o, .inr (0, mo_fs r (fun k => if k = 0 then (nI (1)) else 0)))] H) (by decide) rfl (Nat.le_of_ble_eq_true rfl) ?_
  intro p e s m args below meth c Q ls EE hl hret
  obtain ⟨hx, hb, hml, hown, hts, hG, hK⟩ := id EE
  have hS : sx_S g (fun z => z = o) (fun z => z = o) H0 H0 [] := sx_S.rf
  have hl : lv_has ls 2 [(0, .ref o), (1, .int v)] := hl
  have h_o := k_o
  refine lv_aload_n hx hb d_M_end_0 rfl (lv_at hl 0 rfl) ?_
  refine lv_iconst (v := nI 0) hx hb d_M_end_1 (by decide +kernel) ?_
  refine sx_put (E := (fun z => z = o)) (v := .int (nI (0))) EE h_o rfl i_M t_M tok_M n_M 0 (by decide) rfl fl_M_211 (ty := t_M 0) (by decide +kernel) rfl rfl (Nat.le_of_ble_eq_true rfl) rfl hS d_M_end_2 (fun H locs h_o hJ hs hS => ?_)
  have h_o : va_P D classes [(o, .inr (0, mo_fs r (fun _ => 0)))] H := h_o
  refine lv_iload_n hx hb d_M_end_5 rfl (lv_at hl 1 rfl) ?_
  refine lv_if_lt (tgt := 17) hx hb d_M_end_6 (by decide) (fun q6 => ?_) (fun q6 => ?_)
  · skip
    refine lv_aload_n hx hb d_M_end_17 rfl (lv_at hl 0 rfl) ?_
    refine lv_iconst (v := nI 1) hx hb d_M_end_18 (by decide +kernel) ?_
    refine px_gi (E' := (fun z => z = o)) (V := nI 0) (P := fun H => va_P D classes [(o, .inr (0, mo_fs r (fun k => if k = 0 then (nI (1)) else 0)))] H) (sx_runV (As := [.int (nI (1))]) (rest := []) EE h_o rfl rfl (c_M_fail h_o) w_M_319 rfl ⟨rfl, rfl⟩ ⟨Nat.le_of_ble_eq_true rfl, Nat.le_of_ble_eq_true rfl⟩ ⟨Nat.zero_le _, Nat.zero_le _⟩ hl.1 rfl (Nat.le_of_ble_eq_true rfl) d_M_end_19) (fun _ h => by subst h; simp) hS (fun H locs hJ hP hS => ?_)
    have h_o := hP
    exact hret _ _ _ _ h_o hS d_M_end_22
  · skip
    refine lv_iload_n hx hb d_M_end_9 rfl (lv_at hl 1 rfl) ?_
    refine lv_aload_n hx hb d_M_end_10 rfl (lv_at hl 0 rfl) ?_
    refine sx_get (v := .int (nI (0))) EE h_o rfl i_M 5 (by decide) rfl fl_M_315 rfl d_M_end_11 ?_
    refine lv_icmp_le (tgt := 23) hx hb d_M_end_14 (by decide) (fun q => absurd q (fun z => y0 (Int32.le_antisymm z (Int32.not_lt.mp q6)))) (fun _ => ?_)
    refine lv_aload_n hx hb d_M_end_17 rfl (lv_at hl 0 rfl) ?_
    refine lv_iconst (v := nI 1) hx hb d_M_end_18 (by decide +kernel) ?_
    refine px_gi (E' := (fun z => z = o)) (V := nI 0) (P := fun H => va_P D classes [(o, .inr (0, mo_fs r (fun k => if k = 0 then (nI (1)) else 0)))] H) (sx_runV (As := [.int (nI (1))]) (rest := []) EE h_o rfl rfl (c_M_fail h_o) w_M_319 rfl ⟨rfl, rfl⟩ ⟨Nat.le_of_ble_eq_true rfl, Nat.le_of_ble_eq_true rfl⟩ ⟨Nat.zero_le _, Nat.zero_le _⟩ hl.1 rfl (Nat.le_of_ble_eq_true rfl) d_M_end_19) (fun _ h => by subst h; simp) hS (fun H locs hJ hP hS => ?_)
    have h_o := hP
    exact hret _ _ _ _ h_o hS d_M_end_22
abbrev rm_M_key : Room := { frames := 1, cells := 0, slots := 0, locals := 21 }
set_option maxHeartbeats 4000000 in
set_option maxRecDepth 100000 in
theorem c_M_key {l : Launch} {D : va_G} {g : ClassId → FieldType → Prop} {H0 : Heap} {o : Nat} {r : Nat → Nat} (k_o : va_P D classes [(o, .inr (0, mo_fs r (fun _ => 0)))] H0) : Met l y_M_key (.code y_M_key b_M_key 2 (some .int) :: G_) rm_M_key (sx_Pc [.ref o] H0 D g) (px_Q g (fun z => z = o) H0 (nI 0) (fun H => va_P D classes [(o, .inr (0, mo_fs r (fun k => if k = 0 then (nI (1)) else 0)))] H)) 0 0 (fun z => z = o) := by
  refine px_mi (own := R_M) (V := nI 0) (P := fun H => va_P D classes [(o, .inr (0, mo_fs r (fun k => if k = 0 then (nI (1)) else 0)))] H) (by decide) rfl (Nat.le_of_ble_eq_true rfl) ?_
  intro p e s m args below meth c Q ls EE hl hret
  obtain ⟨hx, hb, hml, hown, hts, hG, hK⟩ := id EE
  have hS : sx_S g (fun z => z = o) (fun z => z = o) H0 H0 [] := sx_S.rf
  have hl : lv_has ls 2 [(0, .ref o)] := hl
  have h_o := k_o
  refine lv_aload_n hx hb d_M_key_0 rfl (lv_at hl 0 rfl) ?_
  refine lv_iconst (v := nI 0) hx hb d_M_key_1 (by decide +kernel) ?_
  refine sx_put (E := (fun z => z = o)) (v := .int (nI (0))) EE h_o rfl i_M t_M tok_M n_M 0 (by decide) rfl fl_M_211 (ty := t_M 0) (by decide +kernel) rfl rfl (Nat.le_of_ble_eq_true rfl) rfl hS d_M_key_2 (fun H locs h_o hJ hs hS => ?_)
  have h_o : va_P D classes [(o, .inr (0, mo_fs r (fun _ => 0)))] H := h_o
  refine lv_aload_n hx hb d_M_key_5 rfl (lv_at hl 0 rfl) ?_
  refine sx_get (v := .int (nI (0))) EE h_o rfl i_M 5 (by decide) rfl fl_M_315 rfl d_M_key_6 ?_
  refine lv_bipush (v := nI 32) hx hb d_M_key_9 (by decide +kernel) ?_
  refine lv_icmp_eq (tgt := 20) hx hb d_M_key_11 (by decide) (fun q => absurd q (by decide +kernel)) (fun _ => ?_)
  refine lv_aload_n hx hb d_M_key_14 rfl (lv_at hl 0 rfl) ?_
  refine lv_iconst (v := nI 1) hx hb d_M_key_15 (by decide +kernel) ?_
  refine px_gi (E' := (fun z => z = o)) (V := nI 0) (P := fun H => va_P D classes [(o, .inr (0, mo_fs r (fun k => if k = 0 then (nI (1)) else 0)))] H) (sx_runV (As := [.int (nI (1))]) (rest := []) EE h_o rfl rfl (c_M_fail h_o) w_M_319 rfl ⟨rfl, rfl⟩ ⟨Nat.le_of_ble_eq_true rfl, Nat.le_of_ble_eq_true rfl⟩ ⟨Nat.zero_le _, Nat.zero_le _⟩ hl.1 rfl (Nat.le_of_ble_eq_true rfl) d_M_key_16) (fun _ h => by subst h; simp) hS (fun H locs hJ hP hS => ?_)
  have h_o := hP
  exact hret _ _ _ _ h_o hS d_M_key_19
abbrev rm_M_verify : Room := { frames := 1, cells := 0, slots := 0, locals := 21 }
set_option maxHeartbeats 4000000 in
set_option maxRecDepth 100000 in
theorem c_M_verify {l : Launch} {D : va_G} {g : ClassId → FieldType → Prop} {H0 : Heap} {o : Nat} {r : Nat → Nat} (k_o : va_P D classes [(o, .inr (0, mo_fs r (fun _ => 0)))] H0) : Met l y_M_verify (.code y_M_verify b_M_verify 2 (some .int) :: G_) rm_M_verify (sx_Pc [.ref o] H0 D g) (px_Q g (fun z => z = o) H0 (nI 0) (fun H => va_P D classes [(o, .inr (0, mo_fs r (fun k => if k = 0 then (nI (1)) else 0)))] H)) 0 0 (fun z => z = o) := by
  refine px_mi (own := R_M) (V := nI 0) (P := fun H => va_P D classes [(o, .inr (0, mo_fs r (fun k => if k = 0 then (nI (1)) else 0)))] H) (by decide) rfl (Nat.le_of_ble_eq_true rfl) ?_
  intro p e s m args below meth c Q ls EE hl hret
  obtain ⟨hx, hb, hml, hown, hts, hG, hK⟩ := id EE
  have hS : sx_S g (fun z => z = o) (fun z => z = o) H0 H0 [] := sx_S.rf
  have hl : lv_has ls 2 [(0, .ref o)] := hl
  have h_o := k_o
  refine lv_aload_n hx hb d_M_verify_0 rfl (lv_at hl 0 rfl) ?_
  refine lv_iconst (v := nI 0) hx hb d_M_verify_1 (by decide +kernel) ?_
  refine sx_put (E := (fun z => z = o)) (v := .int (nI (0))) EE h_o rfl i_M t_M tok_M n_M 0 (by decide) rfl fl_M_211 (ty := t_M 0) (by decide +kernel) rfl rfl (Nat.le_of_ble_eq_true rfl) rfl hS d_M_verify_2 (fun H locs h_o hJ hs hS => ?_)
  have h_o : va_P D classes [(o, .inr (0, mo_fs r (fun _ => 0)))] H := h_o
  refine lv_aload_n hx hb d_M_verify_5 rfl (lv_at hl 0 rfl) ?_
  refine sx_get (v := .int (nI (0))) EE h_o rfl i_M 5 (by decide) rfl fl_M_315 rfl d_M_verify_6 ?_
  refine lv_bipush (v := nI 96) hx hb d_M_verify_9 (by decide +kernel) ?_
  refine lv_icmp_eq (tgt := 20) hx hb d_M_verify_11 (by decide) (fun q => absurd q (by decide +kernel)) (fun _ => ?_)
  refine lv_aload_n hx hb d_M_verify_14 rfl (lv_at hl 0 rfl) ?_
  refine lv_iconst (v := nI 1) hx hb d_M_verify_15 (by decide +kernel) ?_
  refine px_gi (E' := (fun z => z = o)) (V := nI 0) (P := fun H => va_P D classes [(o, .inr (0, mo_fs r (fun k => if k = 0 then (nI (1)) else 0)))] H) (sx_runV (As := [.int (nI (1))]) (rest := []) EE h_o rfl rfl (c_M_fail h_o) w_M_319 rfl ⟨rfl, rfl⟩ ⟨Nat.le_of_ble_eq_true rfl, Nat.le_of_ble_eq_true rfl⟩ ⟨Nat.zero_le _, Nat.zero_le _⟩ hl.1 rfl (Nat.le_of_ble_eq_true rfl) d_M_verify_16) (fun _ h => by subst h; simp) hS (fun H locs hJ hP hS => ?_)
  have h_o := hP
  exact hret _ _ _ _ h_o hS d_M_verify_19
abbrev rm_M_point : Room := { frames := 0, cells := 0, slots := 0, locals := 0 }
set_option maxHeartbeats 4000000 in
set_option maxRecDepth 100000 in
theorem c_M_point {l : Launch} {D : va_G} {g : ClassId → FieldType → Prop} {H0 : Heap} {o : Nat} {r : Nat → Nat} (k_o : va_P D classes [(o, .inr (0, mo_fs r (fun _ => 0)))] H0) : Met l y_M_point (.code y_M_point b_M_point 2 (some .boolean) :: G_) rm_M_point (sx_Pc [.ref o] H0 D g) (px_Q g (fun z => z = o) H0 (nI 0) (fun H => va_P D classes [(o, .inr (0, mo_fs r (fun k => if k = 0 then (nI (1)) else 0)))] H)) 0 0 (fun z => z = o) := by
  refine px_mz (own := R_M) (P := fun H => va_P D classes [(o, .inr (0, mo_fs r (fun k => if k = 0 then (nI (1)) else 0)))] H) (z := 0) (by decide) (by decide) rfl (Nat.le_of_ble_eq_true rfl) ?_
  intro p e s m args below meth c Q ls EE hl hret
  obtain ⟨hx, hb, hml, hown, hts, hG, hK⟩ := id EE
  have hS : sx_S g (fun z => z = o) (fun z => z = o) H0 H0 [] := sx_S.rf
  have hl : lv_has ls 2 [(0, .ref o)] := hl
  have h_o := k_o
  refine lv_aload_n hx hb d_M_point_0 rfl (lv_at hl 0 rfl) ?_
  refine lv_iconst (v := nI 0) hx hb d_M_point_1 (by decide +kernel) ?_
  refine sx_put (E := (fun z => z = o)) (v := .int (nI (0))) EE h_o rfl i_M t_M tok_M n_M 0 (by decide) rfl fl_M_211 (ty := t_M 0) (by decide +kernel) rfl rfl (Nat.le_of_ble_eq_true rfl) rfl hS d_M_point_2 (fun H locs h_o hJ hs hS => ?_)
  have h_o : va_P D classes [(o, .inr (0, mo_fs r (fun _ => 0)))] H := h_o
  refine lv_aload_n hx hb d_M_point_5 rfl (lv_at hl 0 rfl) ?_
  refine sx_get (v := .int (nI (0))) EE h_o rfl i_M 5 (by decide) rfl fl_M_315 rfl d_M_point_6 ?_
  refine lv_bipush (v := nI 32) hx hb d_M_point_9 (by decide +kernel) ?_
  refine lv_icmp_eq (tgt := 21) hx hb d_M_point_11 (by decide) (fun q => absurd q (by decide +kernel)) (fun _ => ?_)
  refine lv_aload_n hx hb d_M_point_14 rfl (lv_at hl 0 rfl) ?_
  refine lv_iconst (v := nI 1) hx hb d_M_point_15 (by decide +kernel) ?_
  refine sx_put (E := (fun z => z = o)) (v := .int (nI (1))) EE h_o rfl i_M t_M tok_M n_M 0 (by decide) rfl fl_M_211 (ty := t_M 0) (by decide +kernel) rfl rfl (Nat.le_of_ble_eq_true rfl) rfl hS d_M_point_16 (fun H locs h_o hJ hs hS => ?_)
  have h_o : va_P D classes [(o, .inr (0, mo_fs r (fun k => if k = 0 then (nI (1)) else 0)))] H := h_o
  refine lv_iconst (v := nI 0) hx hb d_M_point_19 (by decide +kernel) ?_
  exact hret _ _ _ _ h_o hS d_M_point_20
abbrev rm_M_open : Room := { frames := 1, cells := 0, slots := 0, locals := 21 }
set_option maxHeartbeats 4000000 in
set_option maxRecDepth 100000 in
theorem c_M_open {l : Launch} {D : va_G} {g : ClassId → FieldType → Prop} {H0 : Heap} {o : Nat} {r : Nat → Nat} {v w : Int32} (k_o : va_P D classes [(o, .inr (0, mo_fs r (fun _ => 0)))] H0) : Met l y_M_open (.code y_M_open b_M_open 4 none :: G_) rm_M_open (sx_Pc [.ref o, .int v, .int w] H0 D g) (px_Qv g (fun z => z = o) H0 (fun H => va_P D classes [(o, .inr (0, mo_fs r (fun k => if k = 0 then (nI (1)) else 0)))] H)) 0 0 (fun z => z = o) := by
  refine px_mv (own := R_M) (P := fun H => va_P D classes [(o, .inr (0, mo_fs r (fun k => if k = 0 then (nI (1)) else 0)))] H) (by decide) rfl (Nat.le_of_ble_eq_true rfl) ?_
  intro p e s m args below meth c Q ls EE hl hret
  obtain ⟨hx, hb, hml, hown, hts, hG, hK⟩ := id EE
  have hS : sx_S g (fun z => z = o) (fun z => z = o) H0 H0 [] := sx_S.rf
  have hl : lv_has ls 4 [(0, .ref o), (1, .int v), (2, .int w)] := hl
  have h_o := k_o
  refine lv_aload_n hx hb d_M_open_0 rfl (lv_at hl 0 rfl) ?_
  refine lv_aload_n hx hb d_M_open_1 rfl (lv_at hl 0 rfl) ?_
  refine lv_iload_n hx hb d_M_open_2 rfl (lv_at hl 1 rfl) ?_
  refine px_gi (E' := (fun _ => False)) (V := nI 1) (P := fun H => True) (sx_runV (As := [.int v]) (rest := [.ref o]) EE h_o rfl rfl (c_M_none h_o) w_M_328 rfl ⟨rfl, rfl⟩ ⟨Nat.le_of_ble_eq_true rfl, Nat.le_of_ble_eq_true rfl⟩ ⟨Nat.zero_le _, Nat.zero_le _⟩ hl.1 rfl (Nat.le_of_ble_eq_true rfl) d_M_open_3) (fun _ h => h.elim) hS (fun H locs hJ hP hS => ?_)
  have h_o := hJ.ob id h_o
  refine lv_if_eq (tgt := 13) hx hb d_M_open_6 (by decide) (fun q => absurd q (by decide +kernel)) (fun _ => ?_)
  refine lv_iconst (v := nI 1) hx hb d_M_open_9 (by decide +kernel) ?_
  refine lv_goto (tgt := 27) hx hb d_M_open_10 (by decide) ?_
  refine sx_put (E := (fun z => z = o)) (v := .int (nI (1))) EE h_o rfl i_M t_M tok_M n_M 0 (by decide) rfl fl_M_211 (ty := t_M 0) (by decide +kernel) rfl rfl (Nat.le_of_ble_eq_true rfl) rfl hS d_M_open_27 (fun H locs h_o hJ hs hS => ?_)
  have h_o : va_P D classes [(o, .inr (0, mo_fs r (fun k => if k = 0 then (nI (1)) else 0)))] H := h_o
  refine lv_aload_n hx hb d_M_open_30 rfl (lv_at hl 0 rfl) ?_
  refine sx_get (v := .int (nI (1))) EE h_o rfl i_M 0 (by decide) rfl fl_M_211 rfl d_M_open_31 ?_
  refine lv_if_le (tgt := 38) hx hb d_M_open_34 (by decide) (fun q => absurd q (by decide +kernel)) (fun _ => ?_)
  exact hret _ _ _ _ h_o hS d_M_open_37
abbrev rm_M_agree : Room := { frames := 1, cells := 0, slots := 0, locals := 21 }
set_option maxHeartbeats 4000000 in
set_option maxRecDepth 100000 in
theorem c_M_agree {l : Launch} {D : va_G} {g : ClassId → FieldType → Prop} {H0 : Heap} {o : Nat} {r : Nat → Nat} {v : Int32} (k_o : va_P D classes [(o, .inr (0, mo_fs r (fun _ => 0)))] H0) : Met l y_M_agree (.code y_M_agree b_M_agree 3 (some .boolean) :: G_) rm_M_agree (sx_Pc [.ref o, .int v] H0 D g) (px_Q g (fun z => z = o) H0 (nI 0) (fun H => va_P D classes [(o, .inr (0, mo_fs r (fun k => if k = 0 then (nI (1)) else 0)))] H)) 0 0 (fun z => z = o) := by
  refine px_mz (own := R_M) (P := fun H => va_P D classes [(o, .inr (0, mo_fs r (fun k => if k = 0 then (nI (1)) else 0)))] H) (z := 0) (by decide) (by decide) rfl (Nat.le_of_ble_eq_true rfl) ?_
  intro p e s m args below meth c Q ls EE hl hret
  obtain ⟨hx, hb, hml, hown, hts, hG, hK⟩ := id EE
  have hS : sx_S g (fun z => z = o) (fun z => z = o) H0 H0 [] := sx_S.rf
  have hl : lv_has ls 3 [(0, .ref o), (1, .int v)] := hl
  have h_o := k_o
  refine lv_aload_n hx hb d_M_agree_0 rfl (lv_at hl 0 rfl) ?_
  refine lv_aload_n hx hb d_M_agree_1 rfl (lv_at hl 0 rfl) ?_
  refine lv_iload_n hx hb d_M_agree_2 rfl (lv_at hl 1 rfl) ?_
  refine px_gi (E' := (fun _ => False)) (V := nI 1) (P := fun H => True) (sx_runV (As := [.int v]) (rest := [.ref o]) EE h_o rfl rfl (c_M_none h_o) w_M_328 rfl ⟨rfl, rfl⟩ ⟨Nat.le_of_ble_eq_true rfl, Nat.le_of_ble_eq_true rfl⟩ ⟨Nat.zero_le _, Nat.zero_le _⟩ hl.1 rfl (Nat.le_of_ble_eq_true rfl) d_M_agree_3) (fun _ h => h.elim) hS (fun H locs hJ hP hS => ?_)
  have h_o := hJ.ob id h_o
  refine lv_if_eq (tgt := 13) hx hb d_M_agree_6 (by decide) (fun q => absurd q (by decide +kernel)) (fun _ => ?_)
  refine lv_iconst (v := nI 1) hx hb d_M_agree_9 (by decide +kernel) ?_
  refine lv_goto (tgt := 27) hx hb d_M_agree_10 (by decide) ?_
  refine sx_put (E := (fun z => z = o)) (v := .int (nI (1))) EE h_o rfl i_M t_M tok_M n_M 0 (by decide) rfl fl_M_211 (ty := t_M 0) (by decide +kernel) rfl rfl (Nat.le_of_ble_eq_true rfl) rfl hS d_M_agree_27 (fun H locs h_o hJ hs hS => ?_)
  have h_o : va_P D classes [(o, .inr (0, mo_fs r (fun k => if k = 0 then (nI (1)) else 0)))] H := h_o
  refine lv_aload_n hx hb d_M_agree_30 rfl (lv_at hl 0 rfl) ?_
  refine sx_get (v := .int (nI (1))) EE h_o rfl i_M 0 (by decide) rfl fl_M_211 rfl d_M_agree_31 ?_
  refine lv_if_le (tgt := 39) hx hb d_M_agree_34 (by decide) (fun q => absurd q (by decide +kernel)) (fun _ => ?_)
  refine lv_iconst (v := nI 0) hx hb d_M_agree_37 (by decide +kernel) ?_
  exact hret _ _ _ _ h_o hS d_M_agree_38
abbrev rm_M_sign : Room := { frames := 1, cells := 0, slots := 0, locals := 21 }
set_option maxHeartbeats 4000000 in
set_option maxRecDepth 100000 in
theorem c_M_sign {l : Launch} {D : va_G} {g : ClassId → FieldType → Prop} {H0 : Heap} {o : Nat} {r : Nat → Nat} {v : Int32} (k_o : va_P D classes [(o, .inr (0, mo_fs r (fun _ => 0)))] H0) : Met l y_M_sign (.code y_M_sign b_M_sign 3 none :: G_) rm_M_sign (sx_Pc [.ref o, .int v] H0 D g) (px_Qv g (fun z => z = o) H0 (fun H => va_P D classes [(o, .inr (0, mo_fs r (fun k => if k = 0 then (nI (1)) else 0)))] H)) 0 0 (fun z => z = o) := by
  refine px_mv (own := R_M) (P := fun H => va_P D classes [(o, .inr (0, mo_fs r (fun k => if k = 0 then (nI (1)) else 0)))] H) (by decide) rfl (Nat.le_of_ble_eq_true rfl) ?_
  intro p e s m args below meth c Q ls EE hl hret
  obtain ⟨hx, hb, hml, hown, hts, hG, hK⟩ := id EE
  have hS : sx_S g (fun z => z = o) (fun z => z = o) H0 H0 [] := sx_S.rf
  have hl : lv_has ls 3 [(0, .ref o), (1, .int v)] := hl
  have h_o := k_o
  refine lv_aload_n hx hb d_M_sign_0 rfl (lv_at hl 0 rfl) ?_
  refine lv_aload_n hx hb d_M_sign_1 rfl (lv_at hl 0 rfl) ?_
  refine lv_iload_n hx hb d_M_sign_2 rfl (lv_at hl 1 rfl) ?_
  refine px_gi (E' := (fun _ => False)) (V := nI 1) (P := fun H => True) (sx_runV (As := [.int v]) (rest := [.ref o]) EE h_o rfl rfl (c_M_none h_o) w_M_328 rfl ⟨rfl, rfl⟩ ⟨Nat.le_of_ble_eq_true rfl, Nat.le_of_ble_eq_true rfl⟩ ⟨Nat.zero_le _, Nat.zero_le _⟩ hl.1 rfl (Nat.le_of_ble_eq_true rfl) d_M_sign_3) (fun _ h => h.elim) hS (fun H locs hJ hP hS => ?_)
  have h_o := hJ.ob id h_o
  refine lv_if_eq (tgt := 13) hx hb d_M_sign_6 (by decide) (fun q => absurd q (by decide +kernel)) (fun _ => ?_)
  refine lv_iconst (v := nI 1) hx hb d_M_sign_9 (by decide +kernel) ?_
  refine lv_goto (tgt := 14) hx hb d_M_sign_10 (by decide) ?_
  refine sx_put (E := (fun z => z = o)) (v := .int (nI (1))) EE h_o rfl i_M t_M tok_M n_M 0 (by decide) rfl fl_M_211 (ty := t_M 0) (by decide +kernel) rfl rfl (Nat.le_of_ble_eq_true rfl) rfl hS d_M_sign_14 (fun H locs h_o hJ hs hS => ?_)
  have h_o : va_P D classes [(o, .inr (0, mo_fs r (fun k => if k = 0 then (nI (1)) else 0)))] H := h_o
  refine lv_aload_n hx hb d_M_sign_17 rfl (lv_at hl 0 rfl) ?_
  refine sx_get (v := .int (nI (1))) EE h_o rfl i_M 0 (by decide) rfl fl_M_211 rfl d_M_sign_18 ?_
  refine lv_if_le (tgt := 25) hx hb d_M_sign_21 (by decide) (fun q => absurd q (by decide +kernel)) (fun _ => ?_)
  exact hret _ _ _ _ h_o hS d_M_sign_24
abbrev rm_M_message : Room := { frames := 0, cells := 0, slots := 0, locals := 0 }
set_option maxHeartbeats 4000000 in
set_option maxRecDepth 100000 in
theorem c_M_message {l : Launch} {D : va_G} {g : ClassId → FieldType → Prop} {H0 : Heap} {o : Nat} {r : Nat → Nat} (k_o : va_P D classes [(o, .inr (0, mo_fs r (fun _ => 0)))] H0) : Met l y_M_message (.code y_M_message b_M_message 2 (some .int) :: G_) rm_M_message (sx_Pc [.ref o] H0 D g) (px_Q g (fun z => z = o) H0 (nI 0) (fun H => va_P D classes [(o, .inr (0, mo_fs r (fun _ => 0)))] H)) 0 0 (fun z => z = o) := by
  refine px_mi (own := R_M) (V := nI 0) (P := fun H => va_P D classes [(o, .inr (0, mo_fs r (fun _ => 0)))] H) (by decide) rfl (Nat.le_of_ble_eq_true rfl) ?_
  intro p e s m args below meth c Q ls EE hl hret
  obtain ⟨hx, hb, hml, hown, hts, hG, hK⟩ := id EE
  have hS : sx_S g (fun z => z = o) (fun z => z = o) H0 H0 [] := sx_S.rf
  have hl : lv_has ls 2 [(0, .ref o)] := hl
  have h_o := k_o
  refine lv_aload_n hx hb d_M_message_0 rfl (lv_at hl 0 rfl) ?_
  refine lv_iconst (v := nI 0) hx hb d_M_message_1 (by decide +kernel) ?_
  refine sx_put (E := (fun z => z = o)) (v := .int (nI (0))) EE h_o rfl i_M t_M tok_M n_M 0 (by decide) rfl fl_M_211 (ty := t_M 0) (by decide +kernel) rfl rfl (Nat.le_of_ble_eq_true rfl) rfl hS d_M_message_2 (fun H locs h_o hJ hs hS => ?_)
  have h_o : va_P D classes [(o, .inr (0, mo_fs r (fun _ => 0)))] H := h_o
  refine lv_iconst (v := nI 0) hx hb d_M_message_5 (by decide +kernel) ?_
  refine lv_istore_n (lv' := [(1, .int (nI (0))), (0, .ref o)]) hx hb d_M_message_6 rfl hl (by decide) rfl (fun ls hl => ?_)
  refine lv_iload_n hx hb d_M_message_7 rfl (lv_at hl 0 rfl) ?_
  refine lv_aload_n hx hb d_M_message_8 rfl (lv_at hl 1 rfl) ?_
  refine sx_get (v := .int (nI (0))) EE h_o rfl i_M 5 (by decide) rfl fl_M_315 rfl d_M_message_9 ?_
  refine lv_icmp_ge (tgt := 33) hx hb d_M_message_12 (by decide) (fun _ => ?_) (fun q => absurd (by decide +kernel) q)
  refine lv_aload_n hx hb d_M_message_33 rfl (lv_at hl 1 rfl) ?_
  refine lv_aload_n hx hb d_M_message_34 rfl (lv_at hl 1 rfl) ?_
  refine sx_get (v := .int (nI (0))) EE h_o rfl i_M 5 (by decide) rfl fl_M_315 rfl d_M_message_35 ?_
  refine sx_put (E := (fun z => z = o)) (v := .int (nI (0))) EE h_o rfl i_M t_M tok_M n_M 6 (by decide) rfl fl_M_309 (ty := t_M 6) (by decide +kernel) rfl rfl (Nat.le_of_ble_eq_true rfl) rfl hS d_M_message_38 (fun H locs h_o hJ hs hS => ?_)
  have h_o : va_P D classes [(o, .inr (0, mo_fs r (fun _ => 0)))] H := h_o
  refine lv_aload_n hx hb d_M_message_41 rfl (lv_at hl 1 rfl) ?_
  refine lv_iconst (v := nI 0) hx hb d_M_message_42 (by decide +kernel) ?_
  refine sx_put (E := (fun z => z = o)) (v := .int (nI (0))) EE h_o rfl i_M t_M tok_M n_M 5 (by decide) rfl fl_M_315 (ty := t_M 5) (by decide +kernel) rfl rfl (Nat.le_of_ble_eq_true rfl) rfl hS d_M_message_43 (fun H locs h_o hJ hs hS => ?_)
  have h_o : va_P D classes [(o, .inr (0, mo_fs r (fun _ => 0)))] H := h_o
  refine lv_aload_n hx hb d_M_message_46 rfl (lv_at hl 1 rfl) ?_
  refine sx_get (v := .int (nI (0))) EE h_o rfl i_M 6 (by decide) rfl fl_M_309 rfl d_M_message_47 ?_
  exact hret _ _ _ _ h_o hS d_M_message_50
abbrev rm_M_back0 : Room := { frames := 0, cells := 0, slots := 0, locals := 0 }
set_option maxHeartbeats 4000000 in
set_option maxRecDepth 100000 in
theorem c_M_back0 {l : Launch} {D : va_G} {g : ClassId → FieldType → Prop} {H0 : Heap} {o : Nat} {r : Nat → Nat} {w : Int32} (k_o : va_P D classes [(o, .inr (0, mo_fs r (fun _ => 0)))] H0) : Met l y_M_back (.code y_M_back b_M_back 4 (some .int) :: G_) rm_M_back0 (sx_Pc [.ref o, .int (-1), .int w] H0 D g) (px_Q g (fun z => z = o) H0 (nI 0) (fun H => va_P D classes [(o, .inr (0, mo_fs r (fun _ => 0)))] H)) 0 0 (fun z => z = o) := by
  refine px_mi (own := R_M) (V := nI 0) (P := fun H => va_P D classes [(o, .inr (0, mo_fs r (fun _ => 0)))] H) (by decide) rfl (Nat.le_of_ble_eq_true rfl) ?_
  intro p e s m args below meth c Q ls EE hl hret
  obtain ⟨hx, hb, hml, hown, hts, hG, hK⟩ := id EE
  have hS : sx_S g (fun z => z = o) (fun z => z = o) H0 H0 [] := sx_S.rf
  have hl : lv_has ls 4 [(0, .ref o), (1, .int (-1)), (2, .int w)] := hl
  have h_o := k_o
  refine lv_aload_n hx hb d_M_back_0 rfl (lv_at hl 0 rfl) ?_
  refine lv_iconst (v := nI 0) hx hb d_M_back_1 (by decide +kernel) ?_
  refine sx_put (E := (fun z => z = o)) (v := .int (nI (0))) EE h_o rfl i_M t_M tok_M n_M 0 (by decide) rfl fl_M_211 (ty := t_M 0) (by decide +kernel) rfl rfl (Nat.le_of_ble_eq_true rfl) rfl hS d_M_back_2 (fun H locs h_o hJ hs hS => ?_)
  have h_o : va_P D classes [(o, .inr (0, mo_fs r (fun _ => 0)))] H := h_o
  refine lv_iload_n hx hb d_M_back_5 rfl (lv_at hl 1 rfl) ?_
  refine lv_iconst (v := (-1)) hx hb d_M_back_6 (by decide +kernel) ?_
  refine lv_icmp_lt (tgt := 18) hx hb d_M_back_7 (by decide) (fun q => absurd q (by decide +kernel)) (fun _ => ?_)
  refine lv_iload_n hx hb d_M_back_10 rfl (lv_at hl 1 rfl) ?_
  refine lv_aload_n hx hb d_M_back_11 rfl (lv_at hl 0 rfl) ?_
  refine sx_get (v := .int (nI (0))) EE h_o rfl i_M 7 (by decide) rfl fl_M_325 rfl d_M_back_12 ?_
  refine lv_icmp_lt (tgt := 24) hx hb d_M_back_15 (by decide) (fun _ => ?_) (fun q => absurd (by decide +kernel) q)
  refine lv_aload_n hx hb d_M_back_24 rfl (lv_at hl 0 rfl) ?_
  refine sx_get (v := .int (nI (0))) EE h_o rfl i_M 5 (by decide) rfl fl_M_315 rfl d_M_back_25 ?_
  refine lv_aload_n hx hb d_M_back_28 rfl (lv_at hl 0 rfl) ?_
  refine sx_get (v := .int (nI (0))) EE h_o rfl i_M 7 (by decide) rfl fl_M_325 rfl d_M_back_29 ?_
  refine lv_iadd hx hb d_M_back_32 ?_
  refine sx_ti (y := nI (0)) (nI_add _ _) ?_
  refine lv_ldc (v := (nI 65536)) hx hb hown (hts (.constant R_M 7 (nI 65536)) (by decide +kernel)) d_M_back_33 ?_
  refine lv_icmp_le (tgt := 44) hx hb d_M_back_35 (by decide) (fun _ => ?_) (fun q => absurd (by decide +kernel) q)
  refine lv_iconst (v := nI 0) hx hb d_M_back_44 (by decide +kernel) ?_
  refine lv_istore_n (lv' := [(3, .int (nI (0))), (0, .ref o), (1, .int (-1)), (2, .int w)]) hx hb d_M_back_45 rfl hl (by decide) rfl (fun ls hl => ?_)
  refine lv_iload_n hx hb d_M_back_46 rfl (lv_at hl 0 rfl) ?_
  refine lv_aload_n hx hb d_M_back_47 rfl (lv_at hl 1 rfl) ?_
  refine sx_get (v := .int (nI (0))) EE h_o rfl i_M 7 (by decide) rfl fl_M_325 rfl d_M_back_48 ?_
  refine lv_icmp_ge (tgt := 89) hx hb d_M_back_51 (by decide) (fun _ => ?_) (fun q => absurd (by decide +kernel) q)
  refine lv_aload_n hx hb d_M_back_89 rfl (lv_at hl 1 rfl) ?_
  refine lv_dup hx hb d_M_back_90 rfl ?_
  refine sx_get (v := .int (nI (0))) EE h_o rfl i_M 5 (by decide) rfl fl_M_315 rfl d_M_back_91 ?_
  refine lv_aload_n hx hb d_M_back_94 rfl (lv_at hl 1 rfl) ?_
  refine sx_get (v := .int (nI (0))) EE h_o rfl i_M 7 (by decide) rfl fl_M_325 rfl d_M_back_95 ?_
  refine lv_iadd hx hb d_M_back_98 ?_
  refine sx_ti (y := nI (0)) (nI_add _ _) ?_
  refine sx_put (E := (fun z => z = o)) (v := .int (nI (0))) EE h_o rfl i_M t_M tok_M n_M 5 (by decide) rfl fl_M_315 (ty := t_M 5) (by decide +kernel) rfl rfl (Nat.le_of_ble_eq_true rfl) rfl hS d_M_back_99 (fun H locs h_o hJ hs hS => ?_)
  have h_o : va_P D classes [(o, .inr (0, mo_fs r (fun _ => 0)))] H := h_o
  refine lv_aload_n hx hb d_M_back_102 rfl (lv_at hl 1 rfl) ?_
  refine sx_get (v := .int (nI (0))) EE h_o rfl i_M 5 (by decide) rfl fl_M_315 rfl d_M_back_103 ?_
  exact hret _ _ _ _ h_o hS d_M_back_106
abbrev rm_M_back : Room := { frames := 1, cells := 0, slots := 0, locals := 21 }
set_option maxHeartbeats 4000000 in
set_option maxRecDepth 100000 in
theorem c_M_back {l : Launch} {D : va_G} {g : ClassId → FieldType → Prop} {H0 : Heap} {o : Nat} {r : Nat → Nat} {v w : Int32} (k_o : va_P D classes [(o, .inr (0, mo_fs r (fun _ => 0)))] H0) (y0 : v ≠ -1) : Met l y_M_back (.code y_M_back b_M_back 4 (some .int) :: G_) rm_M_back (sx_Pc [.ref o, .int v, .int w] H0 D g) (px_Q g (fun z => z = o) H0 (nI 0) (fun H => va_P D classes [(o, .inr (0, mo_fs r (fun k => if k = 0 then (nI (1)) else 0)))] H)) 0 0 (fun z => z = o) := by
  refine px_mi (own := R_M) (V := nI 0) (P := fun H => va_P D classes [(o, .inr (0, mo_fs r (fun k => if k = 0 then (nI (1)) else 0)))] H) (by decide) rfl (Nat.le_of_ble_eq_true rfl) ?_
  intro p e s m args below meth c Q ls EE hl hret
  obtain ⟨hx, hb, hml, hown, hts, hG, hK⟩ := id EE
  have hS : sx_S g (fun z => z = o) (fun z => z = o) H0 H0 [] := sx_S.rf
  have hl : lv_has ls 4 [(0, .ref o), (1, .int v), (2, .int w)] := hl
  have h_o := k_o
  refine lv_aload_n hx hb d_M_back_0 rfl (lv_at hl 0 rfl) ?_
  refine lv_iconst (v := nI 0) hx hb d_M_back_1 (by decide +kernel) ?_
  refine sx_put (E := (fun z => z = o)) (v := .int (nI (0))) EE h_o rfl i_M t_M tok_M n_M 0 (by decide) rfl fl_M_211 (ty := t_M 0) (by decide +kernel) rfl rfl (Nat.le_of_ble_eq_true rfl) rfl hS d_M_back_2 (fun H locs h_o hJ hs hS => ?_)
  have h_o : va_P D classes [(o, .inr (0, mo_fs r (fun _ => 0)))] H := h_o
  refine lv_iload_n hx hb d_M_back_5 rfl (lv_at hl 1 rfl) ?_
  refine lv_iconst (v := (-1)) hx hb d_M_back_6 (by decide +kernel) ?_
  refine lv_icmp_lt (tgt := 18) hx hb d_M_back_7 (by decide) (fun q7 => ?_) (fun q7 => ?_)
  · skip
    refine lv_aload_n hx hb d_M_back_18 rfl (lv_at hl 0 rfl) ?_
    refine lv_iconst (v := nI 1) hx hb d_M_back_19 (by decide +kernel) ?_
    refine px_gi (E' := (fun z => z = o)) (V := nI 0) (P := fun H => va_P D classes [(o, .inr (0, mo_fs r (fun k => if k = 0 then (nI (1)) else 0)))] H) (sx_runV (As := [.int (nI (1))]) (rest := []) EE h_o rfl rfl (c_M_fail h_o) w_M_319 rfl ⟨rfl, rfl⟩ ⟨Nat.le_of_ble_eq_true rfl, Nat.le_of_ble_eq_true rfl⟩ ⟨Nat.zero_le _, Nat.zero_le _⟩ hl.1 rfl (Nat.le_of_ble_eq_true rfl) d_M_back_20) (fun _ h => by subst h; simp) hS (fun H locs hJ hP hS => ?_)
    have h_o := hP
    exact hret _ _ _ _ h_o hS d_M_back_23
  · skip
    refine lv_iload_n hx hb d_M_back_10 rfl (lv_at hl 1 rfl) ?_
    refine lv_aload_n hx hb d_M_back_11 rfl (lv_at hl 0 rfl) ?_
    refine sx_get (v := .int (nI (0))) EE h_o rfl i_M 7 (by decide) rfl fl_M_325 rfl d_M_back_12 ?_
    refine lv_icmp_lt (tgt := 24) hx hb d_M_back_15 (by decide) (fun q => absurd q (fun z => y0 (px_m1 q7 z))) (fun _ => ?_)
    refine lv_aload_n hx hb d_M_back_18 rfl (lv_at hl 0 rfl) ?_
    refine lv_iconst (v := nI 1) hx hb d_M_back_19 (by decide +kernel) ?_
    refine px_gi (E' := (fun z => z = o)) (V := nI 0) (P := fun H => va_P D classes [(o, .inr (0, mo_fs r (fun k => if k = 0 then (nI (1)) else 0)))] H) (sx_runV (As := [.int (nI (1))]) (rest := []) EE h_o rfl rfl (c_M_fail h_o) w_M_319 rfl ⟨rfl, rfl⟩ ⟨Nat.le_of_ble_eq_true rfl, Nat.le_of_ble_eq_true rfl⟩ ⟨Nat.zero_le _, Nat.zero_le _⟩ hl.1 rfl (Nat.le_of_ble_eq_true rfl) d_M_back_20) (fun _ h => by subst h; simp) hS (fun H locs hJ hP hS => ?_)
    have h_o := hP
    exact hret _ _ _ _ h_o hS d_M_back_23
abbrev rm_M_result : Room := { frames := 1, cells := 0, slots := 0, locals := 21 }
set_option maxHeartbeats 4000000 in
set_option maxRecDepth 100000 in
theorem c_M_result {l : Launch} {D : va_G} {g : ClassId → FieldType → Prop} {H0 : Heap} {o : Nat} {r : Nat → Nat} {v : Int32} (k_o : va_P D classes [(o, .inr (0, mo_fs r (fun _ => 0)))] H0) : Met l y_M_result (.code y_M_result b_M_result 2 (some .int) :: G_) rm_M_result (sx_Pc [.ref o, .int v] H0 D g) (px_Q g (fun z => z = o) H0 (nI 0) (fun H => va_P D classes [(o, .inr (0, mo_fs r (fun k => if k = 0 then (nI (1)) else 0)))] H)) 0 0 (fun z => z = o) := by
  refine px_mi (own := R_M) (V := nI 0) (P := fun H => va_P D classes [(o, .inr (0, mo_fs r (fun k => if k = 0 then (nI (1)) else 0)))] H) (by decide) rfl (Nat.le_of_ble_eq_true rfl) ?_
  intro p e s m args below meth c Q ls EE hl hret
  obtain ⟨hx, hb, hml, hown, hts, hG, hK⟩ := id EE
  have hS : sx_S g (fun z => z = o) (fun z => z = o) H0 H0 [] := sx_S.rf
  have hl : lv_has ls 2 [(0, .ref o), (1, .int v)] := hl
  have h_o := k_o
  refine lv_aload_n hx hb d_M_result_0 rfl (lv_at hl 0 rfl) ?_
  refine lv_iconst (v := nI 0) hx hb d_M_result_1 (by decide +kernel) ?_
  refine sx_put (E := (fun z => z = o)) (v := .int (nI (0))) EE h_o rfl i_M t_M tok_M n_M 0 (by decide) rfl fl_M_211 (ty := t_M 0) (by decide +kernel) rfl rfl (Nat.le_of_ble_eq_true rfl) rfl hS d_M_result_2 (fun H locs h_o hJ hs hS => ?_)
  have h_o : va_P D classes [(o, .inr (0, mo_fs r (fun _ => 0)))] H := h_o
  refine lv_iload_n hx hb d_M_result_5 rfl (lv_at hl 1 rfl) ?_
  refine lv_if_lt (tgt := 17) hx hb d_M_result_6 (by decide) (fun q6 => ?_) (fun q6 => ?_)
  · skip
    refine lv_aload_n hx hb d_M_result_17 rfl (lv_at hl 0 rfl) ?_
    refine lv_iconst (v := nI 1) hx hb d_M_result_18 (by decide +kernel) ?_
    refine px_gi (E' := (fun z => z = o)) (V := nI 0) (P := fun H => va_P D classes [(o, .inr (0, mo_fs r (fun k => if k = 0 then (nI (1)) else 0)))] H) (sx_runV (As := [.int (nI (1))]) (rest := []) EE h_o rfl rfl (c_M_fail h_o) w_M_319 rfl ⟨rfl, rfl⟩ ⟨Nat.le_of_ble_eq_true rfl, Nat.le_of_ble_eq_true rfl⟩ ⟨Nat.zero_le _, Nat.zero_le _⟩ hl.1 rfl (Nat.le_of_ble_eq_true rfl) d_M_result_19) (fun _ h => by subst h; simp) hS (fun H locs hJ hP hS => ?_)
    have h_o := hP
    exact hret _ _ _ _ h_o hS d_M_result_22
  · skip
    refine lv_iload_n hx hb d_M_result_9 rfl (lv_at hl 1 rfl) ?_
    refine lv_aload_n hx hb d_M_result_10 rfl (lv_at hl 0 rfl) ?_
    refine sx_get (v := .int (nI (0))) EE h_o rfl i_M 7 (by decide) rfl fl_M_325 rfl d_M_result_11 ?_
    refine lv_icmp_lt (tgt := 23) hx hb d_M_result_14 (by decide) (fun q => absurd q q6) (fun _ => ?_)
    refine lv_aload_n hx hb d_M_result_17 rfl (lv_at hl 0 rfl) ?_
    refine lv_iconst (v := nI 1) hx hb d_M_result_18 (by decide +kernel) ?_
    refine px_gi (E' := (fun z => z = o)) (V := nI 0) (P := fun H => va_P D classes [(o, .inr (0, mo_fs r (fun k => if k = 0 then (nI (1)) else 0)))] H) (sx_runV (As := [.int (nI (1))]) (rest := []) EE h_o rfl rfl (c_M_fail h_o) w_M_319 rfl ⟨rfl, rfl⟩ ⟨Nat.le_of_ble_eq_true rfl, Nat.le_of_ble_eq_true rfl⟩ ⟨Nat.zero_le _, Nat.zero_le _⟩ hl.1 rfl (Nat.le_of_ble_eq_true rfl) d_M_result_19) (fun _ h => by subst h; simp) hS (fun H locs hJ hP hS => ?_)
    have h_o := hP
    exact hret _ _ _ _ h_o hS d_M_result_22
