abbrev rm_K_count : Room := { frames := 0, cells := 0, slots := 0, locals := 0 }
set_option maxHeartbeats 4000000 in
set_option maxRecDepth 100000 in
theorem c_K_count {l : Launch} {D : va_G} {g : ClassId → FieldType → Prop} {H0 : Heap} {x : Nat} {r rt rm : Nat → Nat} {v : Int32} (k_x : va_P D classes [(x, .inr (1, [.ref (r 0), .ref (r 1), .ref (r 2), .ref (r 3), .ref (r 4), .ref (r 5), .ref (r 6), .ref (r 7), .int (nI (0)), .int (nI (0)), .int (nI (0)), .int (nI (0))]))] H0) (k_r6 : va_P D classes [(r 6, .inr (9, [.ref (rt 0), .int (nI (0))]))] H0) (k_r7 : va_P D classes [(r 7, .inr (9, [.ref (rm 0), .int (nI (0))]))] H0) (f_rt0 : sx_A g .byte H0 (rt 0) 1024) (x_rt0 : sx_L H0 (rt 0) 1024) (f_r1 : sx_A g .byte H0 (r 1) 64) (f_r2 : sx_A g .int H0 (r 2) 4) (n_x_r6 : x ≠ r 6) (n_x_r7 : x ≠ r 7) (n_r6_r7 : r 6 ≠ r 7) (z_r2 : zi_ H0 (r 2) 4) : Met l y_K_count (.code y_K_count b_K_count 2 (some .int) :: G_) rm_K_count (sx_Pc [.ref x, .int v] H0 D g) (px_Q g (fun _ => False) H0 (cnt_ v) (fun H => True)) 0 0 (fun _ => False) := by
  refine px_mi (own := R_K) (V := cnt_ v) (P := fun H => True) (by decide) rfl (Nat.le_of_ble_eq_true rfl) ?_
  intro p e s m args below meth c Q ls EE hl hret
  obtain ⟨hx, hb, hml, hown, hts, hG, hK⟩ := id EE
  have hS : sx_S g (fun _ => False) (fun _ => False) H0 H0 [] := sx_S.rf
  have hl : lv_has ls 2 [(0, .ref x), (1, .int v)] := hl
  have h_x := k_x
  have h_r6 := k_r6
  have h_r7 := k_r7
  refine lv_iload_n hx hb d_K_count_0 rfl (lv_at hl 1 rfl) ?_
  by_cases hv : v.toInt < 0 ∨ 9 < v.toInt
  · have ev : cnt_ v = -1 := if_pos hv
    rw [ev] at hret
    refine lv_tableOut (tgt := 101) hx hb d_K_count_1 hv (by decide) ?_
    refine lv_iconst (v := (-1)) hx hb d_K_count_101 (by decide +kernel) ?_
    exact hret _ _ _ _ trivial hS d_K_count_102
  · have ev : cnt_ v = nI 0 := if_neg hv
    rw [ev] at hret
    rcases px_ten hv with rfl | rfl | rfl | rfl | rfl | rfl | rfl | rfl | rfl | rfl
    · skip
      refine lv_tableIn (off := 55) (tgt := 56) hx hb d_K_count_1 (by decide +kernel) (by decide +kernel) (by decide +kernel) (by decide) ?_
      refine lv_aload_n hx hb d_K_count_56 rfl (lv_at hl 0 rfl) ?_
      refine sx_get (v := .ref (r 6)) EE h_x rfl i_K 6 (by decide) rfl fl_K_54 rfl d_K_count_57 ?_
      refine sx_getN (v := .int (nI (0))) EE h_r6 rfl i_Ro 1 (by decide) rfl fn_K_76 rfl d_K_count_60 ?_
      exact hret _ _ _ _ trivial hS d_K_count_63
    · skip
      refine lv_tableIn (off := 63) (tgt := 64) hx hb d_K_count_1 (by decide +kernel) (by decide +kernel) (by decide +kernel) (by decide) ?_
      refine lv_aload_n hx hb d_K_count_64 rfl (lv_at hl 0 rfl) ?_
      refine sx_get (v := .int (nI (0))) EE h_x rfl i_K 8 (by decide) rfl fl_K_88 rfl d_K_count_65 ?_
      exact hret _ _ _ _ trivial hS d_K_count_68
    · skip
      refine lv_tableIn (off := 68) (tgt := 69) hx hb d_K_count_1 (by decide +kernel) (by decide +kernel) (by decide +kernel) (by decide) ?_
      refine lv_aload_n hx hb d_K_count_69 rfl (lv_at hl 0 rfl) ?_
      refine sx_get (v := .ref (r 7)) EE h_x rfl i_K 7 (by decide) rfl fl_K_58 rfl d_K_count_70 ?_
      refine sx_getN (v := .int (nI (0))) EE h_r7 rfl i_Ro 1 (by decide) rfl fn_K_76 rfl d_K_count_73 ?_
      exact hret _ _ _ _ trivial hS d_K_count_76
    · skip
      refine lv_tableIn (off := 76) (tgt := 77) hx hb d_K_count_1 (by decide +kernel) (by decide +kernel) (by decide +kernel) (by decide) ?_
      refine lv_aload_n hx hb d_K_count_77 rfl (lv_at hl 0 rfl) ?_
      refine sx_get (v := .int (nI (0))) EE h_x rfl i_K 9 (by decide) rfl fl_K_123 rfl d_K_count_78 ?_
      exact hret _ _ _ _ trivial hS d_K_count_81
    · skip
      refine lv_tableIn (off := 81) (tgt := 82) hx hb d_K_count_1 (by decide +kernel) (by decide +kernel) (by decide +kernel) (by decide) ?_
      refine lv_aload_n hx hb d_K_count_82 rfl (lv_at hl 0 rfl) ?_
      refine sx_get (v := .int (nI (0))) EE h_x rfl i_K 10 (by decide) rfl fl_K_141 rfl d_K_count_83 ?_
      exact hret _ _ _ _ trivial hS d_K_count_86
    · skip
      refine lv_tableIn (off := 86) (tgt := 87) hx hb d_K_count_1 (by decide +kernel) (by decide +kernel) (by decide +kernel) (by decide) ?_
      refine lv_aload_n hx hb d_K_count_87 rfl (lv_at hl 0 rfl) ?_
      refine sx_get (v := .ref (r 2)) EE h_x rfl i_K 2 (by decide) rfl fl_K_22 rfl d_K_count_88 ?_
      refine lv_iload_n hx hb d_K_count_91 rfl (lv_at hl 1 rfl) ?_
      refine lv_iconst (v := nI 5) hx hb d_K_count_92 (by decide +kernel) ?_
      refine lv_isub hx hb d_K_count_93 ?_
      refine sx_ti (y := nI (0)) (pk_sub (by omega)) ?_
      refine px_zld hx hb hG z_r2 f_r2 (sx_in (by omega) (by decide)) d_K_count_94 ?_
      exact hret _ _ _ _ trivial hS d_K_count_95
    · skip
      refine lv_tableIn (off := 86) (tgt := 87) hx hb d_K_count_1 (by decide +kernel) (by decide +kernel) (by decide +kernel) (by decide) ?_
      refine lv_aload_n hx hb d_K_count_87 rfl (lv_at hl 0 rfl) ?_
      refine sx_get (v := .ref (r 2)) EE h_x rfl i_K 2 (by decide) rfl fl_K_22 rfl d_K_count_88 ?_
      refine lv_iload_n hx hb d_K_count_91 rfl (lv_at hl 1 rfl) ?_
      refine lv_iconst (v := nI 5) hx hb d_K_count_92 (by decide +kernel) ?_
      refine lv_isub hx hb d_K_count_93 ?_
      refine sx_ti (y := nI (1)) (pk_sub (by omega)) ?_
      refine px_zld hx hb hG z_r2 f_r2 (sx_in (by omega) (by decide)) d_K_count_94 ?_
      exact hret _ _ _ _ trivial hS d_K_count_95
    · skip
      refine lv_tableIn (off := 86) (tgt := 87) hx hb d_K_count_1 (by decide +kernel) (by decide +kernel) (by decide +kernel) (by decide) ?_
      refine lv_aload_n hx hb d_K_count_87 rfl (lv_at hl 0 rfl) ?_
      refine sx_get (v := .ref (r 2)) EE h_x rfl i_K 2 (by decide) rfl fl_K_22 rfl d_K_count_88 ?_
      refine lv_iload_n hx hb d_K_count_91 rfl (lv_at hl 1 rfl) ?_
      refine lv_iconst (v := nI 5) hx hb d_K_count_92 (by decide +kernel) ?_
      refine lv_isub hx hb d_K_count_93 ?_
      refine sx_ti (y := nI (2)) (pk_sub (by omega)) ?_
      refine px_zld hx hb hG z_r2 f_r2 (sx_in (by omega) (by decide)) d_K_count_94 ?_
      exact hret _ _ _ _ trivial hS d_K_count_95
    · skip
      refine lv_tableIn (off := 86) (tgt := 87) hx hb d_K_count_1 (by decide +kernel) (by decide +kernel) (by decide +kernel) (by decide) ?_
      refine lv_aload_n hx hb d_K_count_87 rfl (lv_at hl 0 rfl) ?_
      refine sx_get (v := .ref (r 2)) EE h_x rfl i_K 2 (by decide) rfl fl_K_22 rfl d_K_count_88 ?_
      refine lv_iload_n hx hb d_K_count_91 rfl (lv_at hl 1 rfl) ?_
      refine lv_iconst (v := nI 5) hx hb d_K_count_92 (by decide +kernel) ?_
      refine lv_isub hx hb d_K_count_93 ?_
      refine sx_ti (y := nI (3)) (pk_sub (by omega)) ?_
      refine px_zld hx hb hG z_r2 f_r2 (sx_in (by omega) (by decide)) d_K_count_94 ?_
      exact hret _ _ _ _ trivial hS d_K_count_95
    · skip
      refine lv_tableIn (off := 95) (tgt := 96) hx hb d_K_count_1 (by decide +kernel) (by decide +kernel) (by decide +kernel) (by decide) ?_
      refine lv_aload_n hx hb d_K_count_96 rfl (lv_at hl 0 rfl) ?_
      refine sx_get (v := .int (nI (0))) EE h_x rfl i_K 11 (by decide) rfl fl_K_134 rfl d_K_count_97 ?_
      exact hret _ _ _ _ trivial hS d_K_count_100
abbrev rm_M_count : Room := { frames := 0, cells := 0, slots := 0, locals := 0 }
set_option maxHeartbeats 4000000 in
set_option maxRecDepth 100000 in
theorem c_M_count {l : Launch} {D : va_G} {g : ClassId → FieldType → Prop} {H0 : Heap} {o : Nat} {r : Nat → Nat} {v : Int32} (k_o : va_P D classes [(o, .inr (0, mo_fs r (fun _ => 0)))] H0) (f_r9 : sx_A g .int H0 (r 9) 6) (z_r9 : zi_ H0 (r 9) 6) : Met l y_M_count (.code y_M_count b_M_count 2 (some .int) :: G_) rm_M_count (sx_Pc [.ref o, .int v] H0 D g) (px_Q g (fun z => z = o) H0 (cnt_ v) (fun H => va_P D classes [(o, .inr (0, mo_fs r (fun _ => 0)))] H)) 0 0 (fun z => z = o) := by
  refine px_mi (own := R_M) (V := cnt_ v) (P := fun H => va_P D classes [(o, .inr (0, mo_fs r (fun _ => 0)))] H) (by decide) rfl (Nat.le_of_ble_eq_true rfl) ?_
  intro p e s m args below meth c Q ls EE hl hret
  obtain ⟨hx, hb, hml, hown, hts, hG, hK⟩ := id EE
  have hS : sx_S g (fun z => z = o) (fun z => z = o) H0 H0 [] := sx_S.rf
  have hl : lv_has ls 2 [(0, .ref o), (1, .int v)] := hl
  have h_o := k_o
  refine lv_aload_n hx hb d_M_count_0 rfl (lv_at hl 0 rfl) ?_
  refine lv_iconst (v := nI 0) hx hb d_M_count_1 (by decide +kernel) ?_
  refine sx_put (E := (fun z => z = o)) (v := .int (nI (0))) EE h_o rfl i_M t_M tok_M n_M 0 (by decide) rfl fl_M_211 (ty := t_M 0) (by decide +kernel) rfl rfl (Nat.le_of_ble_eq_true rfl) rfl hS d_M_count_2 (fun H locs h_o hJ hs hS => ?_)
  have h_o : va_P D classes [(o, .inr (0, mo_fs r (fun _ => 0)))] H := h_o
  refine lv_iload_n hx hb d_M_count_5 rfl (lv_at hl 1 rfl) ?_
  have z_r9 := z_r9.kept (hs _ (Ne.symm (px_ne hG hK.1 k_o f_r9)))
  have f_r9' := hS.a f_r9
  by_cases hv : v.toInt < 0 ∨ 9 < v.toInt
  · have ev : cnt_ v = -1 := if_pos hv
    rw [ev] at hret
    refine lv_tableOut (tgt := 56) hx hb d_M_count_6 (hv.elim Or.inl (fun z => Or.inr (by omega))) (by decide) ?_
    refine lv_iload_n hx hb d_M_count_56 rfl (lv_at hl 1 rfl) ?_
    refine lv_iconst (v := nI 3) hx hb d_M_count_57 (by decide +kernel) ?_
    refine lv_icmp_le (tgt := 78) hx hb d_M_count_58 (by decide) (fun q58 => ?_) (fun q58 => ?_)
    · skip
      refine lv_iconst (v := (-1)) hx hb d_M_count_78 (by decide +kernel) ?_
      exact hret _ _ _ _ h_o hS d_M_count_79
    · skip
      refine lv_iload_n hx hb d_M_count_61 rfl (lv_at hl 1 rfl) ?_
      refine lv_bipush (v := nI 10) hx hb d_M_count_62 (by decide +kernel) ?_
      refine lv_icmp_ge (tgt := 78) hx hb d_M_count_64 (by decide) (fun _ => ?_) (fun q => absurd (hv.elim (fun z => absurd (by rw [Int32.le_iff_toInt_le, px_i3]; omega) q58) (fun z => by rw [Int32.le_iff_toInt_le, px_i10]; omega)) q)
      refine lv_iconst (v := (-1)) hx hb d_M_count_78 (by decide +kernel) ?_
      exact hret _ _ _ _ h_o hS d_M_count_79
  · have ev : cnt_ v = nI 0 := if_neg hv
    rw [ev] at hret
    rcases px_ten hv with rfl | rfl | rfl | rfl | rfl | rfl | rfl | rfl | rfl | rfl
    · skip
      refine lv_tableIn (off := 30) (tgt := 36) hx hb d_M_count_6 (by decide +kernel) (by decide +kernel) (by decide +kernel) (by decide) ?_
      refine lv_aload_n hx hb d_M_count_36 rfl (lv_at hl 0 rfl) ?_
      refine sx_get (v := .int (nI (0))) EE h_o rfl i_M 5 (by decide) rfl fl_M_315 rfl d_M_count_37 ?_
      exact hret _ _ _ _ h_o hS d_M_count_40
    · skip
      refine lv_tableIn (off := 35) (tgt := 41) hx hb d_M_count_6 (by decide +kernel) (by decide +kernel) (by decide +kernel) (by decide) ?_
      refine lv_aload_n hx hb d_M_count_41 rfl (lv_at hl 0 rfl) ?_
      refine sx_get (v := .int (nI (0))) EE h_o rfl i_M 8 (by decide) rfl fl_M_322 rfl d_M_count_42 ?_
      exact hret _ _ _ _ h_o hS d_M_count_45
    · skip
      refine lv_tableIn (off := 40) (tgt := 46) hx hb d_M_count_6 (by decide +kernel) (by decide +kernel) (by decide +kernel) (by decide) ?_
      refine lv_aload_n hx hb d_M_count_46 rfl (lv_at hl 0 rfl) ?_
      refine sx_get (v := .int (nI (0))) EE h_o rfl i_M 6 (by decide) rfl fl_M_309 rfl d_M_count_47 ?_
      exact hret _ _ _ _ h_o hS d_M_count_50
    · skip
      refine lv_tableIn (off := 45) (tgt := 51) hx hb d_M_count_6 (by decide +kernel) (by decide +kernel) (by decide +kernel) (by decide) ?_
      refine lv_aload_n hx hb d_M_count_51 rfl (lv_at hl 0 rfl) ?_
      refine sx_get (v := .int (nI (0))) EE h_o rfl i_M 7 (by decide) rfl fl_M_325 rfl d_M_count_52 ?_
      exact hret _ _ _ _ h_o hS d_M_count_55
    · skip
      refine lv_tableOut (tgt := 56) hx hb d_M_count_6 (by decide +kernel) (by decide) ?_
      refine lv_iload_n hx hb d_M_count_56 rfl (lv_at hl 1 rfl) ?_
      refine lv_iconst (v := nI 3) hx hb d_M_count_57 (by decide +kernel) ?_
      refine lv_icmp_le (tgt := 78) hx hb d_M_count_58 (by decide) (fun q => absurd q (by decide +kernel)) (fun _ => ?_)
      refine lv_iload_n hx hb d_M_count_61 rfl (lv_at hl 1 rfl) ?_
      refine lv_bipush (v := nI 10) hx hb d_M_count_62 (by decide +kernel) ?_
      refine lv_icmp_ge (tgt := 78) hx hb d_M_count_64 (by decide) (fun q => absurd q (by decide +kernel)) (fun _ => ?_)
      refine lv_aload_n hx hb d_M_count_67 rfl (lv_at hl 0 rfl) ?_
      refine sx_get (v := .ref (r 9)) EE h_o rfl i_M 9 (by decide) rfl fl_M_23 rfl d_M_count_68 ?_
      refine lv_iload_n hx hb d_M_count_71 rfl (lv_at hl 1 rfl) ?_
      refine lv_iconst (v := nI 4) hx hb d_M_count_72 (by decide +kernel) ?_
      refine lv_isub hx hb d_M_count_73 ?_
      refine sx_ti (y := nI (0)) (pk_sub (by omega)) ?_
      refine px_zld hx hb hG z_r9 f_r9' (sx_in (by omega) (by decide)) d_M_count_74 ?_
      refine lv_goto (tgt := 79) hx hb d_M_count_75 (by decide) ?_
      exact hret _ _ _ _ h_o hS d_M_count_79
    · skip
      refine lv_tableOut (tgt := 56) hx hb d_M_count_6 (by decide +kernel) (by decide) ?_
      refine lv_iload_n hx hb d_M_count_56 rfl (lv_at hl 1 rfl) ?_
      refine lv_iconst (v := nI 3) hx hb d_M_count_57 (by decide +kernel) ?_
      refine lv_icmp_le (tgt := 78) hx hb d_M_count_58 (by decide) (fun q => absurd q (by decide +kernel)) (fun _ => ?_)
      refine lv_iload_n hx hb d_M_count_61 rfl (lv_at hl 1 rfl) ?_
      refine lv_bipush (v := nI 10) hx hb d_M_count_62 (by decide +kernel) ?_
      refine lv_icmp_ge (tgt := 78) hx hb d_M_count_64 (by decide) (fun q => absurd q (by decide +kernel)) (fun _ => ?_)
      refine lv_aload_n hx hb d_M_count_67 rfl (lv_at hl 0 rfl) ?_
      refine sx_get (v := .ref (r 9)) EE h_o rfl i_M 9 (by decide) rfl fl_M_23 rfl d_M_count_68 ?_
      refine lv_iload_n hx hb d_M_count_71 rfl (lv_at hl 1 rfl) ?_
      refine lv_iconst (v := nI 4) hx hb d_M_count_72 (by decide +kernel) ?_
      refine lv_isub hx hb d_M_count_73 ?_
      refine sx_ti (y := nI (1)) (pk_sub (by omega)) ?_
      refine px_zld hx hb hG z_r9 f_r9' (sx_in (by omega) (by decide)) d_M_count_74 ?_
      refine lv_goto (tgt := 79) hx hb d_M_count_75 (by decide) ?_
      exact hret _ _ _ _ h_o hS d_M_count_79
    · skip
      refine lv_tableOut (tgt := 56) hx hb d_M_count_6 (by decide +kernel) (by decide) ?_
      refine lv_iload_n hx hb d_M_count_56 rfl (lv_at hl 1 rfl) ?_
      refine lv_iconst (v := nI 3) hx hb d_M_count_57 (by decide +kernel) ?_
      refine lv_icmp_le (tgt := 78) hx hb d_M_count_58 (by decide) (fun q => absurd q (by decide +kernel)) (fun _ => ?_)
      refine lv_iload_n hx hb d_M_count_61 rfl (lv_at hl 1 rfl) ?_
      refine lv_bipush (v := nI 10) hx hb d_M_count_62 (by decide +kernel) ?_
      refine lv_icmp_ge (tgt := 78) hx hb d_M_count_64 (by decide) (fun q => absurd q (by decide +kernel)) (fun _ => ?_)
      refine lv_aload_n hx hb d_M_count_67 rfl (lv_at hl 0 rfl) ?_
      refine sx_get (v := .ref (r 9)) EE h_o rfl i_M 9 (by decide) rfl fl_M_23 rfl d_M_count_68 ?_
      refine lv_iload_n hx hb d_M_count_71 rfl (lv_at hl 1 rfl) ?_
      refine lv_iconst (v := nI 4) hx hb d_M_count_72 (by decide +kernel) ?_
      refine lv_isub hx hb d_M_count_73 ?_
      refine sx_ti (y := nI (2)) (pk_sub (by omega)) ?_
      refine px_zld hx hb hG z_r9 f_r9' (sx_in (by omega) (by decide)) d_M_count_74 ?_
      refine lv_goto (tgt := 79) hx hb d_M_count_75 (by decide) ?_
      exact hret _ _ _ _ h_o hS d_M_count_79
    · skip
      refine lv_tableOut (tgt := 56) hx hb d_M_count_6 (by decide +kernel) (by decide) ?_
      refine lv_iload_n hx hb d_M_count_56 rfl (lv_at hl 1 rfl) ?_
      refine lv_iconst (v := nI 3) hx hb d_M_count_57 (by decide +kernel) ?_
      refine lv_icmp_le (tgt := 78) hx hb d_M_count_58 (by decide) (fun q => absurd q (by decide +kernel)) (fun _ => ?_)
      refine lv_iload_n hx hb d_M_count_61 rfl (lv_at hl 1 rfl) ?_
      refine lv_bipush (v := nI 10) hx hb d_M_count_62 (by decide +kernel) ?_
      refine lv_icmp_ge (tgt := 78) hx hb d_M_count_64 (by decide) (fun q => absurd q (by decide +kernel)) (fun _ => ?_)
      refine lv_aload_n hx hb d_M_count_67 rfl (lv_at hl 0 rfl) ?_
      refine sx_get (v := .ref (r 9)) EE h_o rfl i_M 9 (by decide) rfl fl_M_23 rfl d_M_count_68 ?_
      refine lv_iload_n hx hb d_M_count_71 rfl (lv_at hl 1 rfl) ?_
      refine lv_iconst (v := nI 4) hx hb d_M_count_72 (by decide +kernel) ?_
      refine lv_isub hx hb d_M_count_73 ?_
      refine sx_ti (y := nI (3)) (pk_sub (by omega)) ?_
      refine px_zld hx hb hG z_r9 f_r9' (sx_in (by omega) (by decide)) d_M_count_74 ?_
      refine lv_goto (tgt := 79) hx hb d_M_count_75 (by decide) ?_
      exact hret _ _ _ _ h_o hS d_M_count_79
    · skip
      refine lv_tableOut (tgt := 56) hx hb d_M_count_6 (by decide +kernel) (by decide) ?_
      refine lv_iload_n hx hb d_M_count_56 rfl (lv_at hl 1 rfl) ?_
      refine lv_iconst (v := nI 3) hx hb d_M_count_57 (by decide +kernel) ?_
      refine lv_icmp_le (tgt := 78) hx hb d_M_count_58 (by decide) (fun q => absurd q (by decide +kernel)) (fun _ => ?_)
      refine lv_iload_n hx hb d_M_count_61 rfl (lv_at hl 1 rfl) ?_
      refine lv_bipush (v := nI 10) hx hb d_M_count_62 (by decide +kernel) ?_
      refine lv_icmp_ge (tgt := 78) hx hb d_M_count_64 (by decide) (fun q => absurd q (by decide +kernel)) (fun _ => ?_)
      refine lv_aload_n hx hb d_M_count_67 rfl (lv_at hl 0 rfl) ?_
      refine sx_get (v := .ref (r 9)) EE h_o rfl i_M 9 (by decide) rfl fl_M_23 rfl d_M_count_68 ?_
      refine lv_iload_n hx hb d_M_count_71 rfl (lv_at hl 1 rfl) ?_
      refine lv_iconst (v := nI 4) hx hb d_M_count_72 (by decide +kernel) ?_
      refine lv_isub hx hb d_M_count_73 ?_
      refine sx_ti (y := nI (4)) (pk_sub (by omega)) ?_
      refine px_zld hx hb hG z_r9 f_r9' (sx_in (by omega) (by decide)) d_M_count_74 ?_
      refine lv_goto (tgt := 79) hx hb d_M_count_75 (by decide) ?_
      exact hret _ _ _ _ h_o hS d_M_count_79
    · skip
      refine lv_tableOut (tgt := 56) hx hb d_M_count_6 (by decide +kernel) (by decide) ?_
      refine lv_iload_n hx hb d_M_count_56 rfl (lv_at hl 1 rfl) ?_
      refine lv_iconst (v := nI 3) hx hb d_M_count_57 (by decide +kernel) ?_
      refine lv_icmp_le (tgt := 78) hx hb d_M_count_58 (by decide) (fun q => absurd q (by decide +kernel)) (fun _ => ?_)
      refine lv_iload_n hx hb d_M_count_61 rfl (lv_at hl 1 rfl) ?_
      refine lv_bipush (v := nI 10) hx hb d_M_count_62 (by decide +kernel) ?_
      refine lv_icmp_ge (tgt := 78) hx hb d_M_count_64 (by decide) (fun q => absurd q (by decide +kernel)) (fun _ => ?_)
      refine lv_aload_n hx hb d_M_count_67 rfl (lv_at hl 0 rfl) ?_
      refine sx_get (v := .ref (r 9)) EE h_o rfl i_M 9 (by decide) rfl fl_M_23 rfl d_M_count_68 ?_
      refine lv_iload_n hx hb d_M_count_71 rfl (lv_at hl 1 rfl) ?_
      refine lv_iconst (v := nI 4) hx hb d_M_count_72 (by decide +kernel) ?_
      refine lv_isub hx hb d_M_count_73 ?_
      refine sx_ti (y := nI (5)) (pk_sub (by omega)) ?_
      refine px_zld hx hb hG z_r9 f_r9' (sx_in (by omega) (by decide)) d_M_count_74 ?_
      refine lv_goto (tgt := 79) hx hb d_M_count_75 (by decide) ?_
      exact hret _ _ _ _ h_o hS d_M_count_79
