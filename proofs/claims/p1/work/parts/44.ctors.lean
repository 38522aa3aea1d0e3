abbrev rm_La_init : Room := { frames := 1, cells := 11, slots := 154, locals := 13 }
set_option maxHeartbeats 4000000 in
set_option maxRecDepth 100000 in
theorem c_La_init {l : Launch} {D : va_G} {g : ClassId → FieldType → Prop} {E : Nat → Prop} {H0 : Heap} {o : Nat} {a0 : Nat} (hEo : E o) (hEn : ∀ q, H0.size ≤ q → E q) (hO : va_P D classes [(o, .inr (3, [.null, .null, .null, .null, .null, .null, .null, .null, .null, .null, .null, .null]))] H0) : Met l y_La_init (.code y_La_init b_La_init 2 none :: G_) rm_La_init (sx_Pc [.ref o, .ref a0] H0 D g) (va_Qv (fun _ : Unit => True) (fun _ t => sx_J g E H0 t.heap ∧ ∃ r : Nat → Nat, va_P D classes [(o, .inr (3, [.ref a0, .ref (r 1), .ref (r 2), .ref (r 3), .ref (r 4), .ref (r 5), .ref (r 6), .ref (r 7), .ref (r 8), .ref (r 9), .ref (r 10), .ref (r 11)]))] t.heap ∧ sx_AR g t.heap [(r 1, .byte, 32), (r 2, .byte, 32), (r 3, .long, 10), (r 4, .long, 10), (r 5, .long, 10), (r 6, .long, 10), (r 7, .long, 10), (r 8, .long, 10), (r 9, .long, 10), (r 10, .long, 10), (r 11, .long, 10)] ∧ (∀ k, H0.size ≤ r k)) E) 11 154 E := by
  refine sx_mva (own := R_La) (P := fun H => ∃ r : Nat → Nat, va_P D classes [(o, .inr (3, [.ref a0, .ref (r 1), .ref (r 2), .ref (r 3), .ref (r 4), .ref (r 5), .ref (r 6), .ref (r 7), .ref (r 8), .ref (r 9), .ref (r 10), .ref (r 11)]))] H ∧ sx_AR g H [(r 1, .byte, 32), (r 2, .byte, 32), (r 3, .long, 10), (r 4, .long, 10), (r 5, .long, 10), (r 6, .long, 10), (r 7, .long, 10), (r 8, .long, 10), (r 9, .long, 10), (r 10, .long, 10), (r 11, .long, 10)] ∧ (∀ k, H0.size ≤ r k)) (by decide) rfl (Nat.le_of_ble_eq_true rfl) ?_
  intro p e s m args below meth c Q ls EE hin hl hret
  obtain ⟨hx, hb, hml, hown, hts, hG, hK⟩ := id EE
  have hS : sx_S g E E H0 H0 [] := sx_S.rf
  have hA : sx_AR g H0 [] := sx_AR.nil
  have hZ : ∀ x ∈ ([] : List Nat), H0.size ≤ x := sx_nilZ
  have ho : o < H0.size := (hO 0 _ rfl).lt
  have hl : lv_has ls 2 [(0, .ref o), (1, .ref a0)] := hl
  refine lv_aload_n hx hb d_La_init_0 rfl (lv_at hl 0 rfl) ?_
  refine W.objInit hx hb hown (hts (.methodLink R_La 3 objectInit) (by decide +kernel)) (hts (.instanceMethod objectInit) (by decide +kernel)) (hts (.code objectInit ⟨#[0xb1]⟩ 1 none) (by decide +kernel)) rfl (by rw [hml]; exact hl.1) rfl d_La_init_1 (Nat.le_of_ble_eq_true rfl) (Nat.le_of_ble_eq_true rfl) ?_
  refine W.eq (g2 := F0 m 4 ls []) rfl ?_
  refine lv_aload_n hx hb d_La_init_4 rfl (lv_at hl 0 rfl) ?_
  refine lv_bipush (v := nI 32) hx hb d_La_init_5 (by decide +kernel) ?_
  have hz := hS.1.1
  refine sx_newa (cells' := 1) (slots' := 32) hx hb hG hts rfl (Or.inr (Or.inl rfl)) (by decide +kernel) (by decide) (by decide) rfl rfl (Nat.le_of_ble_eq_true rfl) (Nat.le_of_ble_eq_true rfl) hS d_La_init_7 (fun q7 H7 e0 a0' l0 y0 hJ hk hS => ?_)
  have hA := hA.kept hJ
  have hO := hO.grown hk
  have hA : sx_AR g H7 [(q7, .byte, 32)] := hA.cons a0' l0
  have z_q7 : H0.size ≤ q7 := e0 ▸ hz
  have hZ := sx_consZ hZ z_q7
  refine sx_putF EE hin hO rfl i_La t_La tok_La n_La 1 (by decide) rfl fl_La_9 (ty := t_La 1) (by decide +kernel) rfl rfl (Nat.le_of_ble_eq_true rfl) hEo hS d_La_init_9 (fun H9 locs hO hJ hs hS => ?_)
  have hA := hA.kept hJ
  have hO : va_P D classes [(o, .inr (3, [.null, .ref q7, .null, .null, .null, .null, .null, .null, .null, .null, .null, .null]))] H9 := hO
  refine lv_aload_n hx hb d_La_init_12 rfl (lv_at hl 0 rfl) ?_
  refine lv_bipush (v := nI 32) hx hb d_La_init_13 (by decide +kernel) ?_
  have hz := hS.1.1
  refine sx_newa (cells' := 2) (slots' := 64) hx hb hG hts rfl (Or.inr (Or.inl rfl)) (by decide +kernel) (by decide) (by decide) rfl rfl (Nat.le_of_ble_eq_true rfl) (Nat.le_of_ble_eq_true rfl) hS d_La_init_15 (fun q15 H15 e0 a0' l0 y0 hJ hk hS => ?_)
  have hA := hA.kept hJ
  have hO := hO.grown hk
  have hA : sx_AR g H15 [(q15, .byte, 32), (q7, .byte, 32)] := hA.cons a0' l0
  have z_q15 : H0.size ≤ q15 := e0 ▸ hz
  have hZ := sx_consZ hZ z_q15
  refine sx_putF EE hin hO rfl i_La t_La tok_La n_La 2 (by decide) rfl fl_La_15 (ty := t_La 2) (by decide +kernel) rfl rfl (Nat.le_of_ble_eq_true rfl) hEo hS d_La_init_17 (fun H17 locs hO hJ hs hS => ?_)
  have hA := hA.kept hJ
  have hO : va_P D classes [(o, .inr (3, [.null, .ref q7, .ref q15, .null, .null, .null, .null, .null, .null, .null, .null, .null]))] H17 := hO
  refine lv_aload_n hx hb d_La_init_20 rfl (lv_at hl 0 rfl) ?_
  refine lv_bipush (v := nI 10) hx hb d_La_init_21 (by decide +kernel) ?_
  have hz := hS.1.1
  refine sx_newa (cells' := 3) (slots' := 74) hx hb hG hts rfl (Or.inl rfl) (by decide +kernel) (by decide) (by decide) rfl rfl (Nat.le_of_ble_eq_true rfl) (Nat.le_of_ble_eq_true rfl) hS d_La_init_23 (fun q23 H23 e0 a0' l0 y0 hJ hk hS => ?_)
  have hA := hA.kept hJ
  have hO := hO.grown hk
  have hA : sx_AR g H23 [(q23, .long, 10), (q15, .byte, 32), (q7, .byte, 32)] := hA.cons a0' l0
  have z_q23 : H0.size ≤ q23 := e0 ▸ hz
  have hZ := sx_consZ hZ z_q23
  refine sx_putF EE hin hO rfl i_La t_La tok_La n_La 3 (by decide) rfl fl_La_20 (ty := t_La 3) (by decide +kernel) rfl rfl (Nat.le_of_ble_eq_true rfl) hEo hS d_La_init_25 (fun H25 locs hO hJ hs hS => ?_)
  have hA := hA.kept hJ
  have hO : va_P D classes [(o, .inr (3, [.null, .ref q7, .ref q15, .ref q23, .null, .null, .null, .null, .null, .null, .null, .null]))] H25 := hO
  refine lv_aload_n hx hb d_La_init_28 rfl (lv_at hl 0 rfl) ?_
  refine lv_bipush (v := nI 10) hx hb d_La_init_29 (by decide +kernel) ?_
  have hz := hS.1.1
  refine sx_newa (cells' := 4) (slots' := 84) hx hb hG hts rfl (Or.inl rfl) (by decide +kernel) (by decide) (by decide) rfl rfl (Nat.le_of_ble_eq_true rfl) (Nat.le_of_ble_eq_true rfl) hS d_La_init_31 (fun q31 H31 e0 a0' l0 y0 hJ hk hS => ?_)
  have hA := hA.kept hJ
  have hO := hO.grown hk
  have hA : sx_AR g H31 [(q31, .long, 10), (q23, .long, 10), (q15, .byte, 32), (q7, .byte, 32)] := hA.cons a0' l0
  have z_q31 : H0.size ≤ q31 := e0 ▸ hz
  have hZ := sx_consZ hZ z_q31
  refine sx_putF EE hin hO rfl i_La t_La tok_La n_La 4 (by decide) rfl fl_La_24 (ty := t_La 4) (by decide +kernel) rfl rfl (Nat.le_of_ble_eq_true rfl) hEo hS d_La_init_33 (fun H33 locs hO hJ hs hS => ?_)
  have hA := hA.kept hJ
  have hO : va_P D classes [(o, .inr (3, [.null, .ref q7, .ref q15, .ref q23, .ref q31, .null, .null, .null, .null, .null, .null, .null]))] H33 := hO
  refine lv_aload_n hx hb d_La_init_36 rfl (lv_at hl 0 rfl) ?_
  refine lv_bipush (v := nI 10) hx hb d_La_init_37 (by decide +kernel) ?_
  have hz := hS.1.1
  refine sx_newa (cells' := 5) (slots' := 94) hx hb hG hts rfl (Or.inl rfl) (by decide +kernel) (by decide) (by decide) rfl rfl (Nat.le_of_ble_eq_true rfl) (Nat.le_of_ble_eq_true rfl) hS d_La_init_39 (fun q39 H39 e0 a0' l0 y0 hJ hk hS => ?_)
  have hA := hA.kept hJ
  have hO := hO.grown hk
  have hA : sx_AR g H39 [(q39, .long, 10), (q31, .long, 10), (q23, .long, 10), (q15, .byte, 32), (q7, .byte, 32)] := hA.cons a0' l0
  have z_q39 : H0.size ≤ q39 := e0 ▸ hz
  have hZ := sx_consZ hZ z_q39
  refine sx_putF EE hin hO rfl i_La t_La tok_La n_La 5 (by decide) rfl fl_La_27 (ty := t_La 5) (by decide +kernel) rfl rfl (Nat.le_of_ble_eq_true rfl) hEo hS d_La_init_41 (fun H41 locs hO hJ hs hS => ?_)
  have hA := hA.kept hJ
  have hO : va_P D classes [(o, .inr (3, [.null, .ref q7, .ref q15, .ref q23, .ref q31, .ref q39, .null, .null, .null, .null, .null, .null]))] H41 := hO
  refine lv_aload_n hx hb d_La_init_44 rfl (lv_at hl 0 rfl) ?_
  refine lv_bipush (v := nI 10) hx hb d_La_init_45 (by decide +kernel) ?_
  have hz := hS.1.1
  refine sx_newa (cells' := 6) (slots' := 104) hx hb hG hts rfl (Or.inl rfl) (by decide +kernel) (by decide) (by decide) rfl rfl (Nat.le_of_ble_eq_true rfl) (Nat.le_of_ble_eq_true rfl) hS d_La_init_47 (fun q47 H47 e0 a0' l0 y0 hJ hk hS => ?_)
  have hA := hA.kept hJ
  have hO := hO.grown hk
  have hA : sx_AR g H47 [(q47, .long, 10), (q39, .long, 10), (q31, .long, 10), (q23, .long, 10), (q15, .byte, 32), (q7, .byte, 32)] := hA.cons a0' l0
  have z_q47 : H0.size ≤ q47 := e0 ▸ hz
  have hZ := sx_consZ hZ z_q47
  refine sx_putF EE hin hO rfl i_La t_La tok_La n_La 6 (by decide) rfl fl_La_30 (ty := t_La 6) (by decide +kernel) rfl rfl (Nat.le_of_ble_eq_true rfl) hEo hS d_La_init_49 (fun H49 locs hO hJ hs hS => ?_)
  have hA := hA.kept hJ
  have hO : va_P D classes [(o, .inr (3, [.null, .ref q7, .ref q15, .ref q23, .ref q31, .ref q39, .ref q47, .null, .null, .null, .null, .null]))] H49 := hO
  refine lv_aload_n hx hb d_La_init_52 rfl (lv_at hl 0 rfl) ?_
  refine lv_bipush (v := nI 10) hx hb d_La_init_53 (by decide +kernel) ?_
  have hz := hS.1.1
  refine sx_newa (cells' := 7) (slots' := 114) hx hb hG hts rfl (Or.inl rfl) (by decide +kernel) (by decide) (by decide) rfl rfl (Nat.le_of_ble_eq_true rfl) (Nat.le_of_ble_eq_true rfl) hS d_La_init_55 (fun q55 H55 e0 a0' l0 y0 hJ hk hS => ?_)
  have hA := hA.kept hJ
  have hO := hO.grown hk
  have hA : sx_AR g H55 [(q55, .long, 10), (q47, .long, 10), (q39, .long, 10), (q31, .long, 10), (q23, .long, 10), (q15, .byte, 32), (q7, .byte, 32)] := hA.cons a0' l0
  have z_q55 : H0.size ≤ q55 := e0 ▸ hz
  have hZ := sx_consZ hZ z_q55
  refine sx_putF EE hin hO rfl i_La t_La tok_La n_La 7 (by decide) rfl fl_La_33 (ty := t_La 7) (by decide +kernel) rfl rfl (Nat.le_of_ble_eq_true rfl) hEo hS d_La_init_57 (fun H57 locs hO hJ hs hS => ?_)
  have hA := hA.kept hJ
  have hO : va_P D classes [(o, .inr (3, [.null, .ref q7, .ref q15, .ref q23, .ref q31, .ref q39, .ref q47, .ref q55, .null, .null, .null, .null]))] H57 := hO
  refine lv_aload_n hx hb d_La_init_60 rfl (lv_at hl 0 rfl) ?_
  refine lv_bipush (v := nI 10) hx hb d_La_init_61 (by decide +kernel) ?_
  have hz := hS.1.1
  refine sx_newa (cells' := 8) (slots' := 124) hx hb hG hts rfl (Or.inl rfl) (by decide +kernel) (by decide) (by decide) rfl rfl (Nat.le_of_ble_eq_true rfl) (Nat.le_of_ble_eq_true rfl) hS d_La_init_63 (fun q63 H63 e0 a0' l0 y0 hJ hk hS => ?_)
  have hA := hA.kept hJ
  have hO := hO.grown hk
  have hA : sx_AR g H63 [(q63, .long, 10), (q55, .long, 10), (q47, .long, 10), (q39, .long, 10), (q31, .long, 10), (q23, .long, 10), (q15, .byte, 32), (q7, .byte, 32)] := hA.cons a0' l0
  have z_q63 : H0.size ≤ q63 := e0 ▸ hz
  have hZ := sx_consZ hZ z_q63
  refine sx_putF EE hin hO rfl i_La t_La tok_La n_La 8 (by decide) rfl fl_La_36 (ty := t_La 8) (by decide +kernel) rfl rfl (Nat.le_of_ble_eq_true rfl) hEo hS d_La_init_65 (fun H65 locs hO hJ hs hS => ?_)
  have hA := hA.kept hJ
  have hO : va_P D classes [(o, .inr (3, [.null, .ref q7, .ref q15, .ref q23, .ref q31, .ref q39, .ref q47, .ref q55, .ref q63, .null, .null, .null]))] H65 := hO
  refine lv_aload_n hx hb d_La_init_68 rfl (lv_at hl 0 rfl) ?_
  refine lv_bipush (v := nI 10) hx hb d_La_init_69 (by decide +kernel) ?_
  have hz := hS.1.1
  refine sx_newa (cells' := 9) (slots' := 134) hx hb hG hts rfl (Or.inl rfl) (by decide +kernel) (by decide) (by decide) rfl rfl (Nat.le_of_ble_eq_true rfl) (Nat.le_of_ble_eq_true rfl) hS d_La_init_71 (fun q71 H71 e0 a0' l0 y0 hJ hk hS => ?_)
  have hA := hA.kept hJ
  have hO := hO.grown hk
  have hA : sx_AR g H71 [(q71, .long, 10), (q63, .long, 10), (q55, .long, 10), (q47, .long, 10), (q39, .long, 10), (q31, .long, 10), (q23, .long, 10), (q15, .byte, 32), (q7, .byte, 32)] := hA.cons a0' l0
  have z_q71 : H0.size ≤ q71 := e0 ▸ hz
  have hZ := sx_consZ hZ z_q71
  refine sx_putF EE hin hO rfl i_La t_La tok_La n_La 9 (by decide) rfl fl_La_39 (ty := t_La 9) (by decide +kernel) rfl rfl (Nat.le_of_ble_eq_true rfl) hEo hS d_La_init_73 (fun H73 locs hO hJ hs hS => ?_)
  have hA := hA.kept hJ
  have hO : va_P D classes [(o, .inr (3, [.null, .ref q7, .ref q15, .ref q23, .ref q31, .ref q39, .ref q47, .ref q55, .ref q63, .ref q71, .null, .null]))] H73 := hO
  refine lv_aload_n hx hb d_La_init_76 rfl (lv_at hl 0 rfl) ?_
  refine lv_bipush (v := nI 10) hx hb d_La_init_77 (by decide +kernel) ?_
  have hz := hS.1.1
  refine sx_newa (cells' := 10) (slots' := 144) hx hb hG hts rfl (Or.inl rfl) (by decide +kernel) (by decide) (by decide) rfl rfl (Nat.le_of_ble_eq_true rfl) (Nat.le_of_ble_eq_true rfl) hS d_La_init_79 (fun q79 H79 e0 a0' l0 y0 hJ hk hS => ?_)
  have hA := hA.kept hJ
  have hO := hO.grown hk
  have hA : sx_AR g H79 [(q79, .long, 10), (q71, .long, 10), (q63, .long, 10), (q55, .long, 10), (q47, .long, 10), (q39, .long, 10), (q31, .long, 10), (q23, .long, 10), (q15, .byte, 32), (q7, .byte, 32)] := hA.cons a0' l0
  have z_q79 : H0.size ≤ q79 := e0 ▸ hz
  have hZ := sx_consZ hZ z_q79
  refine sx_putF EE hin hO rfl i_La t_La tok_La n_La 10 (by decide) rfl fl_La_42 (ty := t_La 10) (by decide +kernel) rfl rfl (Nat.le_of_ble_eq_true rfl) hEo hS d_La_init_81 (fun H81 locs hO hJ hs hS => ?_)
  have hA := hA.kept hJ
  have hO : va_P D classes [(o, .inr (3, [.null, .ref q7, .ref q15, .ref q23, .ref q31, .ref q39, .ref q47, .ref q55, .ref q63, .ref q71, .ref q79, .null]))] H81 := hO
  refine lv_aload_n hx hb d_La_init_84 rfl (lv_at hl 0 rfl) ?_
  refine lv_bipush (v := nI 10) hx hb d_La_init_85 (by decide +kernel) ?_
  have hz := hS.1.1
  refine sx_newa (cells' := 11) (slots' := 154) hx hb hG hts rfl (Or.inl rfl) (by decide +kernel) (by decide) (by decide) rfl rfl (Nat.le_of_ble_eq_true rfl) (Nat.le_of_ble_eq_true rfl) hS d_La_init_87 (fun q87 H87 e0 a0' l0 y0 hJ hk hS => ?_)
  have hA := hA.kept hJ
  have hO := hO.grown hk
  have hA : sx_AR g H87 [(q87, .long, 10), (q79, .long, 10), (q71, .long, 10), (q63, .long, 10), (q55, .long, 10), (q47, .long, 10), (q39, .long, 10), (q31, .long, 10), (q23, .long, 10), (q15, .byte, 32), (q7, .byte, 32)] := hA.cons a0' l0
  have z_q87 : H0.size ≤ q87 := e0 ▸ hz
  have hZ := sx_consZ hZ z_q87
  refine sx_putF EE hin hO rfl i_La t_La tok_La n_La 11 (by decide) rfl fl_La_45 (ty := t_La 11) (by decide +kernel) rfl rfl (Nat.le_of_ble_eq_true rfl) hEo hS d_La_init_89 (fun H89 locs hO hJ hs hS => ?_)
  have hA := hA.kept hJ
  have hO : va_P D classes [(o, .inr (3, [.null, .ref q7, .ref q15, .ref q23, .ref q31, .ref q39, .ref q47, .ref q55, .ref q63, .ref q71, .ref q79, .ref q87]))] H89 := hO
  refine lv_aload_n hx hb d_La_init_92 rfl (lv_at hl 0 rfl) ?_
  refine lv_aload_n hx hb d_La_init_93 rfl (lv_at hl 1 rfl) ?_
  refine sx_putF EE hin hO rfl i_La t_La tok_La n_La 0 (by decide) rfl fl_La_48 (ty := t_La 0) (by decide +kernel) rfl rfl (Nat.le_of_ble_eq_true rfl) hEo hS d_La_init_94 (fun H94 locs hO hJ hs hS => ?_)
  have hA := hA.kept hJ
  have hO : va_P D classes [(o, .inr (3, [.ref a0, .ref q7, .ref q15, .ref q23, .ref q31, .ref q39, .ref q47, .ref q55, .ref q63, .ref q71, .ref q79, .ref q87]))] H94 := hO
  refine lv_aload_n hx hb d_La_init_97 rfl (lv_at hl 0 rfl) ?_
  refine sx_get EE hO rfl i_La 2 (by decide) rfl fl_La_15 rfl d_La_init_98 ?_
  refine lv_iconst (v := nI 0) hx hb d_La_init_101 (by decide +kernel) ?_
  refine lv_bipush (v := nI 9) hx hb d_La_init_102 (by decide +kernel) ?_
  refine sx_bast (E := fun z => z = q15) (F := E) (H0 := H94) hx hb hG ⟨sx_J.rf, fun z h => h ▸ hEn _ z_q15, hS.2.2⟩ (show sx_A g .byte H94 q15 32 from (hA (q15, .byte, 32) (by simp)).1) rfl (sx_in (by decide) (by decide)) d_La_init_104 (fun H104 locs hS1 => ?_)
  have hA := hA.kept hS1.1
  have hO := hS1.1.ob (fun e => absurd z_q15 (by rw [← e]; exact Nat.not_le.mpr ho)) hO
  have hS : sx_S g E E H0 H104 locs := ⟨hS.1.tr (hS1.1.mono (fun z h => h ▸ hEn _ z_q15)), fun _ h => h, hS1.2.2⟩
  have hr : ∀ x ∈ ([H0.size, q7, q15, q23, q31, q39, q47, q55, q63, q71, q79, q87] : List Nat), H0.size ≤ x := by
    intro x hx
    simp only [List.mem_cons, List.not_mem_nil, or_false] at hx
    rcases hx with rfl | rfl | rfl | rfl | rfl | rfl | rfl | rfl | rfl | rfl | rfl | rfl <;> first | exact Nat.le_refl _ | assumption
  refine hret _ _ _ _ ⟨(fun k => ([H0.size, q7, q15, q23, q31, q39, q47, q55, q63, q71, q79, q87] : List Nat).getD k H0.size), hO, fun z hz => hA z (by simp only [List.mem_cons, List.not_mem_nil, or_false] at hz ⊢; rcases hz with rfl | rfl | rfl | rfl | rfl | rfl | rfl | rfl | rfl | rfl | rfl <;> simp), sx_ge hr⟩ hS.1 hS.2.2 d_La_init_105
abbrev rm_Si_init : Room := { frames := 2, cells := 12, slots := 510, locals := 33 }
set_option maxHeartbeats 4000000 in
set_option maxRecDepth 100000 in
theorem c_Si_init {l : Launch} {D : va_G} {g : ClassId → FieldType → Prop} {E : Nat → Prop} {H0 : Heap} {o : Nat} {a0 : Nat} (hEo : E o) (hEn : ∀ q, H0.size ≤ q → E q) (hO : va_P D classes [(o, .inr (11, [.null, .null, .null, .null, .null, .null, .null, .null, .null]))] H0) : Met l y_Si_init (.code y_Si_init b_Si_init 2 none :: G_) rm_Si_init (sx_Pc [.ref o, .ref a0] H0 D g) (va_Qv (fun _ : Unit => True) (fun _ t => sx_J g E H0 t.heap ∧ ∃ r : Nat → Nat, va_P D classes [(o, .inr (11, [.ref a0, .ref (r 1), .ref (r 2), .ref (r 3), .ref (r 4), .ref (r 5), .ref (r 6), .ref (r 7), .ref (r 8)]))] t.heap ∧ sx_AR g t.heap [(r 3, .byte, 64), (r 4, .byte, 32), (r 5, .byte, 32), (r 6, .byte, 32), (r 7, .byte, 32), (r 8, .byte, 32)] ∧ (∀ k, H0.size ≤ r k)) E) 12 510 E := by
  refine sx_mva (own := R_Si) (P := fun H => ∃ r : Nat → Nat, va_P D classes [(o, .inr (11, [.ref a0, .ref (r 1), .ref (r 2), .ref (r 3), .ref (r 4), .ref (r 5), .ref (r 6), .ref (r 7), .ref (r 8)]))] H ∧ sx_AR g H [(r 3, .byte, 64), (r 4, .byte, 32), (r 5, .byte, 32), (r 6, .byte, 32), (r 7, .byte, 32), (r 8, .byte, 32)] ∧ (∀ k, H0.size ≤ r k)) (by decide) rfl (Nat.le_of_ble_eq_true rfl) ?_
  intro p e s m args below meth c Q ls EE hin hl hret
  obtain ⟨hx, hb, hml, hown, hts, hG, hK⟩ := id EE
  have hS : sx_S g E E H0 H0 [] := sx_S.rf
  have hA : sx_AR g H0 [] := sx_AR.nil
  have hZ : ∀ x ∈ ([] : List Nat), H0.size ≤ x := sx_nilZ
  have ho : o < H0.size := (hO 0 _ rfl).lt
  have hl : lv_has ls 2 [(0, .ref o), (1, .ref a0)] := hl
  refine lv_aload_n hx hb d_Si_init_0 rfl (lv_at hl 0 rfl) ?_
  refine W.objInit hx hb hown (hts (.methodLink R_Si 3 objectInit) (by decide +kernel)) (hts (.instanceMethod objectInit) (by decide +kernel)) (hts (.code objectInit ⟨#[0xb1]⟩ 1 none) (by decide +kernel)) rfl (by rw [hml]; exact hl.1) rfl d_Si_init_1 (Nat.le_of_ble_eq_true rfl) (Nat.le_of_ble_eq_true rfl) ?_
  refine W.eq (g2 := F0 m 4 ls []) rfl ?_
  refine lv_aload_n hx hb d_Si_init_4 rfl (lv_at hl 0 rfl) ?_
  have hz := hS.1.1
  refine sx_newo (ci := 7) (fs := [.null, .null, .null, .int 0, .int 0]) (cells' := 1) (slots' := 5) EE rfl i_Ha t_Ha tok_Ha nw_Si_9 (by decide) rfl rfl (Nat.le_of_ble_eq_true rfl) (Nat.le_of_ble_eq_true rfl) d_Si_init_5 (fun q5 H5 e0 hN s0 k1 => ?_)
  have z_q5 : H0.size ≤ q5 := e0 ▸ hz
  have hZ := sx_consZ hZ z_q5
  refine lv_dup hx hb d_Si_init_8 rfl ?_
  refine sx_gI (E' := fun z => z = q5 ∨ Array.size H5 ≤ z) (P := fun H => ∃ r : Nat → Nat, va_P D classes [(q5, .inr (7, [.ref (r 0), .ref (r 1), .ref (r 2), .int 0, .int 0]))] H ∧ sx_AR g H [(r 0, .long, 8), (r 1, .long, 80), (r 2, .byte, 128)] ∧ (∀ k, Array.size H5 ≤ r k)) (F := E) (mc := 3) (ms := 216) (cells' := 4) (slots' := 221) (sx_runIN (As := []) (rest := [.ref q5, .ref o]) EE (c_Ha_init (E := fun z => z = q5 ∨ Array.size H5 ≤ z) (Or.inl rfl) (fun z h => Or.inr h) hN) il_Si_11 iw_Si_11 rfl rfl ⟨rfl, rfl⟩ ⟨Nat.le_of_ble_eq_true rfl, Nat.le_of_ble_eq_true rfl⟩ ⟨Nat.le_of_ble_eq_true rfl, Nat.le_of_ble_eq_true rfl⟩ hl.1 rfl (Nat.le_of_ble_eq_true rfl) d_Si_init_9) (fun z h => hEn _ (by rcases h with h | h <;> omega)) hS.2.2 rfl rfl (fun H9 locs hJc hPc hlo => ?_)
  have hk := sx_J.news e0 k1 (by omega) hJc (fun _ h => h)
  have hJ : sx_J g E H0 H9 := (sx_J.grow (by omega) k1).tr (hJc.mono (fun z h => hEn _ (by rcases h with h | h <;> omega)))
  have hS : sx_S g E E H0 H9 locs := ⟨hS.1.tr hJ, fun _ h => h, hlo⟩
  have hA := hA.kept hJ
  have hO := hO.grown hk
  refine sx_putF EE hin hO rfl i_Si t_Si tok_Si n_Si 1 (by decide) rfl fl_Si_12 (ty := t_Si 1) (by decide +kernel) rfl rfl (Nat.le_of_ble_eq_true rfl) hEo hS d_Si_init_12 (fun H12 locs hO hJ hs hS => ?_)
  have hA := hA.kept hJ
  have hO : va_P D classes [(o, .inr (11, [.null, .ref q5, .null, .null, .null, .null, .null, .null, .null]))] H12 := hO
  refine lv_aload_n hx hb d_Si_init_15 rfl (lv_at hl 0 rfl) ?_
  have hz := hS.1.1
  refine sx_newo (ci := 8) (fs := [.null]) (cells' := 5) (slots' := 222) EE rfl i_Or t_Or tok_Or nw_Si_18 (by decide) rfl rfl (Nat.le_of_ble_eq_true rfl) (Nat.le_of_ble_eq_true rfl) d_Si_init_16 (fun q16 H16 e0 hN s0 k1 => ?_)
  have z_q16 : H0.size ≤ q16 := e0 ▸ hz
  have hZ := sx_consZ hZ z_q16
  refine lv_dup hx hb d_Si_init_19 rfl ?_
  refine sx_gI (E' := fun z => z = q16 ∨ Array.size H16 ≤ z) (P := fun H => ∃ r : Nat → Nat, va_P D classes [(q16, .inr (8, [.ref (r 0)]))] H ∧ sx_AR g H [(r 0, .long, 64)] ∧ (∀ k, Array.size H16 ≤ r k)) (F := E) (mc := 1) (ms := 64) (cells' := 6) (slots' := 286) (sx_runIN (As := []) (rest := [.ref q16, .ref o]) EE (c_Or_init (E := fun z => z = q16 ∨ Array.size H16 ≤ z) (Or.inl rfl) (fun z h => Or.inr h) hN) il_Si_20 iw_Si_20 rfl rfl ⟨rfl, rfl⟩ ⟨Nat.le_of_ble_eq_true rfl, Nat.le_of_ble_eq_true rfl⟩ ⟨Nat.le_of_ble_eq_true rfl, Nat.le_of_ble_eq_true rfl⟩ hl.1 rfl (Nat.le_of_ble_eq_true rfl) d_Si_init_20) (fun z h => hEn _ (by rcases h with h | h <;> omega)) hS.2.2 rfl rfl (fun H20 locs hJc hPc hlo => ?_)
  have hk := sx_J.news e0 k1 (by omega) hJc (fun _ h => h)
  have hJ : sx_J g E H12 H20 := (sx_J.grow (by omega) k1).tr (hJc.mono (fun z h => hEn _ (by rcases h with h | h <;> omega)))
  have hS : sx_S g E E H0 H20 locs := ⟨hS.1.tr hJ, fun _ h => h, hlo⟩
  have hA := hA.kept hJ
  have hO := hO.grown hk
  refine sx_putF EE hin hO rfl i_Si t_Si tok_Si n_Si 2 (by decide) rfl fl_Si_21 (ty := t_Si 2) (by decide +kernel) rfl rfl (Nat.le_of_ble_eq_true rfl) hEo hS d_Si_init_23 (fun H23 locs hO hJ hs hS => ?_)
  have hA := hA.kept hJ
  have hO : va_P D classes [(o, .inr (11, [.null, .ref q5, .ref q16, .null, .null, .null, .null, .null, .null]))] H23 := hO
  refine lv_aload_n hx hb d_Si_init_26 rfl (lv_at hl 0 rfl) ?_
  refine lv_bipush (v := nI 64) hx hb d_Si_init_27 (by decide +kernel) ?_
  have hz := hS.1.1
  refine sx_newa (cells' := 7) (slots' := 350) hx hb hG hts rfl (Or.inr (Or.inl rfl)) (by decide +kernel) (by decide) (by decide) rfl rfl (Nat.le_of_ble_eq_true rfl) (Nat.le_of_ble_eq_true rfl) hS d_Si_init_29 (fun q29 H29 e0 a0' l0 y0 hJ hk hS => ?_)
  have hA := hA.kept hJ
  have hO := hO.grown hk
  have hA : sx_AR g H29 [(q29, .byte, 64)] := hA.cons a0' l0
  have z_q29 : H0.size ≤ q29 := e0 ▸ hz
  have hZ := sx_consZ hZ z_q29
  refine sx_putF EE hin hO rfl i_Si t_Si tok_Si n_Si 3 (by decide) rfl fl_Si_25 (ty := t_Si 3) (by decide +kernel) rfl rfl (Nat.le_of_ble_eq_true rfl) hEo hS d_Si_init_31 (fun H31 locs hO hJ hs hS => ?_)
  have hA := hA.kept hJ
  have hO : va_P D classes [(o, .inr (11, [.null, .ref q5, .ref q16, .ref q29, .null, .null, .null, .null, .null]))] H31 := hO
  refine lv_aload_n hx hb d_Si_init_34 rfl (lv_at hl 0 rfl) ?_
  refine lv_bipush (v := nI 32) hx hb d_Si_init_35 (by decide +kernel) ?_
  have hz := hS.1.1
  refine sx_newa (cells' := 8) (slots' := 382) hx hb hG hts rfl (Or.inr (Or.inl rfl)) (by decide +kernel) (by decide) (by decide) rfl rfl (Nat.le_of_ble_eq_true rfl) (Nat.le_of_ble_eq_true rfl) hS d_Si_init_37 (fun q37 H37 e0 a0' l0 y0 hJ hk hS => ?_)
  have hA := hA.kept hJ
  have hO := hO.grown hk
  have hA : sx_AR g H37 [(q37, .byte, 32), (q29, .byte, 64)] := hA.cons a0' l0
  have z_q37 : H0.size ≤ q37 := e0 ▸ hz
  have hZ := sx_consZ hZ z_q37
  refine sx_putF EE hin hO rfl i_Si t_Si tok_Si n_Si 4 (by decide) rfl fl_Si_29 (ty := t_Si 4) (by decide +kernel) rfl rfl (Nat.le_of_ble_eq_true rfl) hEo hS d_Si_init_39 (fun H39 locs hO hJ hs hS => ?_)
  have hA := hA.kept hJ
  have hO : va_P D classes [(o, .inr (11, [.null, .ref q5, .ref q16, .ref q29, .ref q37, .null, .null, .null, .null]))] H39 := hO
  refine lv_aload_n hx hb d_Si_init_42 rfl (lv_at hl 0 rfl) ?_
  refine lv_bipush (v := nI 32) hx hb d_Si_init_43 (by decide +kernel) ?_
  have hz := hS.1.1
  refine sx_newa (cells' := 9) (slots' := 414) hx hb hG hts rfl (Or.inr (Or.inl rfl)) (by decide +kernel) (by decide) (by decide) rfl rfl (Nat.le_of_ble_eq_true rfl) (Nat.le_of_ble_eq_true rfl) hS d_Si_init_45 (fun q45 H45 e0 a0' l0 y0 hJ hk hS => ?_)
  have hA := hA.kept hJ
  have hO := hO.grown hk
  have hA : sx_AR g H45 [(q45, .byte, 32), (q37, .byte, 32), (q29, .byte, 64)] := hA.cons a0' l0
  have z_q45 : H0.size ≤ q45 := e0 ▸ hz
  have hZ := sx_consZ hZ z_q45
  refine sx_putF EE hin hO rfl i_Si t_Si tok_Si n_Si 5 (by decide) rfl fl_Si_32 (ty := t_Si 5) (by decide +kernel) rfl rfl (Nat.le_of_ble_eq_true rfl) hEo hS d_Si_init_47 (fun H47 locs hO hJ hs hS => ?_)
  have hA := hA.kept hJ
  have hO : va_P D classes [(o, .inr (11, [.null, .ref q5, .ref q16, .ref q29, .ref q37, .ref q45, .null, .null, .null]))] H47 := hO
  refine lv_aload_n hx hb d_Si_init_50 rfl (lv_at hl 0 rfl) ?_
  refine lv_bipush (v := nI 32) hx hb d_Si_init_51 (by decide +kernel) ?_
  have hz := hS.1.1
  refine sx_newa (cells' := 10) (slots' := 446) hx hb hG hts rfl (Or.inr (Or.inl rfl)) (by decide +kernel) (by decide) (by decide) rfl rfl (Nat.le_of_ble_eq_true rfl) (Nat.le_of_ble_eq_true rfl) hS d_Si_init_53 (fun q53 H53 e0 a0' l0 y0 hJ hk hS => ?_)
  have hA := hA.kept hJ
  have hO := hO.grown hk
  have hA : sx_AR g H53 [(q53, .byte, 32), (q45, .byte, 32), (q37, .byte, 32), (q29, .byte, 64)] := hA.cons a0' l0
  have z_q53 : H0.size ≤ q53 := e0 ▸ hz
  have hZ := sx_consZ hZ z_q53
  refine sx_putF EE hin hO rfl i_Si t_Si tok_Si n_Si 6 (by decide) rfl fl_Si_35 (ty := t_Si 6) (by decide +kernel) rfl rfl (Nat.le_of_ble_eq_true rfl) hEo hS d_Si_init_55 (fun H55 locs hO hJ hs hS => ?_)
  have hA := hA.kept hJ
  have hO : va_P D classes [(o, .inr (11, [.null, .ref q5, .ref q16, .ref q29, .ref q37, .ref q45, .ref q53, .null, .null]))] H55 := hO
  refine lv_aload_n hx hb d_Si_init_58 rfl (lv_at hl 0 rfl) ?_
  refine lv_bipush (v := nI 32) hx hb d_Si_init_59 (by decide +kernel) ?_
  have hz := hS.1.1
  refine sx_newa (cells' := 11) (slots' := 478) hx hb hG hts rfl (Or.inr (Or.inl rfl)) (by decide +kernel) (by decide) (by decide) rfl rfl (Nat.le_of_ble_eq_true rfl) (Nat.le_of_ble_eq_true rfl) hS d_Si_init_61 (fun q61 H61 e0 a0' l0 y0 hJ hk hS => ?_)
  have hA := hA.kept hJ
  have hO := hO.grown hk
  have hA : sx_AR g H61 [(q61, .byte, 32), (q53, .byte, 32), (q45, .byte, 32), (q37, .byte, 32), (q29, .byte, 64)] := hA.cons a0' l0
  have z_q61 : H0.size ≤ q61 := e0 ▸ hz
  have hZ := sx_consZ hZ z_q61
  refine sx_putF EE hin hO rfl i_Si t_Si tok_Si n_Si 7 (by decide) rfl fl_Si_38 (ty := t_Si 7) (by decide +kernel) rfl rfl (Nat.le_of_ble_eq_true rfl) hEo hS d_Si_init_63 (fun H63 locs hO hJ hs hS => ?_)
  have hA := hA.kept hJ
  have hO : va_P D classes [(o, .inr (11, [.null, .ref q5, .ref q16, .ref q29, .ref q37, .ref q45, .ref q53, .ref q61, .null]))] H63 := hO
  refine lv_aload_n hx hb d_Si_init_66 rfl (lv_at hl 0 rfl) ?_
  refine lv_bipush (v := nI 32) hx hb d_Si_init_67 (by decide +kernel) ?_
  have hz := hS.1.1
  refine sx_newa (cells' := 12) (slots' := 510) hx hb hG hts rfl (Or.inr (Or.inl rfl)) (by decide +kernel) (by decide) (by decide) rfl rfl (Nat.le_of_ble_eq_true rfl) (Nat.le_of_ble_eq_true rfl) hS d_Si_init_69 (fun q69 H69 e0 a0' l0 y0 hJ hk hS => ?_)
  have hA := hA.kept hJ
  have hO := hO.grown hk
  have hA : sx_AR g H69 [(q69, .byte, 32), (q61, .byte, 32), (q53, .byte, 32), (q45, .byte, 32), (q37, .byte, 32), (q29, .byte, 64)] := hA.cons a0' l0
  have z_q69 : H0.size ≤ q69 := e0 ▸ hz
  have hZ := sx_consZ hZ z_q69
  refine sx_putF EE hin hO rfl i_Si t_Si tok_Si n_Si 8 (by decide) rfl fl_Si_41 (ty := t_Si 8) (by decide +kernel) rfl rfl (Nat.le_of_ble_eq_true rfl) hEo hS d_Si_init_71 (fun H71 locs hO hJ hs hS => ?_)
  have hA := hA.kept hJ
  have hO : va_P D classes [(o, .inr (11, [.null, .ref q5, .ref q16, .ref q29, .ref q37, .ref q45, .ref q53, .ref q61, .ref q69]))] H71 := hO
  refine lv_aload_n hx hb d_Si_init_74 rfl (lv_at hl 0 rfl) ?_
  refine lv_aload_n hx hb d_Si_init_75 rfl (lv_at hl 1 rfl) ?_
  refine sx_putF EE hin hO rfl i_Si t_Si tok_Si n_Si 0 (by decide) rfl fl_Si_44 (ty := t_Si 0) (by decide +kernel) rfl rfl (Nat.le_of_ble_eq_true rfl) hEo hS d_Si_init_76 (fun H76 locs hO hJ hs hS => ?_)
  have hA := hA.kept hJ
  have hO : va_P D classes [(o, .inr (11, [.ref a0, .ref q5, .ref q16, .ref q29, .ref q37, .ref q45, .ref q53, .ref q61, .ref q69]))] H76 := hO
  have hr : ∀ x ∈ ([H0.size, q5, q16, q29, q37, q45, q53, q61, q69] : List Nat), H0.size ≤ x := by
    intro x hx
    simp only [List.mem_cons, List.not_mem_nil, or_false] at hx
    rcases hx with rfl | rfl | rfl | rfl | rfl | rfl | rfl | rfl | rfl <;> first | exact Nat.le_refl _ | assumption
  refine hret _ _ _ _ ⟨(fun k => ([H0.size, q5, q16, q29, q37, q45, q53, q61, q69] : List Nat).getD k H0.size), hO, fun z hz => hA z (by simp only [List.mem_cons, List.not_mem_nil, or_false] at hz ⊢; rcases hz with rfl | rfl | rfl | rfl | rfl | rfl <;> simp), sx_ge hr⟩ hS.1 hS.2.2 d_Si_init_79
