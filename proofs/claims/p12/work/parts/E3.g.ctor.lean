def up_La (D : va_G) (g : ClassId → FieldType → Prop) (b o a0 : Nat) (X : vM) (H : Heap) : Prop := H.size = b + 11 ∧ va_P D classes [(o, .inr (3, [.ref a0, .ref (b + 0), .ref (b + 1), .ref (b + 2), .ref (b + 3), .ref (b + 4), .ref (b + 5), .ref (b + 6), .ref (b + 7), .ref (b + 8), .ref (b + 9), .ref (b + 10)]))] H ∧ obs_ D H b [] ∧ sx_AR g H [((b + 10), .long, 10), ((b + 9), .long, 10), ((b + 8), .long, 10), ((b + 7), .long, 10), ((b + 6), .long, 10), ((b + 5), .long, 10), ((b + 4), .long, 10), ((b + 3), .long, 10), ((b + 2), .long, 10), ((b + 1), .byte, 32), ((b + 0), .byte, 32)] ∧ mm g H = (stI X (b + 1) 0 (nI 9).toInt8.toInt32)
abbrev rm_La_init : Room := { frames := 1, cells := 11, slots := 154, locals := 30 }
set_option maxHeartbeats 4000000 in
set_option maxRecDepth 100000 in
theorem u_La_init {l : Launch} {D : va_G} {g : ClassId → FieldType → Prop} {E : Nat → Prop} {H0 : Heap} {o b a0 : Nat} {X : vM} (hEo : E o) (hEn : ∀ q, b ≤ q → E q) (hO : va_P D classes [(o, .inr (3, [.null, .null, .null, .null, .null, .null, .null, .null, .null, .null, .null, .null]))] H0) (hsz : H0.size = b) (hV : mm g H0 = X) : Met l y_La_init (.code y_La_init b_La_init 2 none :: G_) rm_La_init (sx_Pc [.ref o, .ref a0] H0 D g) (va_Qv (fun _ : Unit => True) (fun _ t => sx_J g E H0 t.heap ∧ up_La D g b o a0 X t.heap) E) 11 154 E := by
  refine sx_mva (own := R_La) (P := up_La D g b o a0 X) (by decide) rfl (Nat.le_of_ble_eq_true rfl) ?_
  intro p e s m args below meth c Q ls EE hin hl hret
  obtain ⟨hx, hb, hml, hown, hts, hG, hK⟩ := id EE
  have hS : sx_S g E E H0 H0 [] := sx_S.rf
  have hA : sx_AR g H0 [] := sx_AR.nil
  have hB : obs_ D H0 b [] := obs_.nil
  have ho : o < b := hsz ▸ (hO 0 _ rfl).lt
  have hsz0 := hsz
  have hsz : H0.size = b + 0 := hsz
  have hle : ∀ k, b ≤ b + k := fun k => Nat.le_add_right b k
  have hl : lv_has ls 2 [(0, .ref o), (1, .ref a0)] := hl
  refine lv_aload_n hx hb d_La_init_0 rfl (lv_at hl 0 rfl) ?_
  refine W.objInit hx hb hown (hts (.methodLink R_La 3 objectInit) (by decide +kernel)) (hts (.instanceMethod objectInit) (by decide +kernel)) (hts (.code objectInit ⟨#[0xb1]⟩ 1 none) (by decide +kernel)) rfl (by rw [hml]; exact hl.1) rfl d_La_init_1 (Nat.le_of_ble_eq_true rfl) (Nat.le_of_ble_eq_true rfl) ?_
  refine W.eq (g2 := F0 m 4 ls []) rfl ?_
  refine lv_aload_n hx hb d_La_init_4 rfl (lv_at hl 0 rfl) ?_
  refine lv_bipush (v := nI 32) hx hb d_La_init_5 (by decide +kernel) ?_
  refine vx_newa (cells' := 1) (slots' := 32) hx hb hG hts rfl (Or.inr (Or.inl rfl)) (by decide +kernel) (by decide) (by decide) rfl rfl (Nat.le_of_ble_eq_true rfl) (Nat.le_of_ble_eq_true rfl) hS hV d_La_init_7 (fun q H7 eq hz a_ l_ hJ hk hS hV => ?_)
  have e_ : b = q := hsz.symm.trans eq
  subst e_
  have hsz : H7.size = b + 1 := hz
  have hA := hA.kept hJ
  have hO := hO.grown hk
  have hB := hB.grown hk
  have hA := hA.cons a_ l_
  have hO0 := hO
  refine sx_putF EE hin hO rfl i_La t_La tok_La n_La 1 (by decide) rfl fl_La_9 (ty := t_La 1) (by decide +kernel) rfl rfl (Nat.le_of_ble_eq_true rfl) hEo hS d_La_init_9 (fun H9 locs hO hJ hs hS => ?_)
  have hO : va_P D classes [(o, .inr (3, [.null, .ref (b + 0), .null, .null, .null, .null, .null, .null, .null, .null, .null, .null]))] H9 := hO
  have hV := (vx_obj hG hK.1 hO0 hO hs).trans hV
  have hA := hA.kept hJ
  have hB := hB.one hs ho
  have hsz := (sz_one hJ.1 hs (lt_sz ho hsz)).trans hsz
  refine lv_aload_n hx hb d_La_init_12 rfl (lv_at hl 0 rfl) ?_
  refine lv_bipush (v := nI 32) hx hb d_La_init_13 (by decide +kernel) ?_
  refine vx_newa (cells' := 2) (slots' := 64) hx hb hG hts rfl (Or.inr (Or.inl rfl)) (by decide +kernel) (by decide) (by decide) rfl rfl (Nat.le_of_ble_eq_true rfl) (Nat.le_of_ble_eq_true rfl) hS hV d_La_init_15 (fun q H15 eq hz a_ l_ hJ hk hS hV => ?_)
  have e_ : q = b + 1 := eq.symm.trans hsz
  subst e_
  have hsz : H15.size = b + 2 := hz
  have hA := hA.kept hJ
  have hO := hO.grown hk
  have hB := hB.grown hk
  have hA := hA.cons a_ l_
  have hO0 := hO
  refine sx_putF EE hin hO rfl i_La t_La tok_La n_La 2 (by decide) rfl fl_La_15 (ty := t_La 2) (by decide +kernel) rfl rfl (Nat.le_of_ble_eq_true rfl) hEo hS d_La_init_17 (fun H17 locs hO hJ hs hS => ?_)
  have hO : va_P D classes [(o, .inr (3, [.null, .ref (b + 0), .ref (b + 1), .null, .null, .null, .null, .null, .null, .null, .null, .null]))] H17 := hO
  have hV := (vx_obj hG hK.1 hO0 hO hs).trans hV
  have hA := hA.kept hJ
  have hB := hB.one hs ho
  have hsz := (sz_one hJ.1 hs (lt_sz ho hsz)).trans hsz
  refine lv_aload_n hx hb d_La_init_20 rfl (lv_at hl 0 rfl) ?_
  refine lv_bipush (v := nI 10) hx hb d_La_init_21 (by decide +kernel) ?_
  refine vx_newa (cells' := 3) (slots' := 74) hx hb hG hts rfl (Or.inl rfl) (by decide +kernel) (by decide) (by decide) rfl rfl (Nat.le_of_ble_eq_true rfl) (Nat.le_of_ble_eq_true rfl) hS hV d_La_init_23 (fun q H23 eq hz a_ l_ hJ hk hS hV => ?_)
  have e_ : q = b + 2 := eq.symm.trans hsz
  subst e_
  have hsz : H23.size = b + 3 := hz
  have hA := hA.kept hJ
  have hO := hO.grown hk
  have hB := hB.grown hk
  have hA := hA.cons a_ l_
  have hO0 := hO
  refine sx_putF EE hin hO rfl i_La t_La tok_La n_La 3 (by decide) rfl fl_La_20 (ty := t_La 3) (by decide +kernel) rfl rfl (Nat.le_of_ble_eq_true rfl) hEo hS d_La_init_25 (fun H25 locs hO hJ hs hS => ?_)
  have hO : va_P D classes [(o, .inr (3, [.null, .ref (b + 0), .ref (b + 1), .ref (b + 2), .null, .null, .null, .null, .null, .null, .null, .null]))] H25 := hO
  have hV := (vx_obj hG hK.1 hO0 hO hs).trans hV
  have hA := hA.kept hJ
  have hB := hB.one hs ho
  have hsz := (sz_one hJ.1 hs (lt_sz ho hsz)).trans hsz
  refine lv_aload_n hx hb d_La_init_28 rfl (lv_at hl 0 rfl) ?_
  refine lv_bipush (v := nI 10) hx hb d_La_init_29 (by decide +kernel) ?_
  refine vx_newa (cells' := 4) (slots' := 84) hx hb hG hts rfl (Or.inl rfl) (by decide +kernel) (by decide) (by decide) rfl rfl (Nat.le_of_ble_eq_true rfl) (Nat.le_of_ble_eq_true rfl) hS hV d_La_init_31 (fun q H31 eq hz a_ l_ hJ hk hS hV => ?_)
  have e_ : q = b + 3 := eq.symm.trans hsz
  subst e_
  have hsz : H31.size = b + 4 := hz
  have hA := hA.kept hJ
  have hO := hO.grown hk
  have hB := hB.grown hk
  have hA := hA.cons a_ l_
  have hO0 := hO
  refine sx_putF EE hin hO rfl i_La t_La tok_La n_La 4 (by decide) rfl fl_La_24 (ty := t_La 4) (by decide +kernel) rfl rfl (Nat.le_of_ble_eq_true rfl) hEo hS d_La_init_33 (fun H33 locs hO hJ hs hS => ?_)
  have hO : va_P D classes [(o, .inr (3, [.null, .ref (b + 0), .ref (b + 1), .ref (b + 2), .ref (b + 3), .null, .null, .null, .null, .null, .null, .null]))] H33 := hO
  have hV := (vx_obj hG hK.1 hO0 hO hs).trans hV
  have hA := hA.kept hJ
  have hB := hB.one hs ho
  have hsz := (sz_one hJ.1 hs (lt_sz ho hsz)).trans hsz
  refine lv_aload_n hx hb d_La_init_36 rfl (lv_at hl 0 rfl) ?_
  refine lv_bipush (v := nI 10) hx hb d_La_init_37 (by decide +kernel) ?_
  refine vx_newa (cells' := 5) (slots' := 94) hx hb hG hts rfl (Or.inl rfl) (by decide +kernel) (by decide) (by decide) rfl rfl (Nat.le_of_ble_eq_true rfl) (Nat.le_of_ble_eq_true rfl) hS hV d_La_init_39 (fun q H39 eq hz a_ l_ hJ hk hS hV => ?_)
  have e_ : q = b + 4 := eq.symm.trans hsz
  subst e_
  have hsz : H39.size = b + 5 := hz
  have hA := hA.kept hJ
  have hO := hO.grown hk
  have hB := hB.grown hk
  have hA := hA.cons a_ l_
  have hO0 := hO
  refine sx_putF EE hin hO rfl i_La t_La tok_La n_La 5 (by decide) rfl fl_La_27 (ty := t_La 5) (by decide +kernel) rfl rfl (Nat.le_of_ble_eq_true rfl) hEo hS d_La_init_41 (fun H41 locs hO hJ hs hS => ?_)
  have hO : va_P D classes [(o, .inr (3, [.null, .ref (b + 0), .ref (b + 1), .ref (b + 2), .ref (b + 3), .ref (b + 4), .null, .null, .null, .null, .null, .null]))] H41 := hO
  have hV := (vx_obj hG hK.1 hO0 hO hs).trans hV
  have hA := hA.kept hJ
  have hB := hB.one hs ho
  have hsz := (sz_one hJ.1 hs (lt_sz ho hsz)).trans hsz
  refine lv_aload_n hx hb d_La_init_44 rfl (lv_at hl 0 rfl) ?_
  refine lv_bipush (v := nI 10) hx hb d_La_init_45 (by decide +kernel) ?_
  refine vx_newa (cells' := 6) (slots' := 104) hx hb hG hts rfl (Or.inl rfl) (by decide +kernel) (by decide) (by decide) rfl rfl (Nat.le_of_ble_eq_true rfl) (Nat.le_of_ble_eq_true rfl) hS hV d_La_init_47 (fun q H47 eq hz a_ l_ hJ hk hS hV => ?_)
  have e_ : q = b + 5 := eq.symm.trans hsz
  subst e_
  have hsz : H47.size = b + 6 := hz
  have hA := hA.kept hJ
  have hO := hO.grown hk
  have hB := hB.grown hk
  have hA := hA.cons a_ l_
  have hO0 := hO
  refine sx_putF EE hin hO rfl i_La t_La tok_La n_La 6 (by decide) rfl fl_La_30 (ty := t_La 6) (by decide +kernel) rfl rfl (Nat.le_of_ble_eq_true rfl) hEo hS d_La_init_49 (fun H49 locs hO hJ hs hS => ?_)
  have hO : va_P D classes [(o, .inr (3, [.null, .ref (b + 0), .ref (b + 1), .ref (b + 2), .ref (b + 3), .ref (b + 4), .ref (b + 5), .null, .null, .null, .null, .null]))] H49 := hO
  have hV := (vx_obj hG hK.1 hO0 hO hs).trans hV
  have hA := hA.kept hJ
  have hB := hB.one hs ho
  have hsz := (sz_one hJ.1 hs (lt_sz ho hsz)).trans hsz
  refine lv_aload_n hx hb d_La_init_52 rfl (lv_at hl 0 rfl) ?_
  refine lv_bipush (v := nI 10) hx hb d_La_init_53 (by decide +kernel) ?_
  refine vx_newa (cells' := 7) (slots' := 114) hx hb hG hts rfl (Or.inl rfl) (by decide +kernel) (by decide) (by decide) rfl rfl (Nat.le_of_ble_eq_true rfl) (Nat.le_of_ble_eq_true rfl) hS hV d_La_init_55 (fun q H55 eq hz a_ l_ hJ hk hS hV => ?_)
  have e_ : q = b + 6 := eq.symm.trans hsz
  subst e_
  have hsz : H55.size = b + 7 := hz
  have hA := hA.kept hJ
  have hO := hO.grown hk
  have hB := hB.grown hk
  have hA := hA.cons a_ l_
  have hO0 := hO
  refine sx_putF EE hin hO rfl i_La t_La tok_La n_La 7 (by decide) rfl fl_La_33 (ty := t_La 7) (by decide +kernel) rfl rfl (Nat.le_of_ble_eq_true rfl) hEo hS d_La_init_57 (fun H57 locs hO hJ hs hS => ?_)
  have hO : va_P D classes [(o, .inr (3, [.null, .ref (b + 0), .ref (b + 1), .ref (b + 2), .ref (b + 3), .ref (b + 4), .ref (b + 5), .ref (b + 6), .null, .null, .null, .null]))] H57 := hO
  have hV := (vx_obj hG hK.1 hO0 hO hs).trans hV
  have hA := hA.kept hJ
  have hB := hB.one hs ho
  have hsz := (sz_one hJ.1 hs (lt_sz ho hsz)).trans hsz
  refine lv_aload_n hx hb d_La_init_60 rfl (lv_at hl 0 rfl) ?_
  refine lv_bipush (v := nI 10) hx hb d_La_init_61 (by decide +kernel) ?_
  refine vx_newa (cells' := 8) (slots' := 124) hx hb hG hts rfl (Or.inl rfl) (by decide +kernel) (by decide) (by decide) rfl rfl (Nat.le_of_ble_eq_true rfl) (Nat.le_of_ble_eq_true rfl) hS hV d_La_init_63 (fun q H63 eq hz a_ l_ hJ hk hS hV => ?_)
  have e_ : q = b + 7 := eq.symm.trans hsz
  subst e_
  have hsz : H63.size = b + 8 := hz
  have hA := hA.kept hJ
  have hO := hO.grown hk
  have hB := hB.grown hk
  have hA := hA.cons a_ l_
  have hO0 := hO
  refine sx_putF EE hin hO rfl i_La t_La tok_La n_La 8 (by decide) rfl fl_La_36 (ty := t_La 8) (by decide +kernel) rfl rfl (Nat.le_of_ble_eq_true rfl) hEo hS d_La_init_65 (fun H65 locs hO hJ hs hS => ?_)
  have hO : va_P D classes [(o, .inr (3, [.null, .ref (b + 0), .ref (b + 1), .ref (b + 2), .ref (b + 3), .ref (b + 4), .ref (b + 5), .ref (b + 6), .ref (b + 7), .null, .null, .null]))] H65 := hO
  have hV := (vx_obj hG hK.1 hO0 hO hs).trans hV
  have hA := hA.kept hJ
  have hB := hB.one hs ho
  have hsz := (sz_one hJ.1 hs (lt_sz ho hsz)).trans hsz
  refine lv_aload_n hx hb d_La_init_68 rfl (lv_at hl 0 rfl) ?_
  refine lv_bipush (v := nI 10) hx hb d_La_init_69 (by decide +kernel) ?_
  refine vx_newa (cells' := 9) (slots' := 134) hx hb hG hts rfl (Or.inl rfl) (by decide +kernel) (by decide) (by decide) rfl rfl (Nat.le_of_ble_eq_true rfl) (Nat.le_of_ble_eq_true rfl) hS hV d_La_init_71 (fun q H71 eq hz a_ l_ hJ hk hS hV => ?_)
  have e_ : q = b + 8 := eq.symm.trans hsz
  subst e_
  have hsz : H71.size = b + 9 := hz
  have hA := hA.kept hJ
  have hO := hO.grown hk
  have hB := hB.grown hk
  have hA := hA.cons a_ l_
  have hO0 := hO
  refine sx_putF EE hin hO rfl i_La t_La tok_La n_La 9 (by decide) rfl fl_La_39 (ty := t_La 9) (by decide +kernel) rfl rfl (Nat.le_of_ble_eq_true rfl) hEo hS d_La_init_73 (fun H73 locs hO hJ hs hS => ?_)
  have hO : va_P D classes [(o, .inr (3, [.null, .ref (b + 0), .ref (b + 1), .ref (b + 2), .ref (b + 3), .ref (b + 4), .ref (b + 5), .ref (b + 6), .ref (b + 7), .ref (b + 8), .null, .null]))] H73 := hO
  have hV := (vx_obj hG hK.1 hO0 hO hs).trans hV
  have hA := hA.kept hJ
  have hB := hB.one hs ho
  have hsz := (sz_one hJ.1 hs (lt_sz ho hsz)).trans hsz
  refine lv_aload_n hx hb d_La_init_76 rfl (lv_at hl 0 rfl) ?_
  refine lv_bipush (v := nI 10) hx hb d_La_init_77 (by decide +kernel) ?_
  refine vx_newa (cells' := 10) (slots' := 144) hx hb hG hts rfl (Or.inl rfl) (by decide +kernel) (by decide) (by decide) rfl rfl (Nat.le_of_ble_eq_true rfl) (Nat.le_of_ble_eq_true rfl) hS hV d_La_init_79 (fun q H79 eq hz a_ l_ hJ hk hS hV => ?_)
  have e_ : q = b + 9 := eq.symm.trans hsz
  subst e_
  have hsz : H79.size = b + 10 := hz
  have hA := hA.kept hJ
  have hO := hO.grown hk
  have hB := hB.grown hk
  have hA := hA.cons a_ l_
  have hO0 := hO
  refine sx_putF EE hin hO rfl i_La t_La tok_La n_La 10 (by decide) rfl fl_La_42 (ty := t_La 10) (by decide +kernel) rfl rfl (Nat.le_of_ble_eq_true rfl) hEo hS d_La_init_81 (fun H81 locs hO hJ hs hS => ?_)
  have hO : va_P D classes [(o, .inr (3, [.null, .ref (b + 0), .ref (b + 1), .ref (b + 2), .ref (b + 3), .ref (b + 4), .ref (b + 5), .ref (b + 6), .ref (b + 7), .ref (b + 8), .ref (b + 9), .null]))] H81 := hO
  have hV := (vx_obj hG hK.1 hO0 hO hs).trans hV
  have hA := hA.kept hJ
  have hB := hB.one hs ho
  have hsz := (sz_one hJ.1 hs (lt_sz ho hsz)).trans hsz
  refine lv_aload_n hx hb d_La_init_84 rfl (lv_at hl 0 rfl) ?_
  refine lv_bipush (v := nI 10) hx hb d_La_init_85 (by decide +kernel) ?_
  refine vx_newa (cells' := 11) (slots' := 154) hx hb hG hts rfl (Or.inl rfl) (by decide +kernel) (by decide) (by decide) rfl rfl (Nat.le_of_ble_eq_true rfl) (Nat.le_of_ble_eq_true rfl) hS hV d_La_init_87 (fun q H87 eq hz a_ l_ hJ hk hS hV => ?_)
  have e_ : q = b + 10 := eq.symm.trans hsz
  subst e_
  have hsz : H87.size = b + 11 := hz
  have hA := hA.kept hJ
  have hO := hO.grown hk
  have hB := hB.grown hk
  have hA := hA.cons a_ l_
  have hO0 := hO
  refine sx_putF EE hin hO rfl i_La t_La tok_La n_La 11 (by decide) rfl fl_La_45 (ty := t_La 11) (by decide +kernel) rfl rfl (Nat.le_of_ble_eq_true rfl) hEo hS d_La_init_89 (fun H89 locs hO hJ hs hS => ?_)
  have hO : va_P D classes [(o, .inr (3, [.null, .ref (b + 0), .ref (b + 1), .ref (b + 2), .ref (b + 3), .ref (b + 4), .ref (b + 5), .ref (b + 6), .ref (b + 7), .ref (b + 8), .ref (b + 9), .ref (b + 10)]))] H89 := hO
  have hV := (vx_obj hG hK.1 hO0 hO hs).trans hV
  have hA := hA.kept hJ
  have hB := hB.one hs ho
  have hsz := (sz_one hJ.1 hs (lt_sz ho hsz)).trans hsz
  refine lv_aload_n hx hb d_La_init_92 rfl (lv_at hl 0 rfl) ?_
  refine lv_aload_n hx hb d_La_init_93 rfl (lv_at hl 1 rfl) ?_
  have hO0 := hO
  refine sx_putF EE hin hO rfl i_La t_La tok_La n_La 0 (by decide) rfl fl_La_48 (ty := t_La 0) (by decide +kernel) rfl rfl (Nat.le_of_ble_eq_true rfl) hEo hS d_La_init_94 (fun H94 locs hO hJ hs hS => ?_)
  have hO : va_P D classes [(o, .inr (3, [.ref a0, .ref (b + 0), .ref (b + 1), .ref (b + 2), .ref (b + 3), .ref (b + 4), .ref (b + 5), .ref (b + 6), .ref (b + 7), .ref (b + 8), .ref (b + 9), .ref (b + 10)]))] H94 := hO
  have hV := (vx_obj hG hK.1 hO0 hO hs).trans hV
  have hA := hA.kept hJ
  have hB := hB.one hs ho
  have hsz := (sz_one hJ.1 hs (lt_sz ho hsz)).trans hsz
  refine lv_aload_n hx hb d_La_init_97 rfl (lv_at hl 0 rfl) ?_
  refine sx_get (v := .ref (b + 1)) EE hO rfl i_La 2 (by decide) rfl fl_La_15 rfl d_La_init_98 ?_
  refine lv_iconst (v := nI 0) hx hb d_La_init_101 (by decide +kernel) ?_
  refine lv_bipush (v := nI 9) hx hb d_La_init_102 (by decide +kernel) ?_
  refine vx_bastZ (E := fun z => z = (b + 1)) (F := E) (H0 := H94) hx hb hG ⟨sx_J.rf, fun z h => h ▸ hEn _ (Nat.le_add_right _ _), hS.2.2⟩ hV (show sx_A g .byte H94 (b + 1) 32 from (hA ((b + 1), .byte, 32) (List.mem_of_getElem? (i := 9) rfl)).1) rfl (by decide) (by decide) d_La_init_104 (fun H104 locs X_ eX_ hS1 hV hz => ?_)
  subst eX_
  have hO := hS1.1.ob (fun e => ne_o ho (Nat.le_add_right _ _) (show o = (b + 1) from e).symm) hO
  have hB : obs_ D H104 b [] := obs_.nil
  have hA := hA.kept hS1.1
  have hsz := hz.trans hsz
  have hS : sx_S g E E H0 H104 locs := ⟨hS.1.tr (hS1.1.mono (fun z h => h ▸ hEn _ (Nat.le_add_right _ _))), fun _ h => h, hS1.2.2⟩
  exact hret _ _ _ _ ⟨hsz, hO, hB, hA, hV⟩ hS.1 hS.2.2 d_La_init_105
