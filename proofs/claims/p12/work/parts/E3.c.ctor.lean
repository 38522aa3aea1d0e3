def up_F (D : va_G) (g : ClassId → FieldType → Prop) (b o : Nat) (X : vM) (H : Heap) : Prop := H.size = b + 7 ∧ va_P D classes [(o, .inr (2, [.ref (b + 0), .ref (b + 1), .ref (b + 2), .ref (b + 3), .ref (b + 4), .ref (b + 5), .ref (b + 6)]))] H ∧ obs_ D H b [] ∧ sx_AR g H [((b + 6), .long, 10), ((b + 5), .long, 10), ((b + 4), .long, 10), ((b + 3), .long, 10), ((b + 2), .long, 10), ((b + 1), .long, 10), ((b + 0), .long, 10)] ∧ mm g H = X
abbrev rm_F_init : Room := { frames := 1, cells := 7, slots := 70, locals := 30 }
set_option maxHeartbeats 4000000 in
set_option maxRecDepth 100000 in
theorem u_F_init {l : Launch} {D : va_G} {g : ClassId → FieldType → Prop} {E : Nat → Prop} {H0 : Heap} {o b : Nat} {X : vM} (hEo : E o) (hEn : ∀ q, b ≤ q → E q) (hO : va_P D classes [(o, .inr (2, [.null, .null, .null, .null, .null, .null, .null]))] H0) (hsz : H0.size = b) (hV : mm g H0 = X) : Met l y_F_init (.code y_F_init b_F_init 1 none :: G_) rm_F_init (sx_Pc [.ref o] H0 D g) (va_Qv (fun _ : Unit => True) (fun _ t => sx_J g E H0 t.heap ∧ up_F D g b o X t.heap) E) 7 70 E := by
  refine sx_mva (own := R_F) (P := up_F D g b o X) (by decide) rfl (Nat.le_of_ble_eq_true rfl) ?_
  intro p e s m args below meth c Q ls EE hin hl hret
  obtain ⟨hx, hb, hml, hown, hts, hG, hK⟩ := id EE
  have hS : sx_S g E E H0 H0 [] := sx_S.rf
  have hA : sx_AR g H0 [] := sx_AR.nil
  have hB : obs_ D H0 b [] := obs_.nil
  have ho : o < b := hsz ▸ (hO 0 _ rfl).lt
  have hsz0 := hsz
  have hsz : H0.size = b + 0 := hsz
  have hle : ∀ k, b ≤ b + k := fun k => Nat.le_add_right b k
  have hl : lv_has ls 1 [(0, .ref o)] := hl
  refine lv_aload_n hx hb d_F_init_0 rfl (lv_at hl 0 rfl) ?_
  refine W.objInit hx hb hown (hts (.methodLink R_F 3 objectInit) (by decide +kernel)) (hts (.instanceMethod objectInit) (by decide +kernel)) (hts (.code objectInit ⟨#[0xb1]⟩ 1 none) (by decide +kernel)) rfl (by rw [hml]; exact hl.1) rfl d_F_init_1 (Nat.le_of_ble_eq_true rfl) (Nat.le_of_ble_eq_true rfl) ?_
  refine W.eq (g2 := F0 m 4 ls []) rfl ?_
  refine lv_aload_n hx hb d_F_init_4 rfl (lv_at hl 0 rfl) ?_
  refine lv_bipush (v := nI 10) hx hb d_F_init_5 (by decide +kernel) ?_
  refine vx_newa (cells' := 1) (slots' := 10) hx hb hG hts rfl (Or.inl rfl) (by decide +kernel) (by decide) (by decide) rfl rfl (Nat.le_of_ble_eq_true rfl) (Nat.le_of_ble_eq_true rfl) hS hV d_F_init_7 (fun q H7 eq hz a_ l_ hJ hk hS hV => ?_)
  have e_ : b = q := hsz.symm.trans eq
  subst e_
  have hsz : H7.size = b + 1 := hz
  have hA := hA.kept hJ
  have hO := hO.grown hk
  have hB := hB.grown hk
  have hA := hA.cons a_ l_
  have hO0 := hO
  refine sx_putF EE hin hO rfl i_F t_F tok_F n_F 0 (by decide) rfl fl_F_11 (ty := t_F 0) (by decide +kernel) rfl rfl (Nat.le_of_ble_eq_true rfl) hEo hS d_F_init_9 (fun H9 locs hO hJ hs hS => ?_)
  have hO : va_P D classes [(o, .inr (2, [.ref (b + 0), .null, .null, .null, .null, .null, .null]))] H9 := hO
  have hV := (vx_obj hG hK.1 hO0 hO hs).trans hV
  have hA := hA.kept hJ
  have hB := hB.one hs ho
  have hsz := (sz_one hJ.1 hs (lt_sz ho hsz)).trans hsz
  refine lv_aload_n hx hb d_F_init_12 rfl (lv_at hl 0 rfl) ?_
  refine lv_bipush (v := nI 10) hx hb d_F_init_13 (by decide +kernel) ?_
  refine vx_newa (cells' := 2) (slots' := 20) hx hb hG hts rfl (Or.inl rfl) (by decide +kernel) (by decide) (by decide) rfl rfl (Nat.le_of_ble_eq_true rfl) (Nat.le_of_ble_eq_true rfl) hS hV d_F_init_15 (fun q H15 eq hz a_ l_ hJ hk hS hV => ?_)
  have e_ : q = b + 1 := eq.symm.trans hsz
  subst e_
  have hsz : H15.size = b + 2 := hz
  have hA := hA.kept hJ
  have hO := hO.grown hk
  have hB := hB.grown hk
  have hA := hA.cons a_ l_
  have hO0 := hO
  refine sx_putF EE hin hO rfl i_F t_F tok_F n_F 1 (by decide) rfl fl_F_15 (ty := t_F 1) (by decide +kernel) rfl rfl (Nat.le_of_ble_eq_true rfl) hEo hS d_F_init_17 (fun H17 locs hO hJ hs hS => ?_)
  have hO : va_P D classes [(o, .inr (2, [.ref (b + 0), .ref (b + 1), .null, .null, .null, .null, .null]))] H17 := hO
  have hV := (vx_obj hG hK.1 hO0 hO hs).trans hV
  have hA := hA.kept hJ
  have hB := hB.one hs ho
  have hsz := (sz_one hJ.1 hs (lt_sz ho hsz)).trans hsz
  refine lv_aload_n hx hb d_F_init_20 rfl (lv_at hl 0 rfl) ?_
  refine lv_bipush (v := nI 10) hx hb d_F_init_21 (by decide +kernel) ?_
  refine vx_newa (cells' := 3) (slots' := 30) hx hb hG hts rfl (Or.inl rfl) (by decide +kernel) (by decide) (by decide) rfl rfl (Nat.le_of_ble_eq_true rfl) (Nat.le_of_ble_eq_true rfl) hS hV d_F_init_23 (fun q H23 eq hz a_ l_ hJ hk hS hV => ?_)
  have e_ : q = b + 2 := eq.symm.trans hsz
  subst e_
  have hsz : H23.size = b + 3 := hz
  have hA := hA.kept hJ
  have hO := hO.grown hk
  have hB := hB.grown hk
  have hA := hA.cons a_ l_
  have hO0 := hO
  refine sx_putF EE hin hO rfl i_F t_F tok_F n_F 2 (by decide) rfl fl_F_18 (ty := t_F 2) (by decide +kernel) rfl rfl (Nat.le_of_ble_eq_true rfl) hEo hS d_F_init_25 (fun H25 locs hO hJ hs hS => ?_)
  have hO : va_P D classes [(o, .inr (2, [.ref (b + 0), .ref (b + 1), .ref (b + 2), .null, .null, .null, .null]))] H25 := hO
  have hV := (vx_obj hG hK.1 hO0 hO hs).trans hV
  have hA := hA.kept hJ
  have hB := hB.one hs ho
  have hsz := (sz_one hJ.1 hs (lt_sz ho hsz)).trans hsz
  refine lv_aload_n hx hb d_F_init_28 rfl (lv_at hl 0 rfl) ?_
  refine lv_bipush (v := nI 10) hx hb d_F_init_29 (by decide +kernel) ?_
  refine vx_newa (cells' := 4) (slots' := 40) hx hb hG hts rfl (Or.inl rfl) (by decide +kernel) (by decide) (by decide) rfl rfl (Nat.le_of_ble_eq_true rfl) (Nat.le_of_ble_eq_true rfl) hS hV d_F_init_31 (fun q H31 eq hz a_ l_ hJ hk hS hV => ?_)
  have e_ : q = b + 3 := eq.symm.trans hsz
  subst e_
  have hsz : H31.size = b + 4 := hz
  have hA := hA.kept hJ
  have hO := hO.grown hk
  have hB := hB.grown hk
  have hA := hA.cons a_ l_
  have hO0 := hO
  refine sx_putF EE hin hO rfl i_F t_F tok_F n_F 3 (by decide) rfl fl_F_21 (ty := t_F 3) (by decide +kernel) rfl rfl (Nat.le_of_ble_eq_true rfl) hEo hS d_F_init_33 (fun H33 locs hO hJ hs hS => ?_)
  have hO : va_P D classes [(o, .inr (2, [.ref (b + 0), .ref (b + 1), .ref (b + 2), .ref (b + 3), .null, .null, .null]))] H33 := hO
  have hV := (vx_obj hG hK.1 hO0 hO hs).trans hV
  have hA := hA.kept hJ
  have hB := hB.one hs ho
  have hsz := (sz_one hJ.1 hs (lt_sz ho hsz)).trans hsz
  refine lv_aload_n hx hb d_F_init_36 rfl (lv_at hl 0 rfl) ?_
  refine lv_bipush (v := nI 10) hx hb d_F_init_37 (by decide +kernel) ?_
  refine vx_newa (cells' := 5) (slots' := 50) hx hb hG hts rfl (Or.inl rfl) (by decide +kernel) (by decide) (by decide) rfl rfl (Nat.le_of_ble_eq_true rfl) (Nat.le_of_ble_eq_true rfl) hS hV d_F_init_39 (fun q H39 eq hz a_ l_ hJ hk hS hV => ?_)
  have e_ : q = b + 4 := eq.symm.trans hsz
  subst e_
  have hsz : H39.size = b + 5 := hz
  have hA := hA.kept hJ
  have hO := hO.grown hk
  have hB := hB.grown hk
  have hA := hA.cons a_ l_
  have hO0 := hO
  refine sx_putF EE hin hO rfl i_F t_F tok_F n_F 4 (by decide) rfl fl_F_24 (ty := t_F 4) (by decide +kernel) rfl rfl (Nat.le_of_ble_eq_true rfl) hEo hS d_F_init_41 (fun H41 locs hO hJ hs hS => ?_)
  have hO : va_P D classes [(o, .inr (2, [.ref (b + 0), .ref (b + 1), .ref (b + 2), .ref (b + 3), .ref (b + 4), .null, .null]))] H41 := hO
  have hV := (vx_obj hG hK.1 hO0 hO hs).trans hV
  have hA := hA.kept hJ
  have hB := hB.one hs ho
  have hsz := (sz_one hJ.1 hs (lt_sz ho hsz)).trans hsz
  refine lv_aload_n hx hb d_F_init_44 rfl (lv_at hl 0 rfl) ?_
  refine lv_bipush (v := nI 10) hx hb d_F_init_45 (by decide +kernel) ?_
  refine vx_newa (cells' := 6) (slots' := 60) hx hb hG hts rfl (Or.inl rfl) (by decide +kernel) (by decide) (by decide) rfl rfl (Nat.le_of_ble_eq_true rfl) (Nat.le_of_ble_eq_true rfl) hS hV d_F_init_47 (fun q H47 eq hz a_ l_ hJ hk hS hV => ?_)
  have e_ : q = b + 5 := eq.symm.trans hsz
  subst e_
  have hsz : H47.size = b + 6 := hz
  have hA := hA.kept hJ
  have hO := hO.grown hk
  have hB := hB.grown hk
  have hA := hA.cons a_ l_
  have hO0 := hO
  refine sx_putF EE hin hO rfl i_F t_F tok_F n_F 5 (by decide) rfl fl_F_27 (ty := t_F 5) (by decide +kernel) rfl rfl (Nat.le_of_ble_eq_true rfl) hEo hS d_F_init_49 (fun H49 locs hO hJ hs hS => ?_)
  have hO : va_P D classes [(o, .inr (2, [.ref (b + 0), .ref (b + 1), .ref (b + 2), .ref (b + 3), .ref (b + 4), .ref (b + 5), .null]))] H49 := hO
  have hV := (vx_obj hG hK.1 hO0 hO hs).trans hV
  have hA := hA.kept hJ
  have hB := hB.one hs ho
  have hsz := (sz_one hJ.1 hs (lt_sz ho hsz)).trans hsz
  refine lv_aload_n hx hb d_F_init_52 rfl (lv_at hl 0 rfl) ?_
  refine lv_bipush (v := nI 10) hx hb d_F_init_53 (by decide +kernel) ?_
  refine vx_newa (cells' := 7) (slots' := 70) hx hb hG hts rfl (Or.inl rfl) (by decide +kernel) (by decide) (by decide) rfl rfl (Nat.le_of_ble_eq_true rfl) (Nat.le_of_ble_eq_true rfl) hS hV d_F_init_55 (fun q H55 eq hz a_ l_ hJ hk hS hV => ?_)
  have e_ : q = b + 6 := eq.symm.trans hsz
  subst e_
  have hsz : H55.size = b + 7 := hz
  have hA := hA.kept hJ
  have hO := hO.grown hk
  have hB := hB.grown hk
  have hA := hA.cons a_ l_
  have hO0 := hO
  refine sx_putF EE hin hO rfl i_F t_F tok_F n_F 6 (by decide) rfl fl_F_30 (ty := t_F 6) (by decide +kernel) rfl rfl (Nat.le_of_ble_eq_true rfl) hEo hS d_F_init_57 (fun H57 locs hO hJ hs hS => ?_)
  have hO : va_P D classes [(o, .inr (2, [.ref (b + 0), .ref (b + 1), .ref (b + 2), .ref (b + 3), .ref (b + 4), .ref (b + 5), .ref (b + 6)]))] H57 := hO
  have hV := (vx_obj hG hK.1 hO0 hO hs).trans hV
  have hA := hA.kept hJ
  have hB := hB.one hs ho
  have hsz := (sz_one hJ.1 hs (lt_sz ho hsz)).trans hsz
  exact hret _ _ _ _ ⟨hsz, hO, hB, hA, hV⟩ hS.1 hS.2.2 d_F_init_60
