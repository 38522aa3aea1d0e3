def up_Pt (D : va_G) (g : ClassId → FieldType → Prop) (b o : Nat) (X : vM) (H : Heap) : Prop := H.size = b + 4 ∧ va_P D classes [(o, .inr (4, [.ref (b + 0), .ref (b + 1), .ref (b + 2), .ref (b + 3)]))] H ∧ obs_ D H b [] ∧ sx_AR g H [((b + 3), .long, 10), ((b + 2), .long, 10), ((b + 1), .long, 10), ((b + 0), .long, 10)] ∧ mm g H = X
abbrev rm_Pt_init : Room := { frames := 1, cells := 4, slots := 40, locals := 30 }
set_option maxHeartbeats 4000000 in
set_option maxRecDepth 100000 in
theorem u_Pt_init {l : Launch} {D : va_G} {g : ClassId → FieldType → Prop} {E : Nat → Prop} {H0 : Heap} {o b : Nat} {X : vM} (hEo : E o) (hEn : ∀ q, b ≤ q → E q) (hO : va_P D classes [(o, .inr (4, [.null, .null, .null, .null]))] H0) (hsz : H0.size = b) (hV : mm g H0 = X) : Met l y_Pt_init (.code y_Pt_init b_Pt_init 1 none :: G_) rm_Pt_init (sx_Pc [.ref o] H0 D g) (va_Qv (fun _ : Unit => True) (fun _ t => sx_J g E H0 t.heap ∧ up_Pt D g b o X t.heap) E) 4 40 E := by
  refine sx_mva (own := R_Pt) (P := up_Pt D g b o X) (by decide) rfl (Nat.le_of_ble_eq_true rfl) ?_
  intro p e s m args below meth c Q ls EE hin hl hret
  obtain ⟨hx, hb, hml, hown, hts, hG, hK⟩ := id EE
  have hS : sx_S g E E H0 H0 [] := sx_S.rf
  have hA : sx_AR g H0 [] := sx_AR.nil
  have hB : obs_ D H0 b [] := obs_.nil
  have ho : o < b := hsz ▸ (hO 0 _ rfl).lt
  have hsz : H0.size = b + 0 := hsz
  have hl : lv_has ls 1 [(0, .ref o)] := hl
  refine lv_aload_n hx hb d_Pt_init_0 rfl (lv_at hl 0 rfl) ?_
  refine W.objInit hx hb hown (hts (.methodLink R_Pt 1 objectInit) (by decide +kernel)) (hts (.instanceMethod objectInit) (by decide +kernel)) (hts (.code objectInit ⟨#[0xb1]⟩ 1 none) (by decide +kernel)) rfl (by rw [hml]; exact hl.1) rfl d_Pt_init_1 (Nat.le_of_ble_eq_true rfl) (Nat.le_of_ble_eq_true rfl) ?_
  refine W.eq (g2 := F0 m 4 ls []) rfl ?_
  refine lv_aload_n hx hb d_Pt_init_4 rfl (lv_at hl 0 rfl) ?_
  refine lv_bipush (v := nI 10) hx hb d_Pt_init_5 (by decide +kernel) ?_
  refine vx_newa (cells' := 1) (slots' := 10) hx hb hG hts rfl (Or.inl rfl) (by decide +kernel) (by decide) (by decide) rfl rfl (Nat.le_of_ble_eq_true rfl) (Nat.le_of_ble_eq_true rfl) hS hV d_Pt_init_7 (fun q H7 eq hz a_ l_ hJ hk hS hV => ?_)
  obtain rfl : q = b + 0 := by omega
  have hsz : H7.size = b + 1 := by omega
  have hA := hA.kept hJ
  have hO := hO.grown hk
  have hB := hB.grown hk
  have hA := hA.cons a_ l_
  have hO0 := hO
  refine sx_putF EE hin hO rfl i_Pt t_Pt tok_Pt n_Pt 0 (by decide) rfl fl_Pt_9 (ty := t_Pt 0) (by decide +kernel) rfl rfl (Nat.le_of_ble_eq_true rfl) hEo hS d_Pt_init_9 (fun H9 locs hO hJ hs hS => ?_)
  have hO : va_P D classes [(o, .inr (4, [.ref (b + 0), .null, .null, .null]))] H9 := hO
  have hV := (vx_obj hG hK.1 hO0 hO hs).trans hV
  have hA := hA.kept hJ
  have hB := hB.one hs ho
  have hsz := (sz_one hJ.1 hs (by omega)).trans hsz
  refine lv_aload_n hx hb d_Pt_init_12 rfl (lv_at hl 0 rfl) ?_
  refine lv_bipush (v := nI 10) hx hb d_Pt_init_13 (by decide +kernel) ?_
  refine vx_newa (cells' := 2) (slots' := 20) hx hb hG hts rfl (Or.inl rfl) (by decide +kernel) (by decide) (by decide) rfl rfl (Nat.le_of_ble_eq_true rfl) (Nat.le_of_ble_eq_true rfl) hS hV d_Pt_init_15 (fun q H15 eq hz a_ l_ hJ hk hS hV => ?_)
  obtain rfl : q = b + 1 := by omega
  have hsz : H15.size = b + 2 := by omega
  have hA := hA.kept hJ
  have hO := hO.grown hk
  have hB := hB.grown hk
  have hA := hA.cons a_ l_
  have hO0 := hO
  refine sx_putF EE hin hO rfl i_Pt t_Pt tok_Pt n_Pt 1 (by decide) rfl fl_Pt_15 (ty := t_Pt 1) (by decide +kernel) rfl rfl (Nat.le_of_ble_eq_true rfl) hEo hS d_Pt_init_17 (fun H17 locs hO hJ hs hS => ?_)
  have hO : va_P D classes [(o, .inr (4, [.ref (b + 0), .ref (b + 1), .null, .null]))] H17 := hO
  have hV := (vx_obj hG hK.1 hO0 hO hs).trans hV
  have hA := hA.kept hJ
  have hB := hB.one hs ho
  have hsz := (sz_one hJ.1 hs (by omega)).trans hsz
  refine lv_aload_n hx hb d_Pt_init_20 rfl (lv_at hl 0 rfl) ?_
  refine lv_bipush (v := nI 10) hx hb d_Pt_init_21 (by decide +kernel) ?_
  refine vx_newa (cells' := 3) (slots' := 30) hx hb hG hts rfl (Or.inl rfl) (by decide +kernel) (by decide) (by decide) rfl rfl (Nat.le_of_ble_eq_true rfl) (Nat.le_of_ble_eq_true rfl) hS hV d_Pt_init_23 (fun q H23 eq hz a_ l_ hJ hk hS hV => ?_)
  obtain rfl : q = b + 2 := by omega
  have hsz : H23.size = b + 3 := by omega
  have hA := hA.kept hJ
  have hO := hO.grown hk
  have hB := hB.grown hk
  have hA := hA.cons a_ l_
  have hO0 := hO
  refine sx_putF EE hin hO rfl i_Pt t_Pt tok_Pt n_Pt 2 (by decide) rfl fl_Pt_18 (ty := t_Pt 2) (by decide +kernel) rfl rfl (Nat.le_of_ble_eq_true rfl) hEo hS d_Pt_init_25 (fun H25 locs hO hJ hs hS => ?_)
  have hO : va_P D classes [(o, .inr (4, [.ref (b + 0), .ref (b + 1), .ref (b + 2), .null]))] H25 := hO
  have hV := (vx_obj hG hK.1 hO0 hO hs).trans hV
  have hA := hA.kept hJ
  have hB := hB.one hs ho
  have hsz := (sz_one hJ.1 hs (by omega)).trans hsz
  refine lv_aload_n hx hb d_Pt_init_28 rfl (lv_at hl 0 rfl) ?_
  refine lv_bipush (v := nI 10) hx hb d_Pt_init_29 (by decide +kernel) ?_
  refine vx_newa (cells' := 4) (slots' := 40) hx hb hG hts rfl (Or.inl rfl) (by decide +kernel) (by decide) (by decide) rfl rfl (Nat.le_of_ble_eq_true rfl) (Nat.le_of_ble_eq_true rfl) hS hV d_Pt_init_31 (fun q H31 eq hz a_ l_ hJ hk hS hV => ?_)
  obtain rfl : q = b + 3 := by omega
  have hsz : H31.size = b + 4 := by omega
  have hA := hA.kept hJ
  have hO := hO.grown hk
  have hB := hB.grown hk
  have hA := hA.cons a_ l_
  have hO0 := hO
  refine sx_putF EE hin hO rfl i_Pt t_Pt tok_Pt n_Pt 3 (by decide) rfl fl_Pt_21 (ty := t_Pt 3) (by decide +kernel) rfl rfl (Nat.le_of_ble_eq_true rfl) hEo hS d_Pt_init_33 (fun H33 locs hO hJ hs hS => ?_)
  have hO : va_P D classes [(o, .inr (4, [.ref (b + 0), .ref (b + 1), .ref (b + 2), .ref (b + 3)]))] H33 := hO
  have hV := (vx_obj hG hK.1 hO0 hO hs).trans hV
  have hA := hA.kept hJ
  have hB := hB.one hs ho
  have hsz := (sz_one hJ.1 hs (by omega)).trans hsz
  exact hret _ _ _ _ ⟨hsz, hO, hB, hA, hV⟩ hS.1 hS.2.2 d_Pt_init_36
def up_Ad (D : va_G) (g : ClassId → FieldType → Prop) (b o : Nat) (X : vM) (H : Heap) : Prop := H.size = b + 4 ∧ va_P D classes [(o, .inr (5, [.ref (b + 0), .ref (b + 1), .ref (b + 2), .ref (b + 3)]))] H ∧ obs_ D H b [] ∧ sx_AR g H [((b + 3), .long, 10), ((b + 2), .long, 10), ((b + 1), .long, 10), ((b + 0), .long, 10)] ∧ mm g H = X
abbrev rm_Ad_init : Room := { frames := 1, cells := 4, slots := 40, locals := 30 }
set_option maxHeartbeats 4000000 in
set_option maxRecDepth 100000 in
theorem u_Ad_init {l : Launch} {D : va_G} {g : ClassId → FieldType → Prop} {E : Nat → Prop} {H0 : Heap} {o b : Nat} {X : vM} (hEo : E o) (hEn : ∀ q, b ≤ q → E q) (hO : va_P D classes [(o, .inr (5, [.null, .null, .null, .null]))] H0) (hsz : H0.size = b) (hV : mm g H0 = X) : Met l y_Ad_init (.code y_Ad_init b_Ad_init 1 none :: G_) rm_Ad_init (sx_Pc [.ref o] H0 D g) (va_Qv (fun _ : Unit => True) (fun _ t => sx_J g E H0 t.heap ∧ up_Ad D g b o X t.heap) E) 4 40 E := by
  refine sx_mva (own := R_Ad) (P := up_Ad D g b o X) (by decide) rfl (Nat.le_of_ble_eq_true rfl) ?_
  intro p e s m args below meth c Q ls EE hin hl hret
  obtain ⟨hx, hb, hml, hown, hts, hG, hK⟩ := id EE
  have hS : sx_S g E E H0 H0 [] := sx_S.rf
  have hA : sx_AR g H0 [] := sx_AR.nil
  have hB : obs_ D H0 b [] := obs_.nil
  have ho : o < b := hsz ▸ (hO 0 _ rfl).lt
  have hsz : H0.size = b + 0 := hsz
  have hl : lv_has ls 1 [(0, .ref o)] := hl
  refine lv_aload_n hx hb d_Ad_init_0 rfl (lv_at hl 0 rfl) ?_
  refine W.objInit hx hb hown (hts (.methodLink R_Ad 1 objectInit) (by decide +kernel)) (hts (.instanceMethod objectInit) (by decide +kernel)) (hts (.code objectInit ⟨#[0xb1]⟩ 1 none) (by decide +kernel)) rfl (by rw [hml]; exact hl.1) rfl d_Ad_init_1 (Nat.le_of_ble_eq_true rfl) (Nat.le_of_ble_eq_true rfl) ?_
  refine W.eq (g2 := F0 m 4 ls []) rfl ?_
  refine lv_aload_n hx hb d_Ad_init_4 rfl (lv_at hl 0 rfl) ?_
  refine lv_bipush (v := nI 10) hx hb d_Ad_init_5 (by decide +kernel) ?_
  refine vx_newa (cells' := 1) (slots' := 10) hx hb hG hts rfl (Or.inl rfl) (by decide +kernel) (by decide) (by decide) rfl rfl (Nat.le_of_ble_eq_true rfl) (Nat.le_of_ble_eq_true rfl) hS hV d_Ad_init_7 (fun q H7 eq hz a_ l_ hJ hk hS hV => ?_)
  obtain rfl : q = b + 0 := by omega
  have hsz : H7.size = b + 1 := by omega
  have hA := hA.kept hJ
  have hO := hO.grown hk
  have hB := hB.grown hk
  have hA := hA.cons a_ l_
  have hO0 := hO
  refine sx_putF EE hin hO rfl i_Ad t_Ad tok_Ad n_Ad 0 (by decide) rfl fl_Ad_9 (ty := t_Ad 0) (by decide +kernel) rfl rfl (Nat.le_of_ble_eq_true rfl) hEo hS d_Ad_init_9 (fun H9 locs hO hJ hs hS => ?_)
  have hO : va_P D classes [(o, .inr (5, [.ref (b + 0), .null, .null, .null]))] H9 := hO
  have hV := (vx_obj hG hK.1 hO0 hO hs).trans hV
  have hA := hA.kept hJ
  have hB := hB.one hs ho
  have hsz := (sz_one hJ.1 hs (by omega)).trans hsz
  refine lv_aload_n hx hb d_Ad_init_12 rfl (lv_at hl 0 rfl) ?_
  refine lv_bipush (v := nI 10) hx hb d_Ad_init_13 (by decide +kernel) ?_
  refine vx_newa (cells' := 2) (slots' := 20) hx hb hG hts rfl (Or.inl rfl) (by decide +kernel) (by decide) (by decide) rfl rfl (Nat.le_of_ble_eq_true rfl) (Nat.le_of_ble_eq_true rfl) hS hV d_Ad_init_15 (fun q H15 eq hz a_ l_ hJ hk hS hV => ?_)
  obtain rfl : q = b + 1 := by omega
  have hsz : H15.size = b + 2 := by omega
  have hA := hA.kept hJ
  have hO := hO.grown hk
  have hB := hB.grown hk
  have hA := hA.cons a_ l_
  have hO0 := hO
  refine sx_putF EE hin hO rfl i_Ad t_Ad tok_Ad n_Ad 1 (by decide) rfl fl_Ad_15 (ty := t_Ad 1) (by decide +kernel) rfl rfl (Nat.le_of_ble_eq_true rfl) hEo hS d_Ad_init_17 (fun H17 locs hO hJ hs hS => ?_)
  have hO : va_P D classes [(o, .inr (5, [.ref (b + 0), .ref (b + 1), .null, .null]))] H17 := hO
  have hV := (vx_obj hG hK.1 hO0 hO hs).trans hV
  have hA := hA.kept hJ
  have hB := hB.one hs ho
  have hsz := (sz_one hJ.1 hs (by omega)).trans hsz
  refine lv_aload_n hx hb d_Ad_init_20 rfl (lv_at hl 0 rfl) ?_
  refine lv_bipush (v := nI 10) hx hb d_Ad_init_21 (by decide +kernel) ?_
  refine vx_newa (cells' := 3) (slots' := 30) hx hb hG hts rfl (Or.inl rfl) (by decide +kernel) (by decide) (by decide) rfl rfl (Nat.le_of_ble_eq_true rfl) (Nat.le_of_ble_eq_true rfl) hS hV d_Ad_init_23 (fun q H23 eq hz a_ l_ hJ hk hS hV => ?_)
  obtain rfl : q = b + 2 := by omega
  have hsz : H23.size = b + 3 := by omega
  have hA := hA.kept hJ
  have hO := hO.grown hk
  have hB := hB.grown hk
  have hA := hA.cons a_ l_
  have hO0 := hO
  refine sx_putF EE hin hO rfl i_Ad t_Ad tok_Ad n_Ad 2 (by decide) rfl fl_Ad_18 (ty := t_Ad 2) (by decide +kernel) rfl rfl (Nat.le_of_ble_eq_true rfl) hEo hS d_Ad_init_25 (fun H25 locs hO hJ hs hS => ?_)
  have hO : va_P D classes [(o, .inr (5, [.ref (b + 0), .ref (b + 1), .ref (b + 2), .null]))] H25 := hO
  have hV := (vx_obj hG hK.1 hO0 hO hs).trans hV
  have hA := hA.kept hJ
  have hB := hB.one hs ho
  have hsz := (sz_one hJ.1 hs (by omega)).trans hsz
  refine lv_aload_n hx hb d_Ad_init_28 rfl (lv_at hl 0 rfl) ?_
  refine lv_bipush (v := nI 10) hx hb d_Ad_init_29 (by decide +kernel) ?_
  refine vx_newa (cells' := 4) (slots' := 40) hx hb hG hts rfl (Or.inl rfl) (by decide +kernel) (by decide) (by decide) rfl rfl (Nat.le_of_ble_eq_true rfl) (Nat.le_of_ble_eq_true rfl) hS hV d_Ad_init_31 (fun q H31 eq hz a_ l_ hJ hk hS hV => ?_)
  obtain rfl : q = b + 3 := by omega
  have hsz : H31.size = b + 4 := by omega
  have hA := hA.kept hJ
  have hO := hO.grown hk
  have hB := hB.grown hk
  have hA := hA.cons a_ l_
  have hO0 := hO
  refine sx_putF EE hin hO rfl i_Ad t_Ad tok_Ad n_Ad 3 (by decide) rfl fl_Ad_21 (ty := t_Ad 3) (by decide +kernel) rfl rfl (Nat.le_of_ble_eq_true rfl) hEo hS d_Ad_init_33 (fun H33 locs hO hJ hs hS => ?_)
  have hO : va_P D classes [(o, .inr (5, [.ref (b + 0), .ref (b + 1), .ref (b + 2), .ref (b + 3)]))] H33 := hO
  have hV := (vx_obj hG hK.1 hO0 hO hs).trans hV
  have hA := hA.kept hJ
  have hB := hB.one hs ho
  have hsz := (sz_one hJ.1 hs (by omega)).trans hsz
  exact hret _ _ _ _ ⟨hsz, hO, hB, hA, hV⟩ hS.1 hS.2.2 d_Ad_init_36
def up_F (D : va_G) (g : ClassId → FieldType → Prop) (b o : Nat) (X : vM) (H : Heap) : Prop := H.size = b + 7 ∧ va_P D classes [(o, .inr (2, [.ref (b + 0), .ref (b + 1), .ref (b + 2), .ref (b + 3), .ref (b + 4), .ref (b + 5), .ref (b + 6)]))] H ∧ obs_ D H b [] ∧ sx_AR g H [((b + 6), .long, 10), ((b + 5), .long, 10), ((b + 4), .long, 10), ((b + 3), .long, 10), ((b + 2), .long, 10), ((b + 1), .long, 10), ((b + 0), .long, 10)] ∧ mm g H = X
abbrev rm_F_init : Room := { frames := 1, cells := 7, slots := 70, locals := 30 }
set_option maxHeartbeats 4000000 in
set_option maxRecDepth 100000 in
theorem u_F_init {l : Launch} {D : va_G} {g : ClassId → FieldType → Prop} {E : Nat → Prop} {H0 : Heap} {o b : Nat} {X : vM} (hEo : E o) (hEn : ∀ q, b ≤ q → E q) (hO : va_P D classes [(o, .inr (2, [.null, .null, .null, .null, .null, .null, .null]))] H0) (hsz : H0.size = b) (hV : mm g H0 = X) : Met l y_F_init (.code y_F_init b_F_init 1 none :: G_) rm_F_init (sx_Pc [.ref o] H0 D g) (va_Qv (fun _ : Unit => True) (fun _ t => sx_J g E H0 t.heap ∧ up_F D g b o X t.heap) E) 7 70 E := by
  refine sx_mva (own := R_F) (P := up_F D g b o X) (by decide) rfl (Nat.le_of_ble_eq_true rfl) ?_
  intro p e s m args below meth c Q ls EE hin hl hret
  obtain ⟨hx, hb, hml, hown, hts, hG, hK⟩ := id EE
  have hS : sx_S g E E H0 H0 [] := sx_S.rf
  have hA : sx_AR g H0 [] := sx_AR.nil
  have hB : obs_ D H0 b [] := obs_.nil
  have ho : o < b := hsz ▸ (hO 0 _ rfl).lt
  have hsz : H0.size = b + 0 := hsz
  have hl : lv_has ls 1 [(0, .ref o)] := hl
  refine lv_aload_n hx hb d_F_init_0 rfl (lv_at hl 0 rfl) ?_
  refine W.objInit hx hb hown (hts (.methodLink R_F 3 objectInit) (by decide +kernel)) (hts (.instanceMethod objectInit) (by decide +kernel)) (hts (.code objectInit ⟨#[0xb1]⟩ 1 none) (by decide +kernel)) rfl (by rw [hml]; exact hl.1) rfl d_F_init_1 (Nat.le_of_ble_eq_true rfl) (Nat.le_of_ble_eq_true rfl) ?_
  refine W.eq (g2 := F0 m 4 ls []) rfl ?_
  refine lv_aload_n hx hb d_F_init_4 rfl (lv_at hl 0 rfl) ?_
  refine lv_bipush (v := nI 10) hx hb d_F_init_5 (by decide +kernel) ?_
  refine vx_newa (cells' := 1) (slots' := 10) hx hb hG hts rfl (Or.inl rfl) (by decide +kernel) (by decide) (by decide) rfl rfl (Nat.le_of_ble_eq_true rfl) (Nat.le_of_ble_eq_true rfl) hS hV d_F_init_7 (fun q H7 eq hz a_ l_ hJ hk hS hV => ?_)
  obtain rfl : q = b + 0 := by omega
  have hsz : H7.size = b + 1 := by omega
  have hA := hA.kept hJ
  have hO := hO.grown hk
  have hB := hB.grown hk
  have hA := hA.cons a_ l_
  have hO0 := hO
  refine sx_putF EE hin hO rfl i_F t_F tok_F n_F 0 (by decide) rfl fl_F_11 (ty := t_F 0) (by decide +kernel) rfl rfl (Nat.le_of_ble_eq_true rfl) hEo hS d_F_init_9 (fun H9 locs hO hJ hs hS => ?_)
  have hO : va_P D classes [(o, .inr (2, [.ref (b + 0), .null, .null, .null, .null, .null, .null]))] H9 := hO
  have hV := (vx_obj hG hK.1 hO0 hO hs).trans hV
  have hA := hA.kept hJ
  have hB := hB.one hs ho
  have hsz := (sz_one hJ.1 hs (by omega)).trans hsz
  refine lv_aload_n hx hb d_F_init_12 rfl (lv_at hl 0 rfl) ?_
  refine lv_bipush (v := nI 10) hx hb d_F_init_13 (by decide +kernel) ?_
  refine vx_newa (cells' := 2) (slots' := 20) hx hb hG hts rfl (Or.inl rfl) (by decide +kernel) (by decide) (by decide) rfl rfl (Nat.le_of_ble_eq_true rfl) (Nat.le_of_ble_eq_true rfl) hS hV d_F_init_15 (fun q H15 eq hz a_ l_ hJ hk hS hV => ?_)
  obtain rfl : q = b + 1 := by omega
  have hsz : H15.size = b + 2 := by omega
  have hA := hA.kept hJ
  have hO := hO.grown hk
  have hB := hB.grown hk
  have hA := hA.cons a_ l_
  have hO0 := hO
  refine sx_putF EE hin hO rfl i_F t_F tok_F n_F 1 (by decide) rfl fl_F_15 (ty := t_F 1) (by decide +kernel) rfl rfl (Nat.le_of_ble_eq_true rfl) hEo hS d_F_init_17 (fun H17 locs hO hJ hs hS => ?_)
  have hO : va_P D classes [(o, .inr (2, [.ref (b + 0), .ref (b + 1), .null, .null, .null, .null, .null]))] H17 := hO
  have hV := (vx_obj hG hK.1 hO0 hO hs).trans hV
  have hA := hA.kept hJ
  have hB := hB.one hs ho
  have hsz := (sz_one hJ.1 hs (by omega)).trans hsz
  refine lv_aload_n hx hb d_F_init_20 rfl (lv_at hl 0 rfl) ?_
  refine lv_bipush (v := nI 10) hx hb d_F_init_21 (by decide +kernel) ?_
  refine vx_newa (cells' := 3) (slots' := 30) hx hb hG hts rfl (Or.inl rfl) (by decide +kernel) (by decide) (by decide) rfl rfl (Nat.le_of_ble_eq_true rfl) (Nat.le_of_ble_eq_true rfl) hS hV d_F_init_23 (fun q H23 eq hz a_ l_ hJ hk hS hV => ?_)
  obtain rfl : q = b + 2 := by omega
  have hsz : H23.size = b + 3 := by omega
  have hA := hA.kept hJ
  have hO := hO.grown hk
  have hB := hB.grown hk
  have hA := hA.cons a_ l_
  have hO0 := hO
  refine sx_putF EE hin hO rfl i_F t_F tok_F n_F 2 (by decide) rfl fl_F_18 (ty := t_F 2) (by decide +kernel) rfl rfl (Nat.le_of_ble_eq_true rfl) hEo hS d_F_init_25 (fun H25 locs hO hJ hs hS => ?_)
  have hO : va_P D classes [(o, .inr (2, [.ref (b + 0), .ref (b + 1), .ref (b + 2), .null, .null, .null, .null]))] H25 := hO
  have hV := (vx_obj hG hK.1 hO0 hO hs).trans hV
  have hA := hA.kept hJ
  have hB := hB.one hs ho
  have hsz := (sz_one hJ.1 hs (by omega)).trans hsz
  refine lv_aload_n hx hb d_F_init_28 rfl (lv_at hl 0 rfl) ?_
  refine lv_bipush (v := nI 10) hx hb d_F_init_29 (by decide +kernel) ?_
  refine vx_newa (cells' := 4) (slots' := 40) hx hb hG hts rfl (Or.inl rfl) (by decide +kernel) (by decide) (by decide) rfl rfl (Nat.le_of_ble_eq_true rfl) (Nat.le_of_ble_eq_true rfl) hS hV d_F_init_31 (fun q H31 eq hz a_ l_ hJ hk hS hV => ?_)
  obtain rfl : q = b + 3 := by omega
  have hsz : H31.size = b + 4 := by omega
  have hA := hA.kept hJ
  have hO := hO.grown hk
  have hB := hB.grown hk
  have hA := hA.cons a_ l_
  have hO0 := hO
  refine sx_putF EE hin hO rfl i_F t_F tok_F n_F 3 (by decide) rfl fl_F_21 (ty := t_F 3) (by decide +kernel) rfl rfl (Nat.le_of_ble_eq_true rfl) hEo hS d_F_init_33 (fun H33 locs hO hJ hs hS => ?_)
  have hO : va_P D classes [(o, .inr (2, [.ref (b + 0), .ref (b + 1), .ref (b + 2), .ref (b + 3), .null, .null, .null]))] H33 := hO
  have hV := (vx_obj hG hK.1 hO0 hO hs).trans hV
  have hA := hA.kept hJ
  have hB := hB.one hs ho
  have hsz := (sz_one hJ.1 hs (by omega)).trans hsz
  refine lv_aload_n hx hb d_F_init_36 rfl (lv_at hl 0 rfl) ?_
  refine lv_bipush (v := nI 10) hx hb d_F_init_37 (by decide +kernel) ?_
  refine vx_newa (cells' := 5) (slots' := 50) hx hb hG hts rfl (Or.inl rfl) (by decide +kernel) (by decide) (by decide) rfl rfl (Nat.le_of_ble_eq_true rfl) (Nat.le_of_ble_eq_true rfl) hS hV d_F_init_39 (fun q H39 eq hz a_ l_ hJ hk hS hV => ?_)
  obtain rfl : q = b + 4 := by omega
  have hsz : H39.size = b + 5 := by omega
  have hA := hA.kept hJ
  have hO := hO.grown hk
  have hB := hB.grown hk
  have hA := hA.cons a_ l_
  have hO0 := hO
  refine sx_putF EE hin hO rfl i_F t_F tok_F n_F 4 (by decide) rfl fl_F_24 (ty := t_F 4) (by decide +kernel) rfl rfl (Nat.le_of_ble_eq_true rfl) hEo hS d_F_init_41 (fun H41 locs hO hJ hs hS => ?_)
  have hO : va_P D classes [(o, .inr (2, [.ref (b + 0), .ref (b + 1), .ref (b + 2), .ref (b + 3), .ref (b + 4), .null, .null]))] H41 := hO
  have hV := (vx_obj hG hK.1 hO0 hO hs).trans hV
  have hA := hA.kept hJ
  have hB := hB.one hs ho
  have hsz := (sz_one hJ.1 hs (by omega)).trans hsz
  refine lv_aload_n hx hb d_F_init_44 rfl (lv_at hl 0 rfl) ?_
  refine lv_bipush (v := nI 10) hx hb d_F_init_45 (by decide +kernel) ?_
  refine vx_newa (cells' := 6) (slots' := 60) hx hb hG hts rfl (Or.inl rfl) (by decide +kernel) (by decide) (by decide) rfl rfl (Nat.le_of_ble_eq_true rfl) (Nat.le_of_ble_eq_true rfl) hS hV d_F_init_47 (fun q H47 eq hz a_ l_ hJ hk hS hV => ?_)
  obtain rfl : q = b + 5 := by omega
  have hsz : H47.size = b + 6 := by omega
  have hA := hA.kept hJ
  have hO := hO.grown hk
  have hB := hB.grown hk
  have hA := hA.cons a_ l_
  have hO0 := hO
  refine sx_putF EE hin hO rfl i_F t_F tok_F n_F 5 (by decide) rfl fl_F_27 (ty := t_F 5) (by decide +kernel) rfl rfl (Nat.le_of_ble_eq_true rfl) hEo hS d_F_init_49 (fun H49 locs hO hJ hs hS => ?_)
  have hO : va_P D classes [(o, .inr (2, [.ref (b + 0), .ref (b + 1), .ref (b + 2), .ref (b + 3), .ref (b + 4), .ref (b + 5), .null]))] H49 := hO
  have hV := (vx_obj hG hK.1 hO0 hO hs).trans hV
  have hA := hA.kept hJ
  have hB := hB.one hs ho
  have hsz := (sz_one hJ.1 hs (by omega)).trans hsz
  refine lv_aload_n hx hb d_F_init_52 rfl (lv_at hl 0 rfl) ?_
  refine lv_bipush (v := nI 10) hx hb d_F_init_53 (by decide +kernel) ?_
  refine vx_newa (cells' := 7) (slots' := 70) hx hb hG hts rfl (Or.inl rfl) (by decide +kernel) (by decide) (by decide) rfl rfl (Nat.le_of_ble_eq_true rfl) (Nat.le_of_ble_eq_true rfl) hS hV d_F_init_55 (fun q H55 eq hz a_ l_ hJ hk hS hV => ?_)
  obtain rfl : q = b + 6 := by omega
  have hsz : H55.size = b + 7 := by omega
  have hA := hA.kept hJ
  have hO := hO.grown hk
  have hB := hB.grown hk
  have hA := hA.cons a_ l_
  have hO0 := hO
  refine sx_putF EE hin hO rfl i_F t_F tok_F n_F 6 (by decide) rfl fl_F_30 (ty := t_F 6) (by decide +kernel) rfl rfl (Nat.le_of_ble_eq_true rfl) hEo hS d_F_init_57 (fun H57 locs hO hJ hs hS => ?_)
  have hO : va_P D classes [(o, .inr (2, [.ref (b + 0), .ref (b + 1), .ref (b + 2), .ref (b + 3), .ref (b + 4), .ref (b + 5), .ref (b + 6)]))] H57 := hO
  have hV := (vx_obj hG hK.1 hO0 hO hs).trans hV
  have hA := hA.kept hJ
  have hB := hB.one hs ho
  have hsz := (sz_one hJ.1 hs (by omega)).trans hsz
  exact hret _ _ _ _ ⟨hsz, hO, hB, hA, hV⟩ hS.1 hS.2.2 d_F_init_60
def up_Ha (D : va_G) (g : ClassId → FieldType → Prop) (b o : Nat) (X : vM) (H : Heap) : Prop := H.size = b + 3 ∧ va_P D classes [(o, .inr (7, [.ref (b + 0), .ref (b + 1), .ref (b + 2), .int 0, .int 0]))] H ∧ obs_ D H b [] ∧ sx_AR g H [((b + 2), .byte, 128), ((b + 1), .long, 80), ((b + 0), .long, 8)] ∧ mm g H = X
abbrev rm_Ha_init : Room := { frames := 1, cells := 3, slots := 216, locals := 30 }
set_option maxHeartbeats 4000000 in
set_option maxRecDepth 100000 in
theorem u_Ha_init {l : Launch} {D : va_G} {g : ClassId → FieldType → Prop} {E : Nat → Prop} {H0 : Heap} {o b : Nat} {X : vM} (hEo : E o) (hEn : ∀ q, b ≤ q → E q) (hO : va_P D classes [(o, .inr (7, [.null, .null, .null, .int 0, .int 0]))] H0) (hsz : H0.size = b) (hV : mm g H0 = X) : Met l y_Ha_init (.code y_Ha_init b_Ha_init 1 none :: G_) rm_Ha_init (sx_Pc [.ref o] H0 D g) (va_Qv (fun _ : Unit => True) (fun _ t => sx_J g E H0 t.heap ∧ up_Ha D g b o X t.heap) E) 3 216 E := by
  refine sx_mva (own := R_Ha) (P := up_Ha D g b o X) (by decide) rfl (Nat.le_of_ble_eq_true rfl) ?_
  intro p e s m args below meth c Q ls EE hin hl hret
  obtain ⟨hx, hb, hml, hown, hts, hG, hK⟩ := id EE
  have hS : sx_S g E E H0 H0 [] := sx_S.rf
  have hA : sx_AR g H0 [] := sx_AR.nil
  have hB : obs_ D H0 b [] := obs_.nil
  have ho : o < b := hsz ▸ (hO 0 _ rfl).lt
  have hsz : H0.size = b + 0 := hsz
  have hl : lv_has ls 1 [(0, .ref o)] := hl
  refine lv_aload_n hx hb d_Ha_init_0 rfl (lv_at hl 0 rfl) ?_
  refine W.objInit hx hb hown (hts (.methodLink R_Ha 1 objectInit) (by decide +kernel)) (hts (.instanceMethod objectInit) (by decide +kernel)) (hts (.code objectInit ⟨#[0xb1]⟩ 1 none) (by decide +kernel)) rfl (by rw [hml]; exact hl.1) rfl d_Ha_init_1 (Nat.le_of_ble_eq_true rfl) (Nat.le_of_ble_eq_true rfl) ?_
  refine W.eq (g2 := F0 m 4 ls []) rfl ?_
  refine lv_aload_n hx hb d_Ha_init_4 rfl (lv_at hl 0 rfl) ?_
  refine lv_bipush (v := nI 8) hx hb d_Ha_init_5 (by decide +kernel) ?_
  refine vx_newa (cells' := 1) (slots' := 8) hx hb hG hts rfl (Or.inl rfl) (by decide +kernel) (by decide) (by decide) rfl rfl (Nat.le_of_ble_eq_true rfl) (Nat.le_of_ble_eq_true rfl) hS hV d_Ha_init_7 (fun q H7 eq hz a_ l_ hJ hk hS hV => ?_)
  obtain rfl : q = b + 0 := by omega
  have hsz : H7.size = b + 1 := by omega
  have hA := hA.kept hJ
  have hO := hO.grown hk
  have hB := hB.grown hk
  have hA := hA.cons a_ l_
  have hO0 := hO
  refine sx_putF EE hin hO rfl i_Ha t_Ha tok_Ha n_Ha 0 (by decide) rfl fl_Ha_7 (ty := t_Ha 0) (by decide +kernel) rfl rfl (Nat.le_of_ble_eq_true rfl) hEo hS d_Ha_init_9 (fun H9 locs hO hJ hs hS => ?_)
  have hO : va_P D classes [(o, .inr (7, [.ref (b + 0), .null, .null, .int 0, .int 0]))] H9 := hO
  have hV := (vx_obj hG hK.1 hO0 hO hs).trans hV
  have hA := hA.kept hJ
  have hB := hB.one hs ho
  have hsz := (sz_one hJ.1 hs (by omega)).trans hsz
  refine lv_aload_n hx hb d_Ha_init_12 rfl (lv_at hl 0 rfl) ?_
  refine lv_bipush (v := nI 80) hx hb d_Ha_init_13 (by decide +kernel) ?_
  refine vx_newa (cells' := 2) (slots' := 88) hx hb hG hts rfl (Or.inl rfl) (by decide +kernel) (by decide) (by decide) rfl rfl (Nat.le_of_ble_eq_true rfl) (Nat.le_of_ble_eq_true rfl) hS hV d_Ha_init_15 (fun q H15 eq hz a_ l_ hJ hk hS hV => ?_)
  obtain rfl : q = b + 1 := by omega
  have hsz : H15.size = b + 2 := by omega
  have hA := hA.kept hJ
  have hO := hO.grown hk
  have hB := hB.grown hk
  have hA := hA.cons a_ l_
  have hO0 := hO
  refine sx_putF EE hin hO rfl i_Ha t_Ha tok_Ha n_Ha 1 (by decide) rfl fl_Ha_13 (ty := t_Ha 1) (by decide +kernel) rfl rfl (Nat.le_of_ble_eq_true rfl) hEo hS d_Ha_init_17 (fun H17 locs hO hJ hs hS => ?_)
  have hO : va_P D classes [(o, .inr (7, [.ref (b + 0), .ref (b + 1), .null, .int 0, .int 0]))] H17 := hO
  have hV := (vx_obj hG hK.1 hO0 hO hs).trans hV
  have hA := hA.kept hJ
  have hB := hB.one hs ho
  have hsz := (sz_one hJ.1 hs (by omega)).trans hsz
  refine lv_aload_n hx hb d_Ha_init_20 rfl (lv_at hl 0 rfl) ?_
  refine lv_sipush (v := nI 128) hx hb d_Ha_init_21 (by decide +kernel) ?_
  refine vx_newa (cells' := 3) (slots' := 216) hx hb hG hts rfl (Or.inr (Or.inl rfl)) (by decide +kernel) (by decide) (by decide) rfl rfl (Nat.le_of_ble_eq_true rfl) (Nat.le_of_ble_eq_true rfl) hS hV d_Ha_init_24 (fun q H24 eq hz a_ l_ hJ hk hS hV => ?_)
  obtain rfl : q = b + 2 := by omega
  have hsz : H24.size = b + 3 := by omega
  have hA := hA.kept hJ
  have hO := hO.grown hk
  have hB := hB.grown hk
  have hA := hA.cons a_ l_
  have hO0 := hO
  refine sx_putF EE hin hO rfl i_Ha t_Ha tok_Ha n_Ha 2 (by decide) rfl fl_Ha_16 (ty := t_Ha 2) (by decide +kernel) rfl rfl (Nat.le_of_ble_eq_true rfl) hEo hS d_Ha_init_26 (fun H26 locs hO hJ hs hS => ?_)
  have hO : va_P D classes [(o, .inr (7, [.ref (b + 0), .ref (b + 1), .ref (b + 2), .int 0, .int 0]))] H26 := hO
  have hV := (vx_obj hG hK.1 hO0 hO hs).trans hV
  have hA := hA.kept hJ
  have hB := hB.one hs ho
  have hsz := (sz_one hJ.1 hs (by omega)).trans hsz
  exact hret _ _ _ _ ⟨hsz, hO, hB, hA, hV⟩ hS.1 hS.2.2 d_Ha_init_29
def up_Or (D : va_G) (g : ClassId → FieldType → Prop) (b o : Nat) (X : vM) (H : Heap) : Prop := H.size = b + 1 ∧ va_P D classes [(o, .inr (8, [.ref (b + 0)]))] H ∧ obs_ D H b [] ∧ sx_AR g H [((b + 0), .long, 64)] ∧ mm g H = X
abbrev rm_Or_init : Room := { frames := 1, cells := 1, slots := 64, locals := 30 }
set_option maxHeartbeats 4000000 in
set_option maxRecDepth 100000 in
theorem u_Or_init {l : Launch} {D : va_G} {g : ClassId → FieldType → Prop} {E : Nat → Prop} {H0 : Heap} {o b : Nat} {X : vM} (hEo : E o) (hEn : ∀ q, b ≤ q → E q) (hO : va_P D classes [(o, .inr (8, [.null]))] H0) (hsz : H0.size = b) (hV : mm g H0 = X) : Met l y_Or_init (.code y_Or_init b_Or_init 1 none :: G_) rm_Or_init (sx_Pc [.ref o] H0 D g) (va_Qv (fun _ : Unit => True) (fun _ t => sx_J g E H0 t.heap ∧ up_Or D g b o X t.heap) E) 1 64 E := by
  refine sx_mva (own := R_Or) (P := up_Or D g b o X) (by decide) rfl (Nat.le_of_ble_eq_true rfl) ?_
  intro p e s m args below meth c Q ls EE hin hl hret
  obtain ⟨hx, hb, hml, hown, hts, hG, hK⟩ := id EE
  have hS : sx_S g E E H0 H0 [] := sx_S.rf
  have hA : sx_AR g H0 [] := sx_AR.nil
  have hB : obs_ D H0 b [] := obs_.nil
  have ho : o < b := hsz ▸ (hO 0 _ rfl).lt
  have hsz : H0.size = b + 0 := hsz
  have hl : lv_has ls 1 [(0, .ref o)] := hl
  refine lv_aload_n hx hb d_Or_init_0 rfl (lv_at hl 0 rfl) ?_
  refine W.objInit hx hb hown (hts (.methodLink R_Or 3 objectInit) (by decide +kernel)) (hts (.instanceMethod objectInit) (by decide +kernel)) (hts (.code objectInit ⟨#[0xb1]⟩ 1 none) (by decide +kernel)) rfl (by rw [hml]; exact hl.1) rfl d_Or_init_1 (Nat.le_of_ble_eq_true rfl) (Nat.le_of_ble_eq_true rfl) ?_
  refine W.eq (g2 := F0 m 4 ls []) rfl ?_
  refine lv_aload_n hx hb d_Or_init_4 rfl (lv_at hl 0 rfl) ?_
  refine lv_bipush (v := nI 64) hx hb d_Or_init_5 (by decide +kernel) ?_
  refine vx_newa (cells' := 1) (slots' := 64) hx hb hG hts rfl (Or.inl rfl) (by decide +kernel) (by decide) (by decide) rfl rfl (Nat.le_of_ble_eq_true rfl) (Nat.le_of_ble_eq_true rfl) hS hV d_Or_init_7 (fun q H7 eq hz a_ l_ hJ hk hS hV => ?_)
  obtain rfl : q = b + 0 := by omega
  have hsz : H7.size = b + 1 := by omega
  have hA := hA.kept hJ
  have hO := hO.grown hk
  have hB := hB.grown hk
  have hA := hA.cons a_ l_
  have hO0 := hO
  refine sx_putF EE hin hO rfl i_Or t_Or tok_Or n_Or 0 (by decide) rfl fl_Or_11 (ty := t_Or 0) (by decide +kernel) rfl rfl (Nat.le_of_ble_eq_true rfl) hEo hS d_Or_init_9 (fun H9 locs hO hJ hs hS => ?_)
  have hO : va_P D classes [(o, .inr (8, [.ref (b + 0)]))] H9 := hO
  have hV := (vx_obj hG hK.1 hO0 hO hs).trans hV
  have hA := hA.kept hJ
  have hB := hB.one hs ho
  have hsz := (sz_one hJ.1 hs (by omega)).trans hsz
  exact hret _ _ _ _ ⟨hsz, hO, hB, hA, hV⟩ hS.1 hS.2.2 d_Or_init_12
def up_Ro (D : va_G) (g : ClassId → FieldType → Prop) (b o : Nat) (X : vM) (H : Heap) : Prop := H.size = b + 1 ∧ va_P D classes [(o, .inr (9, [.ref (b + 0), .int 0]))] H ∧ obs_ D H b [] ∧ sx_AR g H [((b + 0), .byte, 1024)] ∧ mm g H = X
abbrev rm_Ro_init : Room := { frames := 1, cells := 1, slots := 1024, locals := 30 }
set_option maxHeartbeats 4000000 in
set_option maxRecDepth 100000 in
theorem u_Ro_init {l : Launch} {D : va_G} {g : ClassId → FieldType → Prop} {E : Nat → Prop} {H0 : Heap} {o b : Nat} {X : vM} (hEo : E o) (hEn : ∀ q, b ≤ q → E q) (hO : va_P D classes [(o, .inr (9, [.null, .int 0]))] H0) (hsz : H0.size = b) (hV : mm g H0 = X) : Met l y_Ro_init (.code y_Ro_init b_Ro_init 1 none :: G_) rm_Ro_init (sx_Pc [.ref o] H0 D g) (va_Qv (fun _ : Unit => True) (fun _ t => sx_J g E H0 t.heap ∧ up_Ro D g b o X t.heap) E) 1 1024 E := by
  refine sx_mva (own := R_Ro) (P := up_Ro D g b o X) (by decide) rfl (Nat.le_of_ble_eq_true rfl) ?_
  intro p e s m args below meth c Q ls EE hin hl hret
  obtain ⟨hx, hb, hml, hown, hts, hG, hK⟩ := id EE
  have hS : sx_S g E E H0 H0 [] := sx_S.rf
  have hA : sx_AR g H0 [] := sx_AR.nil
  have hB : obs_ D H0 b [] := obs_.nil
  have ho : o < b := hsz ▸ (hO 0 _ rfl).lt
  have hsz : H0.size = b + 0 := hsz
  have hl : lv_has ls 1 [(0, .ref o)] := hl
  refine lv_aload_n hx hb d_Ro_init_0 rfl (lv_at hl 0 rfl) ?_
  refine W.objInit hx hb hown (hts (.methodLink R_Ro 3 objectInit) (by decide +kernel)) (hts (.instanceMethod objectInit) (by decide +kernel)) (hts (.code objectInit ⟨#[0xb1]⟩ 1 none) (by decide +kernel)) rfl (by rw [hml]; exact hl.1) rfl d_Ro_init_1 (Nat.le_of_ble_eq_true rfl) (Nat.le_of_ble_eq_true rfl) ?_
  refine W.eq (g2 := F0 m 4 ls []) rfl ?_
  refine lv_aload_n hx hb d_Ro_init_4 rfl (lv_at hl 0 rfl) ?_
  refine lv_sipush (v := nI 1024) hx hb d_Ro_init_5 (by decide +kernel) ?_
  refine vx_newa (cells' := 1) (slots' := 1024) hx hb hG hts rfl (Or.inr (Or.inl rfl)) (by decide +kernel) (by decide) (by decide) rfl rfl (Nat.le_of_ble_eq_true rfl) (Nat.le_of_ble_eq_true rfl) hS hV d_Ro_init_8 (fun q H8 eq hz a_ l_ hJ hk hS hV => ?_)
  obtain rfl : q = b + 0 := by omega
  have hsz : H8.size = b + 1 := by omega
  have hA := hA.kept hJ
  have hO := hO.grown hk
  have hB := hB.grown hk
  have hA := hA.cons a_ l_
  have hO0 := hO
  refine sx_put EE hO rfl i_Ro t_Ro tok_Ro n_Ro 0 (by decide) rfl fl_Ro_11 (ty := t_Ro 0) (by decide +kernel) rfl rfl (Nat.le_of_ble_eq_true rfl) hEo hS d_Ro_init_10 (fun H10 locs hO hJ hs hS => ?_)
  have hO : va_P D classes [(o, .inr (9, [.ref (b + 0), .int 0]))] H10 := hO
  have hV := (vx_obj hG hK.1 hO0 hO hs).trans hV
  have hA := hA.kept hJ
  have hB := hB.one hs ho
  have hsz := (sz_one hJ.1 hs (by omega)).trans hsz
  exact hret _ _ _ _ ⟨hsz, hO, hB, hA, hV⟩ hS.1 hS.2.2 d_Ro_init_13
def up_La (D : va_G) (g : ClassId → FieldType → Prop) (b o a0 : Nat) (X : vM) (H : Heap) : Prop := H.size = b + 11 ∧ va_P D classes [(o, .inr (3, [.ref a0, .ref (b + 0), .ref (b + 1), .ref (b + 2), .ref (b + 3), .ref (b + 4), .ref (b + 5), .ref (b + 6), .ref (b + 7), .ref (b + 8), .ref (b + 9), .ref (b + 10)]))] H ∧ obs_ D H b [] ∧ sx_AR g H [((b + 10), .long, 10), ((b + 9), .long, 10), ((b + 8), .long, 10), ((b + 7), .long, 10), ((b + 6), .long, 10), ((b + 5), .long, 10), ((b + 4), .long, 10), ((b + 3), .long, 10), ((b + 2), .long, 10), ((b + 1), .byte, 32), ((b + 0), .byte, 32)] ∧ mm g H = (stI X (b + 1) 0 (nI 9).toInt8.toInt32)
abbrev rm_La_init : Room := { frames := 1, cells := 11, slots := 154, locals := 30 }
set_option maxHeartbeats 4000000 in
set_option maxRecDepth 100000 in
theorem u_La_init {l : Launch} {D : va_G} {g : ClassId → FieldType → Prop} {E : Nat → Prop} {H0 : Heap} {o b a0 : Nat} {X : vM} (hEo : E o) (hEn : ∀ q, b ≤ q → E q) (hO : va_P D classes [(o, .inr (3, [.null, .null, .null, .null, .null, .null, .null, .null, .null, .null, .null, .null]))] H0) (hsz : H0.size = b) (hV : mm g H0 = X) : Met l y_La_init (.code y_La_init b_La_init 2 none :: G_) rm_La_init (sx_Pc [.ref o, .ref a0] H0 D g) (va_Qv (fun _ : Unit => True) (fun _ t => sx_J g E H0 t.heap ∧ up_La D g b o a0 X t.heap) E) 11 154 E := by
  refine sx_mva (own := R_La) (P := up_La D g b o a0 X) (by decide) rfl (Nat.le_of_ble_eq_true rfl) ?_
  intro p e s m args below meth c Q ls EE hin hl hret
  obtain ⟨hx, hb, hml, hown, hts, hG, hK⟩ := id EE
  have hS : sx_S g E E H0 H0 [] := sx_S.rf
  have hA : sx_AR g H0 [] := sx_AR.nil
  have hB : obs_ D H0 b [] := obs_.nil
  have ho : o < b := hsz ▸ (hO 0 _ rfl).lt
  have hsz : H0.size = b + 0 := hsz
  have hl : lv_has ls 2 [(0, .ref o), (1, .ref a0)] := hl
  refine lv_aload_n hx hb d_La_init_0 rfl (lv_at hl 0 rfl) ?_
  refine W.objInit hx hb hown (hts (.methodLink R_La 3 objectInit) (by decide +kernel)) (hts (.instanceMethod objectInit) (by decide +kernel)) (hts (.code objectInit ⟨#[0xb1]⟩ 1 none) (by decide +kernel)) rfl (by rw [hml]; exact hl.1) rfl d_La_init_1 (Nat.le_of_ble_eq_true rfl) (Nat.le_of_ble_eq_true rfl) ?_
  refine W.eq (g2 := F0 m 4 ls []) rfl ?_
  refine lv_aload_n hx hb d_La_init_4 rfl (lv_at hl 0 rfl) ?_
  refine lv_bipush (v := nI 32) hx hb d_La_init_5 (by decide +kernel) ?_
  refine vx_newa (cells' := 1) (slots' := 32) hx hb hG hts rfl (Or.inr (Or.inl rfl)) (by decide +kernel) (by decide) (by decide) rfl rfl (Nat.le_of_ble_eq_true rfl) (Nat.le_of_ble_eq_true rfl) hS hV d_La_init_7 (fun q H7 eq hz a_ l_ hJ hk hS hV => ?_)
  obtain rfl : q = b + 0 := by omega
  have hsz : H7.size = b + 1 := by omega
  have hA := hA.kept hJ
  have hO := hO.grown hk
  have hB := hB.grown hk
  have hA := hA.cons a_ l_
  have hO0 := hO
  refine sx_putF EE hin hO rfl i_La t_La tok_La n_La 1 (by decide) rfl fl_La_9 (ty := t_La 1) (by decide +kernel) rfl rfl (Nat.le_of_ble_eq_true rfl) hEo hS d_La_init_9 (fun H9 locs hO hJ hs hS => ?_)
  have hO : va_P D classes [(o, .inr (3, [.null, .ref (b + 0), .null, .null, .null, .null, .null, .null, .null, .null, .null, .null]))] H9 := hO
  have hV := (vx_obj hG hK.1 hO0 hO hs).trans hV
  have hA := hA.kept hJ
  have hB := hB.one hs ho
  have hsz := (sz_one hJ.1 hs (by omega)).trans hsz
  refine lv_aload_n hx hb d_La_init_12 rfl (lv_at hl 0 rfl) ?_
  refine lv_bipush (v := nI 32) hx hb d_La_init_13 (by decide +kernel) ?_
  refine vx_newa (cells' := 2) (slots' := 64) hx hb hG hts rfl (Or.inr (Or.inl rfl)) (by decide +kernel) (by decide) (by decide) rfl rfl (Nat.le_of_ble_eq_true rfl) (Nat.le_of_ble_eq_true rfl) hS hV d_La_init_15 (fun q H15 eq hz a_ l_ hJ hk hS hV => ?_)
  obtain rfl : q = b + 1 := by omega
  have hsz : H15.size = b + 2 := by omega
  have hA := hA.kept hJ
  have hO := hO.grown hk
  have hB := hB.grown hk
  have hA := hA.cons a_ l_
  have hO0 := hO
  refine sx_putF EE hin hO rfl i_La t_La tok_La n_La 2 (by decide) rfl fl_La_15 (ty := t_La 2) (by decide +kernel) rfl rfl (Nat.le_of_ble_eq_true rfl) hEo hS d_La_init_17 (fun H17 locs hO hJ hs hS => ?_)
  have hO : va_P D classes [(o, .inr (3, [.null, .ref (b + 0), .ref (b + 1), .null, .null, .null, .null, .null, .null, .null, .null, .null]))] H17 := hO
  have hV := (vx_obj hG hK.1 hO0 hO hs).trans hV
  have hA := hA.kept hJ
  have hB := hB.one hs ho
  have hsz := (sz_one hJ.1 hs (by omega)).trans hsz
  refine lv_aload_n hx hb d_La_init_20 rfl (lv_at hl 0 rfl) ?_
  refine lv_bipush (v := nI 10) hx hb d_La_init_21 (by decide +kernel) ?_
  refine vx_newa (cells' := 3) (slots' := 74) hx hb hG hts rfl (Or.inl rfl) (by decide +kernel) (by decide) (by decide) rfl rfl (Nat.le_of_ble_eq_true rfl) (Nat.le_of_ble_eq_true rfl) hS hV d_La_init_23 (fun q H23 eq hz a_ l_ hJ hk hS hV => ?_)
  obtain rfl : q = b + 2 := by omega
  have hsz : H23.size = b + 3 := by omega
  have hA := hA.kept hJ
  have hO := hO.grown hk
  have hB := hB.grown hk
  have hA := hA.cons a_ l_
  have hO0 := hO
  refine sx_putF EE hin hO rfl i_La t_La tok_La n_La 3 (by decide) rfl fl_La_20 (ty := t_La 3) (by decide +kernel) rfl rfl (Nat.le_of_ble_eq_true rfl) hEo hS d_La_init_25 (fun H25 locs hO hJ hs hS => ?_)
  have hO : va_P D classes [(o, .inr (3, [.null, .ref (b + 0), .ref (b + 1), .ref (b + 2), .null, .null, .null, .null, .null, .null, .null, .null]))] H25 := hO
  have hV := (vx_obj hG hK.1 hO0 hO hs).trans hV
  have hA := hA.kept hJ
  have hB := hB.one hs ho
  have hsz := (sz_one hJ.1 hs (by omega)).trans hsz
  refine lv_aload_n hx hb d_La_init_28 rfl (lv_at hl 0 rfl) ?_
  refine lv_bipush (v := nI 10) hx hb d_La_init_29 (by decide +kernel) ?_
  refine vx_newa (cells' := 4) (slots' := 84) hx hb hG hts rfl (Or.inl rfl) (by decide +kernel) (by decide) (by decide) rfl rfl (Nat.le_of_ble_eq_true rfl) (Nat.le_of_ble_eq_true rfl) hS hV d_La_init_31 (fun q H31 eq hz a_ l_ hJ hk hS hV => ?_)
  obtain rfl : q = b + 3 := by omega
  have hsz : H31.size = b + 4 := by omega
  have hA := hA.kept hJ
  have hO := hO.grown hk
  have hB := hB.grown hk
  have hA := hA.cons a_ l_
  have hO0 := hO
  refine sx_putF EE hin hO rfl i_La t_La tok_La n_La 4 (by decide) rfl fl_La_24 (ty := t_La 4) (by decide +kernel) rfl rfl (Nat.le_of_ble_eq_true rfl) hEo hS d_La_init_33 (fun H33 locs hO hJ hs hS => ?_)
  have hO : va_P D classes [(o, .inr (3, [.null, .ref (b + 0), .ref (b + 1), .ref (b + 2), .ref (b + 3), .null, .null, .null, .null, .null, .null, .null]))] H33 := hO
  have hV := (vx_obj hG hK.1 hO0 hO hs).trans hV
  have hA := hA.kept hJ
  have hB := hB.one hs ho
  have hsz := (sz_one hJ.1 hs (by omega)).trans hsz
  refine lv_aload_n hx hb d_La_init_36 rfl (lv_at hl 0 rfl) ?_
  refine lv_bipush (v := nI 10) hx hb d_La_init_37 (by decide +kernel) ?_
  refine vx_newa (cells' := 5) (slots' := 94) hx hb hG hts rfl (Or.inl rfl) (by decide +kernel) (by decide) (by decide) rfl rfl (Nat.le_of_ble_eq_true rfl) (Nat.le_of_ble_eq_true rfl) hS hV d_La_init_39 (fun q H39 eq hz a_ l_ hJ hk hS hV => ?_)
  obtain rfl : q = b + 4 := by omega
  have hsz : H39.size = b + 5 := by omega
  have hA := hA.kept hJ
  have hO := hO.grown hk
  have hB := hB.grown hk
  have hA := hA.cons a_ l_
  have hO0 := hO
  refine sx_putF EE hin hO rfl i_La t_La tok_La n_La 5 (by decide) rfl fl_La_27 (ty := t_La 5) (by decide +kernel) rfl rfl (Nat.le_of_ble_eq_true rfl) hEo hS d_La_init_41 (fun H41 locs hO hJ hs hS => ?_)
  have hO : va_P D classes [(o, .inr (3, [.null, .ref (b + 0), .ref (b + 1), .ref (b + 2), .ref (b + 3), .ref (b + 4), .null, .null, .null, .null, .null, .null]))] H41 := hO
  have hV := (vx_obj hG hK.1 hO0 hO hs).trans hV
  have hA := hA.kept hJ
  have hB := hB.one hs ho
  have hsz := (sz_one hJ.1 hs (by omega)).trans hsz
  refine lv_aload_n hx hb d_La_init_44 rfl (lv_at hl 0 rfl) ?_
  refine lv_bipush (v := nI 10) hx hb d_La_init_45 (by decide +kernel) ?_
  refine vx_newa (cells' := 6) (slots' := 104) hx hb hG hts rfl (Or.inl rfl) (by decide +kernel) (by decide) (by decide) rfl rfl (Nat.le_of_ble_eq_true rfl) (Nat.le_of_ble_eq_true rfl) hS hV d_La_init_47 (fun q H47 eq hz a_ l_ hJ hk hS hV => ?_)
  obtain rfl : q = b + 5 := by omega
  have hsz : H47.size = b + 6 := by omega
  have hA := hA.kept hJ
  have hO := hO.grown hk
  have hB := hB.grown hk
  have hA := hA.cons a_ l_
  have hO0 := hO
  refine sx_putF EE hin hO rfl i_La t_La tok_La n_La 6 (by decide) rfl fl_La_30 (ty := t_La 6) (by decide +kernel) rfl rfl (Nat.le_of_ble_eq_true rfl) hEo hS d_La_init_49 (fun H49 locs hO hJ hs hS => ?_)
  have hO : va_P D classes [(o, .inr (3, [.null, .ref (b + 0), .ref (b + 1), .ref (b + 2), .ref (b + 3), .ref (b + 4), .ref (b + 5), .null, .null, .null, .null, .null]))] H49 := hO
  have hV := (vx_obj hG hK.1 hO0 hO hs).trans hV
  have hA := hA.kept hJ
  have hB := hB.one hs ho
  have hsz := (sz_one hJ.1 hs (by omega)).trans hsz
  refine lv_aload_n hx hb d_La_init_52 rfl (lv_at hl 0 rfl) ?_
  refine lv_bipush (v := nI 10) hx hb d_La_init_53 (by decide +kernel) ?_
  refine vx_newa (cells' := 7) (slots' := 114) hx hb hG hts rfl (Or.inl rfl) (by decide +kernel) (by decide) (by decide) rfl rfl (Nat.le_of_ble_eq_true rfl) (Nat.le_of_ble_eq_true rfl) hS hV d_La_init_55 (fun q H55 eq hz a_ l_ hJ hk hS hV => ?_)
  obtain rfl : q = b + 6 := by omega
  have hsz : H55.size = b + 7 := by omega
  have hA := hA.kept hJ
  have hO := hO.grown hk
  have hB := hB.grown hk
  have hA := hA.cons a_ l_
  have hO0 := hO
  refine sx_putF EE hin hO rfl i_La t_La tok_La n_La 7 (by decide) rfl fl_La_33 (ty := t_La 7) (by decide +kernel) rfl rfl (Nat.le_of_ble_eq_true rfl) hEo hS d_La_init_57 (fun H57 locs hO hJ hs hS => ?_)
  have hO : va_P D classes [(o, .inr (3, [.null, .ref (b + 0), .ref (b + 1), .ref (b + 2), .ref (b + 3), .ref (b + 4), .ref (b + 5), .ref (b + 6), .null, .null, .null, .null]))] H57 := hO
  have hV := (vx_obj hG hK.1 hO0 hO hs).trans hV
  have hA := hA.kept hJ
  have hB := hB.one hs ho
  have hsz := (sz_one hJ.1 hs (by omega)).trans hsz
  refine lv_aload_n hx hb d_La_init_60 rfl (lv_at hl 0 rfl) ?_
  refine lv_bipush (v := nI 10) hx hb d_La_init_61 (by decide +kernel) ?_
  refine vx_newa (cells' := 8) (slots' := 124) hx hb hG hts rfl (Or.inl rfl) (by decide +kernel) (by decide) (by decide) rfl rfl (Nat.le_of_ble_eq_true rfl) (Nat.le_of_ble_eq_true rfl) hS hV d_La_init_63 (fun q H63 eq hz a_ l_ hJ hk hS hV => ?_)
  obtain rfl : q = b + 7 := by omega
  have hsz : H63.size = b + 8 := by omega
  have hA := hA.kept hJ
  have hO := hO.grown hk
  have hB := hB.grown hk
  have hA := hA.cons a_ l_
  have hO0 := hO
  refine sx_putF EE hin hO rfl i_La t_La tok_La n_La 8 (by decide) rfl fl_La_36 (ty := t_La 8) (by decide +kernel) rfl rfl (Nat.le_of_ble_eq_true rfl) hEo hS d_La_init_65 (fun H65 locs hO hJ hs hS => ?_)
  have hO : va_P D classes [(o, .inr (3, [.null, .ref (b + 0), .ref (b + 1), .ref (b + 2), .ref (b + 3), .ref (b + 4), .ref (b + 5), .ref (b + 6), .ref (b + 7), .null, .null, .null]))] H65 := hO
  have hV := (vx_obj hG hK.1 hO0 hO hs).trans hV
  have hA := hA.kept hJ
  have hB := hB.one hs ho
  have hsz := (sz_one hJ.1 hs (by omega)).trans hsz
  refine lv_aload_n hx hb d_La_init_68 rfl (lv_at hl 0 rfl) ?_
  refine lv_bipush (v := nI 10) hx hb d_La_init_69 (by decide +kernel) ?_
  refine vx_newa (cells' := 9) (slots' := 134) hx hb hG hts rfl (Or.inl rfl) (by decide +kernel) (by decide) (by decide) rfl rfl (Nat.le_of_ble_eq_true rfl) (Nat.le_of_ble_eq_true rfl) hS hV d_La_init_71 (fun q H71 eq hz a_ l_ hJ hk hS hV => ?_)
  obtain rfl : q = b + 8 := by omega
  have hsz : H71.size = b + 9 := by omega
  have hA := hA.kept hJ
  have hO := hO.grown hk
  have hB := hB.grown hk
  have hA := hA.cons a_ l_
  have hO0 := hO
  refine sx_putF EE hin hO rfl i_La t_La tok_La n_La 9 (by decide) rfl fl_La_39 (ty := t_La 9) (by decide +kernel) rfl rfl (Nat.le_of_ble_eq_true rfl) hEo hS d_La_init_73 (fun H73 locs hO hJ hs hS => ?_)
  have hO : va_P D classes [(o, .inr (3, [.null, .ref (b + 0), .ref (b + 1), .ref (b + 2), .ref (b + 3), .ref (b + 4), .ref (b + 5), .ref (b + 6), .ref (b + 7), .ref (b + 8), .null, .null]))] H73 := hO
  have hV := (vx_obj hG hK.1 hO0 hO hs).trans hV
  have hA := hA.kept hJ
  have hB := hB.one hs ho
  have hsz := (sz_one hJ.1 hs (by omega)).trans hsz
  refine lv_aload_n hx hb d_La_init_76 rfl (lv_at hl 0 rfl) ?_
  refine lv_bipush (v := nI 10) hx hb d_La_init_77 (by decide +kernel) ?_
  refine vx_newa (cells' := 10) (slots' := 144) hx hb hG hts rfl (Or.inl rfl) (by decide +kernel) (by decide) (by decide) rfl rfl (Nat.le_of_ble_eq_true rfl) (Nat.le_of_ble_eq_true rfl) hS hV d_La_init_79 (fun q H79 eq hz a_ l_ hJ hk hS hV => ?_)
  obtain rfl : q = b + 9 := by omega
  have hsz : H79.size = b + 10 := by omega
  have hA := hA.kept hJ
  have hO := hO.grown hk
  have hB := hB.grown hk
  have hA := hA.cons a_ l_
  have hO0 := hO
  refine sx_putF EE hin hO rfl i_La t_La tok_La n_La 10 (by decide) rfl fl_La_42 (ty := t_La 10) (by decide +kernel) rfl rfl (Nat.le_of_ble_eq_true rfl) hEo hS d_La_init_81 (fun H81 locs hO hJ hs hS => ?_)
  have hO : va_P D classes [(o, .inr (3, [.null, .ref (b + 0), .ref (b + 1), .ref (b + 2), .ref (b + 3), .ref (b + 4), .ref (b + 5), .ref (b + 6), .ref (b + 7), .ref (b + 8), .ref (b + 9), .null]))] H81 := hO
  have hV := (vx_obj hG hK.1 hO0 hO hs).trans hV
  have hA := hA.kept hJ
  have hB := hB.one hs ho
  have hsz := (sz_one hJ.1 hs (by omega)).trans hsz
  refine lv_aload_n hx hb d_La_init_84 rfl (lv_at hl 0 rfl) ?_
  refine lv_bipush (v := nI 10) hx hb d_La_init_85 (by decide +kernel) ?_
  refine vx_newa (cells' := 11) (slots' := 154) hx hb hG hts rfl (Or.inl rfl) (by decide +kernel) (by decide) (by decide) rfl rfl (Nat.le_of_ble_eq_true rfl) (Nat.le_of_ble_eq_true rfl) hS hV d_La_init_87 (fun q H87 eq hz a_ l_ hJ hk hS hV => ?_)
  obtain rfl : q = b + 10 := by omega
  have hsz : H87.size = b + 11 := by omega
  have hA := hA.kept hJ
  have hO := hO.grown hk
  have hB := hB.grown hk
  have hA := hA.cons a_ l_
  have hO0 := hO
  refine sx_putF EE hin hO rfl i_La t_La tok_La n_La 11 (by decide) rfl fl_La_45 (ty := t_La 11) (by decide +kernel) rfl rfl (Nat.le_of_ble_eq_true rfl) hEo hS d_La_init_89 (fun H89 locs hO hJ hs hS => ?_)
  have hO : va_P D classes [(o, .inr (3, [.null, .ref (b + 0), .ref (b + 1), .ref (b + 2), .ref (b + 3), .ref (b + 4), .ref (b + 5), .ref (b + 6), .ref (b + 7), .ref (b + 8), .ref (b + 9), .ref (b + 10)]))] H89 := hO
  have hV := (vx_obj hG hK.1 hO0 hO hs).trans hV
  have hA := hA.kept hJ
  have hB := hB.one hs ho
  have hsz := (sz_one hJ.1 hs (by omega)).trans hsz
  refine lv_aload_n hx hb d_La_init_92 rfl (lv_at hl 0 rfl) ?_
  refine lv_aload_n hx hb d_La_init_93 rfl (lv_at hl 1 rfl) ?_
  have hO0 := hO
  refine sx_putF EE hin hO rfl i_La t_La tok_La n_La 0 (by decide) rfl fl_La_48 (ty := t_La 0) (by decide +kernel) rfl rfl (Nat.le_of_ble_eq_true rfl) hEo hS d_La_init_94 (fun H94 locs hO hJ hs hS => ?_)
  have hO : va_P D classes [(o, .inr (3, [.ref a0, .ref (b + 0), .ref (b + 1), .ref (b + 2), .ref (b + 3), .ref (b + 4), .ref (b + 5), .ref (b + 6), .ref (b + 7), .ref (b + 8), .ref (b + 9), .ref (b + 10)]))] H94 := hO
  have hV := (vx_obj hG hK.1 hO0 hO hs).trans hV
  have hA := hA.kept hJ
  have hB := hB.one hs ho
  have hsz := (sz_one hJ.1 hs (by omega)).trans hsz
  refine lv_aload_n hx hb d_La_init_97 rfl (lv_at hl 0 rfl) ?_
  refine sx_get (v := .ref (b + 1)) EE hO rfl i_La 2 (by decide) rfl fl_La_15 rfl d_La_init_98 ?_
  refine lv_iconst (v := nI 0) hx hb d_La_init_101 (by decide +kernel) ?_
  refine lv_bipush (v := nI 9) hx hb d_La_init_102 (by decide +kernel) ?_
  refine vx_bastZ (E := fun z => z = (b + 1)) (F := E) (H0 := H94) hx hb hG ⟨sx_J.rf, fun z h => h ▸ hEn _ (by omega), hS.2.2⟩ hV (show sx_A g .byte H94 (b + 1) 32 from (hA ((b + 1), .byte, 32) (List.mem_of_getElem? (i := 9) rfl)).1) rfl (by decide) (by decide) d_La_init_104 (fun H104 locs X_ eX_ hS1 hV hz => ?_)
  subst eX_
  have hO := hS1.1.ob (fun e => absurd (show o = (b + 1) from e) (by omega)) hO
  have hB : obs_ D H104 b [] := obs_.nil
  have hA := hA.kept hS1.1
  have hsz := hz.trans hsz
  have hS : sx_S g E E H0 H104 locs := ⟨hS.1.tr (hS1.1.mono (fun z h => h ▸ hEn _ (by omega))), fun _ h => h, hS1.2.2⟩
  exact hret _ _ _ _ ⟨hsz, hO, hB, hA, hV⟩ hS.1 hS.2.2 d_La_init_105
def up_Si (D : va_G) (g : ClassId → FieldType → Prop) (b o a0 : Nat) (X : vM) (H : Heap) : Prop := H.size = b + 12 ∧ va_P D classes [(o, .inr (11, [.ref a0, .ref (b + 0), .ref (b + 4), .ref (b + 6), .ref (b + 7), .ref (b + 8), .ref (b + 9), .ref (b + 10), .ref (b + 11)]))] H ∧ obs_ D H b [((b + 4), 8, [.ref (b + 5)]), ((b + 0), 7, [.ref (b + 1), .ref (b + 2), .ref (b + 3), .int 0, .int 0])] ∧ sx_AR g H [((b + 11), .byte, 32), ((b + 10), .byte, 32), ((b + 9), .byte, 32), ((b + 8), .byte, 32), ((b + 7), .byte, 32), ((b + 6), .byte, 64), ((b + 5), .long, 64), ((b + 3), .byte, 128), ((b + 2), .long, 80), ((b + 1), .long, 8)] ∧ mm g H = X
abbrev rm_Si_init : Room := { frames := 2, cells := 12, slots := 510, locals := 50 }
set_option maxHeartbeats 4000000 in
set_option maxRecDepth 100000 in
theorem u_Si_init {l : Launch} {D : va_G} {g : ClassId → FieldType → Prop} {E : Nat → Prop} {H0 : Heap} {o b a0 : Nat} {X : vM} (hEo : E o) (hEn : ∀ q, b ≤ q → E q) (hO : va_P D classes [(o, .inr (11, [.null, .null, .null, .null, .null, .null, .null, .null, .null]))] H0) (hsz : H0.size = b) (hV : mm g H0 = X) : Met l y_Si_init (.code y_Si_init b_Si_init 2 none :: G_) rm_Si_init (sx_Pc [.ref o, .ref a0] H0 D g) (va_Qv (fun _ : Unit => True) (fun _ t => sx_J g E H0 t.heap ∧ up_Si D g b o a0 X t.heap) E) 12 510 E := by
  refine sx_mva (own := R_Si) (P := up_Si D g b o a0 X) (by decide) rfl (Nat.le_of_ble_eq_true rfl) ?_
  intro p e s m args below meth c Q ls EE hin hl hret
  obtain ⟨hx, hb, hml, hown, hts, hG, hK⟩ := id EE
  have hS : sx_S g E E H0 H0 [] := sx_S.rf
  have hA : sx_AR g H0 [] := sx_AR.nil
  have hB : obs_ D H0 b [] := obs_.nil
  have ho : o < b := hsz ▸ (hO 0 _ rfl).lt
  have hsz : H0.size = b + 0 := hsz
  have hl : lv_has ls 2 [(0, .ref o), (1, .ref a0)] := hl
  refine lv_aload_n hx hb d_Si_init_0 rfl (lv_at hl 0 rfl) ?_
  refine W.objInit hx hb hown (hts (.methodLink R_Si 3 objectInit) (by decide +kernel)) (hts (.instanceMethod objectInit) (by decide +kernel)) (hts (.code objectInit ⟨#[0xb1]⟩ 1 none) (by decide +kernel)) rfl (by rw [hml]; exact hl.1) rfl d_Si_init_1 (Nat.le_of_ble_eq_true rfl) (Nat.le_of_ble_eq_true rfl) ?_
  refine W.eq (g2 := F0 m 4 ls []) rfl ?_
  refine lv_aload_n hx hb d_Si_init_4 rfl (lv_at hl 0 rfl) ?_
  refine sx_newo (ci := 7) (fs := [.null, .null, .null, .int 0, .int 0]) (cells' := 1) (slots' := 5) EE rfl i_Ha t_Ha tok_Ha nw_Si_9 (by decide) rfl rfl (Nat.le_of_ble_eq_true rfl) (Nat.le_of_ble_eq_true rfl) d_Si_init_5 (fun q H5 e0 hN s0 k1 => ?_)
  obtain rfl : q = b + 0 := by omega
  have hV := mm_newo hG hK.1 k1 hN e0 s0 hV
  refine lv_dup hx hb d_Si_init_8 rfl ?_
  refine sx_gI (E' := (fun z => z = b + 0 ∨ b + 1 ≤ z)) (P := up_Ha D g (b + 1) (b + 0) X) (F := E) (mc := 3) (ms := 216) (cells' := 4) (slots' := 221) (sx_runIN (As := []) (rest := [.ref (b + 0), .ref o]) EE (u_Ha_init (E := (fun z => z = b + 0 ∨ b + 1 ≤ z)) (b := b + 1) (X := X) (Or.inl rfl) (fun z h => Or.inr h) hN s0 hV) il_Si_11 iw_Si_11 rfl rfl ⟨rfl, rfl⟩ ⟨Nat.le_of_ble_eq_true rfl, Nat.le_of_ble_eq_true rfl⟩ ⟨Nat.le_of_ble_eq_true rfl, Nat.le_of_ble_eq_true rfl⟩ hl.1 rfl (Nat.le_of_ble_eq_true rfl) d_Si_init_9) (fun z h => hEn _ (by rcases h with h | h <;> omega)) hS.2.2 rfl rfl (fun H9 locs hJc hPc hlo => ?_)
  have hk := sx_J.news e0 k1 (by omega) hJc (fun z h => by rcases h with h | h; exact Or.inl h; exact Or.inr (by omega))
  have hJ : sx_J g E H0 H9 := (sx_J.grow (by omega) k1).tr (hJc.mono (fun z h => hEn _ (by rcases h with h | h <;> omega)))
  have hS : sx_S g E E H0 H9 locs := ⟨hS.1.tr hJ, fun _ h => h, hlo⟩
  have hA := hA.kept hJ
  have hO := hO.grown hk
  have hB := hB.grown hk
  obtain ⟨hsz_, hN_, hB_, hA_, hV⟩ := hPc
  have hsz : H9.size = b + 4 := hsz_
  have hB : obs_ D H9 b [((b + 0), 7, [.ref (b + 1), .ref (b + 2), .ref (b + 3), .int 0, .int 0])] := (hB.app hB_ (by omega)).cons hN_ (by omega)
  have hA : sx_AR g H9 [((b + 3), .byte, 128), ((b + 2), .long, 80), ((b + 1), .long, 8)] := hA.app hA_
  have hV : mm g H9 = X := hV
  have hO0 := hO
  refine sx_putF EE hin hO rfl i_Si t_Si tok_Si n_Si 1 (by decide) rfl fl_Si_12 (ty := t_Si 1) (by decide +kernel) rfl rfl (Nat.le_of_ble_eq_true rfl) hEo hS d_Si_init_12 (fun H12 locs hO hJ hs hS => ?_)
  have hO : va_P D classes [(o, .inr (11, [.null, .ref (b + 0), .null, .null, .null, .null, .null, .null, .null]))] H12 := hO
  have hV := (vx_obj hG hK.1 hO0 hO hs).trans hV
  have hA := hA.kept hJ
  have hB := hB.one hs ho
  have hsz := (sz_one hJ.1 hs (by omega)).trans hsz
  refine lv_aload_n hx hb d_Si_init_15 rfl (lv_at hl 0 rfl) ?_
  refine sx_newo (ci := 8) (fs := [.null]) (cells' := 5) (slots' := 222) EE rfl i_Or t_Or tok_Or nw_Si_18 (by decide) rfl rfl (Nat.le_of_ble_eq_true rfl) (Nat.le_of_ble_eq_true rfl) d_Si_init_16 (fun q H16 e0 hN s0 k1 => ?_)
  obtain rfl : q = b + 4 := by omega
  have hV := mm_newo hG hK.1 k1 hN e0 s0 hV
  refine lv_dup hx hb d_Si_init_19 rfl ?_
  refine sx_gI (E' := (fun z => z = b + 4 ∨ b + 5 ≤ z)) (P := up_Or D g (b + 5) (b + 4) X) (F := E) (mc := 1) (ms := 64) (cells' := 6) (slots' := 286) (sx_runIN (As := []) (rest := [.ref (b + 4), .ref o]) EE (u_Or_init (E := (fun z => z = b + 4 ∨ b + 5 ≤ z)) (b := b + 5) (X := X) (Or.inl rfl) (fun z h => Or.inr h) hN s0 hV) il_Si_20 iw_Si_20 rfl rfl ⟨rfl, rfl⟩ ⟨Nat.le_of_ble_eq_true rfl, Nat.le_of_ble_eq_true rfl⟩ ⟨Nat.le_of_ble_eq_true rfl, Nat.le_of_ble_eq_true rfl⟩ hl.1 rfl (Nat.le_of_ble_eq_true rfl) d_Si_init_20) (fun z h => hEn _ (by rcases h with h | h <;> omega)) hS.2.2 rfl rfl (fun H20 locs hJc hPc hlo => ?_)
  have hk := sx_J.news e0 k1 (by omega) hJc (fun z h => by rcases h with h | h; exact Or.inl h; exact Or.inr (by omega))
  have hJ : sx_J g E H12 H20 := (sx_J.grow (by omega) k1).tr (hJc.mono (fun z h => hEn _ (by rcases h with h | h <;> omega)))
  have hS : sx_S g E E H0 H20 locs := ⟨hS.1.tr hJ, fun _ h => h, hlo⟩
  have hA := hA.kept hJ
  have hO := hO.grown hk
  have hB := hB.grown hk
  obtain ⟨hsz_, hN_, hB_, hA_, hV⟩ := hPc
  have hsz : H20.size = b + 6 := hsz_
  have hB : obs_ D H20 b [((b + 4), 8, [.ref (b + 5)]), ((b + 0), 7, [.ref (b + 1), .ref (b + 2), .ref (b + 3), .int 0, .int 0])] := (hB.app hB_ (by omega)).cons hN_ (by omega)
  have hA : sx_AR g H20 [((b + 5), .long, 64), ((b + 3), .byte, 128), ((b + 2), .long, 80), ((b + 1), .long, 8)] := hA.app hA_
  have hV : mm g H20 = X := hV
  have hO0 := hO
  refine sx_putF EE hin hO rfl i_Si t_Si tok_Si n_Si 2 (by decide) rfl fl_Si_21 (ty := t_Si 2) (by decide +kernel) rfl rfl (Nat.le_of_ble_eq_true rfl) hEo hS d_Si_init_23 (fun H23 locs hO hJ hs hS => ?_)
  have hO : va_P D classes [(o, .inr (11, [.null, .ref (b + 0), .ref (b + 4), .null, .null, .null, .null, .null, .null]))] H23 := hO
  have hV := (vx_obj hG hK.1 hO0 hO hs).trans hV
  have hA := hA.kept hJ
  have hB := hB.one hs ho
  have hsz := (sz_one hJ.1 hs (by omega)).trans hsz
  refine lv_aload_n hx hb d_Si_init_26 rfl (lv_at hl 0 rfl) ?_
  refine lv_bipush (v := nI 64) hx hb d_Si_init_27 (by decide +kernel) ?_
  refine vx_newa (cells' := 7) (slots' := 350) hx hb hG hts rfl (Or.inr (Or.inl rfl)) (by decide +kernel) (by decide) (by decide) rfl rfl (Nat.le_of_ble_eq_true rfl) (Nat.le_of_ble_eq_true rfl) hS hV d_Si_init_29 (fun q H29 eq hz a_ l_ hJ hk hS hV => ?_)
  obtain rfl : q = b + 6 := by omega
  have hsz : H29.size = b + 7 := by omega
  have hA := hA.kept hJ
  have hO := hO.grown hk
  have hB := hB.grown hk
  have hA := hA.cons a_ l_
  have hO0 := hO
  refine sx_putF EE hin hO rfl i_Si t_Si tok_Si n_Si 3 (by decide) rfl fl_Si_25 (ty := t_Si 3) (by decide +kernel) rfl rfl (Nat.le_of_ble_eq_true rfl) hEo hS d_Si_init_31 (fun H31 locs hO hJ hs hS => ?_)
  have hO : va_P D classes [(o, .inr (11, [.null, .ref (b + 0), .ref (b + 4), .ref (b + 6), .null, .null, .null, .null, .null]))] H31 := hO
  have hV := (vx_obj hG hK.1 hO0 hO hs).trans hV
  have hA := hA.kept hJ
  have hB := hB.one hs ho
  have hsz := (sz_one hJ.1 hs (by omega)).trans hsz
  refine lv_aload_n hx hb d_Si_init_34 rfl (lv_at hl 0 rfl) ?_
  refine lv_bipush (v := nI 32) hx hb d_Si_init_35 (by decide +kernel) ?_
  refine vx_newa (cells' := 8) (slots' := 382) hx hb hG hts rfl (Or.inr (Or.inl rfl)) (by decide +kernel) (by decide) (by decide) rfl rfl (Nat.le_of_ble_eq_true rfl) (Nat.le_of_ble_eq_true rfl) hS hV d_Si_init_37 (fun q H37 eq hz a_ l_ hJ hk hS hV => ?_)
  obtain rfl : q = b + 7 := by omega
  have hsz : H37.size = b + 8 := by omega
  have hA := hA.kept hJ
  have hO := hO.grown hk
  have hB := hB.grown hk
  have hA := hA.cons a_ l_
  have hO0 := hO
  refine sx_putF EE hin hO rfl i_Si t_Si tok_Si n_Si 4 (by decide) rfl fl_Si_29 (ty := t_Si 4) (by decide +kernel) rfl rfl (Nat.le_of_ble_eq_true rfl) hEo hS d_Si_init_39 (fun H39 locs hO hJ hs hS => ?_)
  have hO : va_P D classes [(o, .inr (11, [.null, .ref (b + 0), .ref (b + 4), .ref (b + 6), .ref (b + 7), .null, .null, .null, .null]))] H39 := hO
  have hV := (vx_obj hG hK.1 hO0 hO hs).trans hV
  have hA := hA.kept hJ
  have hB := hB.one hs ho
  have hsz := (sz_one hJ.1 hs (by omega)).trans hsz
  refine lv_aload_n hx hb d_Si_init_42 rfl (lv_at hl 0 rfl) ?_
  refine lv_bipush (v := nI 32) hx hb d_Si_init_43 (by decide +kernel) ?_
  refine vx_newa (cells' := 9) (slots' := 414) hx hb hG hts rfl (Or.inr (Or.inl rfl)) (by decide +kernel) (by decide) (by decide) rfl rfl (Nat.le_of_ble_eq_true rfl) (Nat.le_of_ble_eq_true rfl) hS hV d_Si_init_45 (fun q H45 eq hz a_ l_ hJ hk hS hV => ?_)
  obtain rfl : q = b + 8 := by omega
  have hsz : H45.size = b + 9 := by omega
  have hA := hA.kept hJ
  have hO := hO.grown hk
  have hB := hB.grown hk
  have hA := hA.cons a_ l_
  have hO0 := hO
  refine sx_putF EE hin hO rfl i_Si t_Si tok_Si n_Si 5 (by decide) rfl fl_Si_32 (ty := t_Si 5) (by decide +kernel) rfl rfl (Nat.le_of_ble_eq_true rfl) hEo hS d_Si_init_47 (fun H47 locs hO hJ hs hS => ?_)
  have hO : va_P D classes [(o, .inr (11, [.null, .ref (b + 0), .ref (b + 4), .ref (b + 6), .ref (b + 7), .ref (b + 8), .null, .null, .null]))] H47 := hO
  have hV := (vx_obj hG hK.1 hO0 hO hs).trans hV
  have hA := hA.kept hJ
  have hB := hB.one hs ho
  have hsz := (sz_one hJ.1 hs (by omega)).trans hsz
  refine lv_aload_n hx hb d_Si_init_50 rfl (lv_at hl 0 rfl) ?_
  refine lv_bipush (v := nI 32) hx hb d_Si_init_51 (by decide +kernel) ?_
  refine vx_newa (cells' := 10) (slots' := 446) hx hb hG hts rfl (Or.inr (Or.inl rfl)) (by decide +kernel) (by decide) (by decide) rfl rfl (Nat.le_of_ble_eq_true rfl) (Nat.le_of_ble_eq_true rfl) hS hV d_Si_init_53 (fun q H53 eq hz a_ l_ hJ hk hS hV => ?_)
  obtain rfl : q = b + 9 := by omega
  have hsz : H53.size = b + 10 := by omega
  have hA := hA.kept hJ
  have hO := hO.grown hk
  have hB := hB.grown hk
  have hA := hA.cons a_ l_
  have hO0 := hO
  refine sx_putF EE hin hO rfl i_Si t_Si tok_Si n_Si 6 (by decide) rfl fl_Si_35 (ty := t_Si 6) (by decide +kernel) rfl rfl (Nat.le_of_ble_eq_true rfl) hEo hS d_Si_init_55 (fun H55 locs hO hJ hs hS => ?_)
  have hO : va_P D classes [(o, .inr (11, [.null, .ref (b + 0), .ref (b + 4), .ref (b + 6), .ref (b + 7), .ref (b + 8), .ref (b + 9), .null, .null]))] H55 := hO
  have hV := (vx_obj hG hK.1 hO0 hO hs).trans hV
  have hA := hA.kept hJ
  have hB := hB.one hs ho
  have hsz := (sz_one hJ.1 hs (by omega)).trans hsz
  refine lv_aload_n hx hb d_Si_init_58 rfl (lv_at hl 0 rfl) ?_
  refine lv_bipush (v := nI 32) hx hb d_Si_init_59 (by decide +kernel) ?_
  refine vx_newa (cells' := 11) (slots' := 478) hx hb hG hts rfl (Or.inr (Or.inl rfl)) (by decide +kernel) (by decide) (by decide) rfl rfl (Nat.le_of_ble_eq_true rfl) (Nat.le_of_ble_eq_true rfl) hS hV d_Si_init_61 (fun q H61 eq hz a_ l_ hJ hk hS hV => ?_)
  obtain rfl : q = b + 10 := by omega
  have hsz : H61.size = b + 11 := by omega
  have hA := hA.kept hJ
  have hO := hO.grown hk
  have hB := hB.grown hk
  have hA := hA.cons a_ l_
  have hO0 := hO
  refine sx_putF EE hin hO rfl i_Si t_Si tok_Si n_Si 7 (by decide) rfl fl_Si_38 (ty := t_Si 7) (by decide +kernel) rfl rfl (Nat.le_of_ble_eq_true rfl) hEo hS d_Si_init_63 (fun H63 locs hO hJ hs hS => ?_)
  have hO : va_P D classes [(o, .inr (11, [.null, .ref (b + 0), .ref (b + 4), .ref (b + 6), .ref (b + 7), .ref (b + 8), .ref (b + 9), .ref (b + 10), .null]))] H63 := hO
  have hV := (vx_obj hG hK.1 hO0 hO hs).trans hV
  have hA := hA.kept hJ
  have hB := hB.one hs ho
  have hsz := (sz_one hJ.1 hs (by omega)).trans hsz
  refine lv_aload_n hx hb d_Si_init_66 rfl (lv_at hl 0 rfl) ?_
  refine lv_bipush (v := nI 32) hx hb d_Si_init_67 (by decide +kernel) ?_
  refine vx_newa (cells' := 12) (slots' := 510) hx hb hG hts rfl (Or.inr (Or.inl rfl)) (by decide +kernel) (by decide) (by decide) rfl rfl (Nat.le_of_ble_eq_true rfl) (Nat.le_of_ble_eq_true rfl) hS hV d_Si_init_69 (fun q H69 eq hz a_ l_ hJ hk hS hV => ?_)
  obtain rfl : q = b + 11 := by omega
  have hsz : H69.size = b + 12 := by omega
  have hA := hA.kept hJ
  have hO := hO.grown hk
  have hB := hB.grown hk
  have hA := hA.cons a_ l_
  have hO0 := hO
  refine sx_putF EE hin hO rfl i_Si t_Si tok_Si n_Si 8 (by decide) rfl fl_Si_41 (ty := t_Si 8) (by decide +kernel) rfl rfl (Nat.le_of_ble_eq_true rfl) hEo hS d_Si_init_71 (fun H71 locs hO hJ hs hS => ?_)
  have hO : va_P D classes [(o, .inr (11, [.null, .ref (b + 0), .ref (b + 4), .ref (b + 6), .ref (b + 7), .ref (b + 8), .ref (b + 9), .ref (b + 10), .ref (b + 11)]))] H71 := hO
  have hV := (vx_obj hG hK.1 hO0 hO hs).trans hV
  have hA := hA.kept hJ
  have hB := hB.one hs ho
  have hsz := (sz_one hJ.1 hs (by omega)).trans hsz
  refine lv_aload_n hx hb d_Si_init_74 rfl (lv_at hl 0 rfl) ?_
  refine lv_aload_n hx hb d_Si_init_75 rfl (lv_at hl 1 rfl) ?_
  have hO0 := hO
  refine sx_putF EE hin hO rfl i_Si t_Si tok_Si n_Si 0 (by decide) rfl fl_Si_44 (ty := t_Si 0) (by decide +kernel) rfl rfl (Nat.le_of_ble_eq_true rfl) hEo hS d_Si_init_76 (fun H76 locs hO hJ hs hS => ?_)
  have hO : va_P D classes [(o, .inr (11, [.ref a0, .ref (b + 0), .ref (b + 4), .ref (b + 6), .ref (b + 7), .ref (b + 8), .ref (b + 9), .ref (b + 10), .ref (b + 11)]))] H76 := hO
  have hV := (vx_obj hG hK.1 hO0 hO hs).trans hV
  have hA := hA.kept hJ
  have hB := hB.one hs ho
  have hsz := (sz_one hJ.1 hs (by omega)).trans hsz
  exact hret _ _ _ _ ⟨hsz, hO, hB, hA, hV⟩ hS.1 hS.2.2 d_Si_init_79
