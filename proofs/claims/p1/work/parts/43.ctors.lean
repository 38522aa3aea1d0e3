abbrev rm_Pt_init : Room := { frames := 1, cells := 4, slots := 40, locals := 13 }
set_option maxHeartbeats 4000000 in
set_option maxRecDepth 100000 in
theorem c_Pt_init {l : Launch} {D : va_G} {g : ClassId → FieldType → Prop} {E : Nat → Prop} {H0 : Heap} {o : Nat} (hEo : E o) (hEn : ∀ q, H0.size ≤ q → E q) (hO : va_P D classes [(o, .inr (4, [.null, .null, .null, .null]))] H0) : Met l y_Pt_init (.code y_Pt_init b_Pt_init 1 none :: G_) rm_Pt_init (sx_Pc [.ref o] H0 D g) (va_Qv (fun _ : Unit => True) (fun _ t => sx_J g E H0 t.heap ∧ ∃ r : Nat → Nat, va_P D classes [(o, .inr (4, [.ref (r 0), .ref (r 1), .ref (r 2), .ref (r 3)]))] t.heap ∧ sx_AR g t.heap [(r 0, .long, 10), (r 1, .long, 10), (r 2, .long, 10), (r 3, .long, 10)] ∧ (∀ k, H0.size ≤ r k)) E) 4 40 E := by
  refine sx_mva (own := R_Pt) (P := fun H => ∃ r : Nat → Nat, va_P D classes [(o, .inr (4, [.ref (r 0), .ref (r 1), .ref (r 2), .ref (r 3)]))] H ∧ sx_AR g H [(r 0, .long, 10), (r 1, .long, 10), (r 2, .long, 10), (r 3, .long, 10)] ∧ (∀ k, H0.size ≤ r k)) (by decide) rfl (Nat.le_of_ble_eq_true rfl) ?_
  intro p e s m args below meth c Q ls EE hin hl hret
  obtain ⟨hx, hb, hml, hown, hts, hG, hK⟩ := id EE
  have hS : sx_S g E E H0 H0 [] := sx_S.rf
  have hA : sx_AR g H0 [] := sx_AR.nil
  have hZ : ∀ x ∈ ([] : List Nat), H0.size ≤ x := sx_nilZ
  have ho : o < H0.size := (hO 0 _ rfl).lt
  have hl : lv_has ls 1 [(0, .ref o)] := hl
  refine lv_aload_n hx hb d_Pt_init_0 rfl (lv_at hl 0 rfl) ?_
  refine W.objInit hx hb hown (hts (.methodLink R_Pt 1 objectInit) (by decide +kernel)) (hts (.instanceMethod objectInit) (by decide +kernel)) (hts (.code objectInit ⟨#[0xb1]⟩ 1 none) (by decide +kernel)) rfl (by rw [hml]; exact hl.1) rfl d_Pt_init_1 (Nat.le_of_ble_eq_true rfl) (Nat.le_of_ble_eq_true rfl) ?_
  refine W.eq (g2 := F0 m 4 ls []) rfl ?_
  refine lv_aload_n hx hb d_Pt_init_4 rfl (lv_at hl 0 rfl) ?_
  refine lv_bipush (v := nI 10) hx hb d_Pt_init_5 (by decide +kernel) ?_
  have hz := hS.1.1
  refine sx_newa (cells' := 1) (slots' := 10) hx hb hG hts rfl (Or.inl rfl) (by decide +kernel) (by decide) (by decide) rfl rfl (Nat.le_of_ble_eq_true rfl) (Nat.le_of_ble_eq_true rfl) hS d_Pt_init_7 (fun q7 H7 e0 a0' l0 y0 hJ hk hS => ?_)
  have hA := hA.kept hJ
  have hO := hO.grown hk
  have hA : sx_AR g H7 [(q7, .long, 10)] := hA.cons a0' l0
  have z_q7 : H0.size ≤ q7 := e0 ▸ hz
  have hZ := sx_consZ hZ z_q7
  refine sx_putF EE hin hO rfl i_Pt t_Pt tok_Pt n_Pt 0 (by decide) rfl fl_Pt_9 (ty := t_Pt 0) (by decide +kernel) rfl rfl (Nat.le_of_ble_eq_true rfl) hEo hS d_Pt_init_9 (fun H9 locs hO hJ hs hS => ?_)
  have hA := hA.kept hJ
  have hO : va_P D classes [(o, .inr (4, [.ref q7, .null, .null, .null]))] H9 := hO
  refine lv_aload_n hx hb d_Pt_init_12 rfl (lv_at hl 0 rfl) ?_
  refine lv_bipush (v := nI 10) hx hb d_Pt_init_13 (by decide +kernel) ?_
  have hz := hS.1.1
  refine sx_newa (cells' := 2) (slots' := 20) hx hb hG hts rfl (Or.inl rfl) (by decide +kernel) (by decide) (by decide) rfl rfl (Nat.le_of_ble_eq_true rfl) (Nat.le_of_ble_eq_true rfl) hS d_Pt_init_15 (fun q15 H15 e0 a0' l0 y0 hJ hk hS => ?_)
  have hA := hA.kept hJ
  have hO := hO.grown hk
  have hA : sx_AR g H15 [(q15, .long, 10), (q7, .long, 10)] := hA.cons a0' l0
  have z_q15 : H0.size ≤ q15 := e0 ▸ hz
  have hZ := sx_consZ hZ z_q15
  refine sx_putF EE hin hO rfl i_Pt t_Pt tok_Pt n_Pt 1 (by decide) rfl fl_Pt_15 (ty := t_Pt 1) (by decide +kernel) rfl rfl (Nat.le_of_ble_eq_true rfl) hEo hS d_Pt_init_17 (fun H17 locs hO hJ hs hS => ?_)
  have hA := hA.kept hJ
  have hO : va_P D classes [(o, .inr (4, [.ref q7, .ref q15, .null, .null]))] H17 := hO
  refine lv_aload_n hx hb d_Pt_init_20 rfl (lv_at hl 0 rfl) ?_
  refine lv_bipush (v := nI 10) hx hb d_Pt_init_21 (by decide +kernel) ?_
  have hz := hS.1.1
  refine sx_newa (cells' := 3) (slots' := 30) hx hb hG hts rfl (Or.inl rfl) (by decide +kernel) (by decide) (by decide) rfl rfl (Nat.le_of_ble_eq_true rfl) (Nat.le_of_ble_eq_true rfl) hS d_Pt_init_23 (fun q23 H23 e0 a0' l0 y0 hJ hk hS => ?_)
  have hA := hA.kept hJ
  have hO := hO.grown hk
  have hA : sx_AR g H23 [(q23, .long, 10), (q15, .long, 10), (q7, .long, 10)] := hA.cons a0' l0
  have z_q23 : H0.size ≤ q23 := e0 ▸ hz
  have hZ := sx_consZ hZ z_q23
  refine sx_putF EE hin hO rfl i_Pt t_Pt tok_Pt n_Pt 2 (by decide) rfl fl_Pt_18 (ty := t_Pt 2) (by decide +kernel) rfl rfl (Nat.le_of_ble_eq_true rfl) hEo hS d_Pt_init_25 (fun H25 locs hO hJ hs hS => ?_)
  have hA := hA.kept hJ
  have hO : va_P D classes [(o, .inr (4, [.ref q7, .ref q15, .ref q23, .null]))] H25 := hO
  refine lv_aload_n hx hb d_Pt_init_28 rfl (lv_at hl 0 rfl) ?_
  refine lv_bipush (v := nI 10) hx hb d_Pt_init_29 (by decide +kernel) ?_
  have hz := hS.1.1
  refine sx_newa (cells' := 4) (slots' := 40) hx hb hG hts rfl (Or.inl rfl) (by decide +kernel) (by decide) (by decide) rfl rfl (Nat.le_of_ble_eq_true rfl) (Nat.le_of_ble_eq_true rfl) hS d_Pt_init_31 (fun q31 H31 e0 a0' l0 y0 hJ hk hS => ?_)
  have hA := hA.kept hJ
  have hO := hO.grown hk
  have hA : sx_AR g H31 [(q31, .long, 10), (q23, .long, 10), (q15, .long, 10), (q7, .long, 10)] := hA.cons a0' l0
  have z_q31 : H0.size ≤ q31 := e0 ▸ hz
  have hZ := sx_consZ hZ z_q31
  refine sx_putF EE hin hO rfl i_Pt t_Pt tok_Pt n_Pt 3 (by decide) rfl fl_Pt_21 (ty := t_Pt 3) (by decide +kernel) rfl rfl (Nat.le_of_ble_eq_true rfl) hEo hS d_Pt_init_33 (fun H33 locs hO hJ hs hS => ?_)
  have hA := hA.kept hJ
  have hO : va_P D classes [(o, .inr (4, [.ref q7, .ref q15, .ref q23, .ref q31]))] H33 := hO
  have hr : ∀ x ∈ ([q7, q15, q23, q31] : List Nat), H0.size ≤ x := by
    intro x hx
    simp only [List.mem_cons, List.not_mem_nil, or_false] at hx
    rcases hx with rfl | rfl | rfl | rfl <;> first | exact Nat.le_refl _ | assumption
  refine hret _ _ _ _ ⟨(fun k => ([q7, q15, q23, q31] : List Nat).getD k H0.size), hO, fun z hz => hA z (by simp only [List.mem_cons, List.not_mem_nil, or_false] at hz ⊢; rcases hz with rfl | rfl | rfl | rfl <;> simp), sx_ge hr⟩ hS.1 hS.2.2 d_Pt_init_36
abbrev rm_Ad_init : Room := { frames := 1, cells := 4, slots := 40, locals := 13 }
set_option maxHeartbeats 4000000 in
set_option maxRecDepth 100000 in
theorem c_Ad_init {l : Launch} {D : va_G} {g : ClassId → FieldType → Prop} {E : Nat → Prop} {H0 : Heap} {o : Nat} (hEo : E o) (hEn : ∀ q, H0.size ≤ q → E q) (hO : va_P D classes [(o, .inr (5, [.null, .null, .null, .null]))] H0) : Met l y_Ad_init (.code y_Ad_init b_Ad_init 1 none :: G_) rm_Ad_init (sx_Pc [.ref o] H0 D g) (va_Qv (fun _ : Unit => True) (fun _ t => sx_J g E H0 t.heap ∧ ∃ r : Nat → Nat, va_P D classes [(o, .inr (5, [.ref (r 0), .ref (r 1), .ref (r 2), .ref (r 3)]))] t.heap ∧ sx_AR g t.heap [(r 0, .long, 10), (r 1, .long, 10), (r 2, .long, 10), (r 3, .long, 10)] ∧ (∀ k, H0.size ≤ r k)) E) 4 40 E := by
  refine sx_mva (own := R_Ad) (P := fun H => ∃ r : Nat → Nat, va_P D classes [(o, .inr (5, [.ref (r 0), .ref (r 1), .ref (r 2), .ref (r 3)]))] H ∧ sx_AR g H [(r 0, .long, 10), (r 1, .long, 10), (r 2, .long, 10), (r 3, .long, 10)] ∧ (∀ k, H0.size ≤ r k)) (by decide) rfl (Nat.le_of_ble_eq_true rfl) ?_
  intro p e s m args below meth c Q ls EE hin hl hret
  obtain ⟨hx, hb, hml, hown, hts, hG, hK⟩ := id EE
  have hS : sx_S g E E H0 H0 [] := sx_S.rf
  have hA : sx_AR g H0 [] := sx_AR.nil
  have hZ : ∀ x ∈ ([] : List Nat), H0.size ≤ x := sx_nilZ
  have ho : o < H0.size := (hO 0 _ rfl).lt
  have hl : lv_has ls 1 [(0, .ref o)] := hl
  refine lv_aload_n hx hb d_Ad_init_0 rfl (lv_at hl 0 rfl) ?_
  refine W.objInit hx hb hown (hts (.methodLink R_Ad 1 objectInit) (by decide +kernel)) (hts (.instanceMethod objectInit) (by decide +kernel)) (hts (.code objectInit ⟨#[0xb1]⟩ 1 none) (by decide +kernel)) rfl (by rw [hml]; exact hl.1) rfl d_Ad_init_1 (Nat.le_of_ble_eq_true rfl) (Nat.le_of_ble_eq_true rfl) ?_
  refine W.eq (g2 := F0 m 4 ls []) rfl ?_
  refine lv_aload_n hx hb d_Ad_init_4 rfl (lv_at hl 0 rfl) ?_
  refine lv_bipush (v := nI 10) hx hb d_Ad_init_5 (by decide +kernel) ?_
  have hz := hS.1.1
  refine sx_newa (cells' := 1) (slots' := 10) hx hb hG hts rfl (Or.inl rfl) (by decide +kernel) (by decide) (by decide) rfl rfl (Nat.le_of_ble_eq_true rfl) (Nat.le_of_ble_eq_true rfl) hS d_Ad_init_7 (fun q7 H7 e0 a0' l0 y0 hJ hk hS => ?_)
  have hA := hA.kept hJ
  have hO := hO.grown hk
  have hA : sx_AR g H7 [(q7, .long, 10)] := hA.cons a0' l0
  have z_q7 : H0.size ≤ q7 := e0 ▸ hz
  have hZ := sx_consZ hZ z_q7
  refine sx_putF EE hin hO rfl i_Ad t_Ad tok_Ad n_Ad 0 (by decide) rfl fl_Ad_9 (ty := t_Ad 0) (by decide +kernel) rfl rfl (Nat.le_of_ble_eq_true rfl) hEo hS d_Ad_init_9 (fun H9 locs hO hJ hs hS => ?_)
  have hA := hA.kept hJ
  have hO : va_P D classes [(o, .inr (5, [.ref q7, .null, .null, .null]))] H9 := hO
  refine lv_aload_n hx hb d_Ad_init_12 rfl (lv_at hl 0 rfl) ?_
  refine lv_bipush (v := nI 10) hx hb d_Ad_init_13 (by decide +kernel) ?_
  have hz := hS.1.1
  refine sx_newa (cells' := 2) (slots' := 20) hx hb hG hts rfl (Or.inl rfl) (by decide +kernel) (by decide) (by decide) rfl rfl (Nat.le_of_ble_eq_true rfl) (Nat.le_of_ble_eq_true rfl) hS d_Ad_init_15 (fun q15 H15 e0 a0' l0 y0 hJ hk hS => ?_)
  have hA := hA.kept hJ
  have hO := hO.grown hk
  have hA : sx_AR g H15 [(q15, .long, 10), (q7, .long, 10)] := hA.cons a0' l0
  have z_q15 : H0.size ≤ q15 := e0 ▸ hz
  have hZ := sx_consZ hZ z_q15
  refine sx_putF EE hin hO rfl i_Ad t_Ad tok_Ad n_Ad 1 (by decide) rfl fl_Ad_15 (ty := t_Ad 1) (by decide +kernel) rfl rfl (Nat.le_of_ble_eq_true rfl) hEo hS d_Ad_init_17 (fun H17 locs hO hJ hs hS => ?_)
  have hA := hA.kept hJ
  have hO : va_P D classes [(o, .inr (5, [.ref q7, .ref q15, .null, .null]))] H17 := hO
  refine lv_aload_n hx hb d_Ad_init_20 rfl (lv_at hl 0 rfl) ?_
  refine lv_bipush (v := nI 10) hx hb d_Ad_init_21 (by decide +kernel) ?_
  have hz := hS.1.1
  refine sx_newa (cells' := 3) (slots' := 30) hx hb hG hts rfl (Or.inl rfl) (by decide +kernel) (by decide) (by decide) rfl rfl (Nat.le_of_ble_eq_true rfl) (Nat.le_of_ble_eq_true rfl) hS d_Ad_init_23 (fun q23 H23 e0 a0' l0 y0 hJ hk hS => ?_)
  have hA := hA.kept hJ
  have hO := hO.grown hk
  have hA : sx_AR g H23 [(q23, .long, 10), (q15, .long, 10), (q7, .long, 10)] := hA.cons a0' l0
  have z_q23 : H0.size ≤ q23 := e0 ▸ hz
  have hZ := sx_consZ hZ z_q23
  refine sx_putF EE hin hO rfl i_Ad t_Ad tok_Ad n_Ad 2 (by decide) rfl fl_Ad_18 (ty := t_Ad 2) (by decide +kernel) rfl rfl (Nat.le_of_ble_eq_true rfl) hEo hS d_Ad_init_25 (fun H25 locs hO hJ hs hS => ?_)
  have hA := hA.kept hJ
  have hO : va_P D classes [(o, .inr (5, [.ref q7, .ref q15, .ref q23, .null]))] H25 := hO
  refine lv_aload_n hx hb d_Ad_init_28 rfl (lv_at hl 0 rfl) ?_
  refine lv_bipush (v := nI 10) hx hb d_Ad_init_29 (by decide +kernel) ?_
  have hz := hS.1.1
  refine sx_newa (cells' := 4) (slots' := 40) hx hb hG hts rfl (Or.inl rfl) (by decide +kernel) (by decide) (by decide) rfl rfl (Nat.le_of_ble_eq_true rfl) (Nat.le_of_ble_eq_true rfl) hS d_Ad_init_31 (fun q31 H31 e0 a0' l0 y0 hJ hk hS => ?_)
  have hA := hA.kept hJ
  have hO := hO.grown hk
  have hA : sx_AR g H31 [(q31, .long, 10), (q23, .long, 10), (q15, .long, 10), (q7, .long, 10)] := hA.cons a0' l0
  have z_q31 : H0.size ≤ q31 := e0 ▸ hz
  have hZ := sx_consZ hZ z_q31
  refine sx_putF EE hin hO rfl i_Ad t_Ad tok_Ad n_Ad 3 (by decide) rfl fl_Ad_21 (ty := t_Ad 3) (by decide +kernel) rfl rfl (Nat.le_of_ble_eq_true rfl) hEo hS d_Ad_init_33 (fun H33 locs hO hJ hs hS => ?_)
  have hA := hA.kept hJ
  have hO : va_P D classes [(o, .inr (5, [.ref q7, .ref q15, .ref q23, .ref q31]))] H33 := hO
  have hr : ∀ x ∈ ([q7, q15, q23, q31] : List Nat), H0.size ≤ x := by
    intro x hx
    simp only [List.mem_cons, List.not_mem_nil, or_false] at hx
    rcases hx with rfl | rfl | rfl | rfl <;> first | exact Nat.le_refl _ | assumption
  refine hret _ _ _ _ ⟨(fun k => ([q7, q15, q23, q31] : List Nat).getD k H0.size), hO, fun z hz => hA z (by simp only [List.mem_cons, List.not_mem_nil, or_false] at hz ⊢; rcases hz with rfl | rfl | rfl | rfl <;> simp), sx_ge hr⟩ hS.1 hS.2.2 d_Ad_init_36
abbrev rm_F_init : Room := { frames := 1, cells := 7, slots := 70, locals := 13 }
set_option maxHeartbeats 4000000 in
set_option maxRecDepth 100000 in
theorem c_F_init {l : Launch} {D : va_G} {g : ClassId → FieldType → Prop} {E : Nat → Prop} {H0 : Heap} {o : Nat} (hEo : E o) (hEn : ∀ q, H0.size ≤ q → E q) (hO : va_P D classes [(o, .inr (2, [.null, .null, .null, .null, .null, .null, .null]))] H0) : Met l y_F_init (.code y_F_init b_F_init 1 none :: G_) rm_F_init (sx_Pc [.ref o] H0 D g) (va_Qv (fun _ : Unit => True) (fun _ t => sx_J g E H0 t.heap ∧ ∃ r : Nat → Nat, va_P D classes [(o, .inr (2, [.ref (r 0), .ref (r 1), .ref (r 2), .ref (r 3), .ref (r 4), .ref (r 5), .ref (r 6)]))] t.heap ∧ sx_AR g t.heap [(r 0, .long, 10), (r 1, .long, 10), (r 2, .long, 10), (r 3, .long, 10), (r 4, .long, 10), (r 5, .long, 10), (r 6, .long, 10)] ∧ (∀ k, H0.size ≤ r k)) E) 7 70 E := by
  refine sx_mva (own := R_F) (P := fun H => ∃ r : Nat → Nat, va_P D classes [(o, .inr (2, [.ref (r 0), .ref (r 1), .ref (r 2), .ref (r 3), .ref (r 4), .ref (r 5), .ref (r 6)]))] H ∧ sx_AR g H [(r 0, .long, 10), (r 1, .long, 10), (r 2, .long, 10), (r 3, .long, 10), (r 4, .long, 10), (r 5, .long, 10), (r 6, .long, 10)] ∧ (∀ k, H0.size ≤ r k)) (by decide) rfl (Nat.le_of_ble_eq_true rfl) ?_
  intro p e s m args below meth c Q ls EE hin hl hret
  obtain ⟨hx, hb, hml, hown, hts, hG, hK⟩ := id EE
  have hS : sx_S g E E H0 H0 [] := sx_S.rf
  have hA : sx_AR g H0 [] := sx_AR.nil
  have hZ : ∀ x ∈ ([] : List Nat), H0.size ≤ x := sx_nilZ
  have ho : o < H0.size := (hO 0 _ rfl).lt
  have hl : lv_has ls 1 [(0, .ref o)] := hl
  refine lv_aload_n hx hb d_F_init_0 rfl (lv_at hl 0 rfl) ?_
  refine W.objInit hx hb hown (hts (.methodLink R_F 3 objectInit) (by decide +kernel)) (hts (.instanceMethod objectInit) (by decide +kernel)) (hts (.code objectInit ⟨#[0xb1]⟩ 1 none) (by decide +kernel)) rfl (by rw [hml]; exact hl.1) rfl d_F_init_1 (Nat.le_of_ble_eq_true rfl) (Nat.le_of_ble_eq_true rfl) ?_
  refine W.eq (g2 := F0 m 4 ls []) rfl ?_
  refine lv_aload_n hx hb d_F_init_4 rfl (lv_at hl 0 rfl) ?_
  refine lv_bipush (v := nI 10) hx hb d_F_init_5 (by decide +kernel) ?_
  have hz := hS.1.1
  refine sx_newa (cells' := 1) (slots' := 10) hx hb hG hts rfl (Or.inl rfl) (by decide +kernel) (by decide) (by decide) rfl rfl (Nat.le_of_ble_eq_true rfl) (Nat.le_of_ble_eq_true rfl) hS d_F_init_7 (fun q7 H7 e0 a0' l0 y0 hJ hk hS => ?_)
  have hA := hA.kept hJ
  have hO := hO.grown hk
  have hA : sx_AR g H7 [(q7, .long, 10)] := hA.cons a0' l0
  have z_q7 : H0.size ≤ q7 := e0 ▸ hz
  have hZ := sx_consZ hZ z_q7
  refine sx_putF EE hin hO rfl i_F t_F tok_F n_F 0 (by decide) rfl fl_F_11 (ty := t_F 0) (by decide +kernel) rfl rfl (Nat.le_of_ble_eq_true rfl) hEo hS d_F_init_9 (fun H9 locs hO hJ hs hS => ?_)
  have hA := hA.kept hJ
  have hO : va_P D classes [(o, .inr (2, [.ref q7, .null, .null, .null, .null, .null, .null]))] H9 := hO
  refine lv_aload_n hx hb d_F_init_12 rfl (lv_at hl 0 rfl) ?_
  refine lv_bipush (v := nI 10) hx hb d_F_init_13 (by decide +kernel) ?_
  have hz := hS.1.1
  refine sx_newa (cells' := 2) (slots' := 20) hx hb hG hts rfl (Or.inl rfl) (by decide +kernel) (by decide) (by decide) rfl rfl (Nat.le_of_ble_eq_true rfl) (Nat.le_of_ble_eq_true rfl) hS d_F_init_15 (fun q15 H15 e0 a0' l0 y0 hJ hk hS => ?_)
  have hA := hA.kept hJ
  have hO := hO.grown hk
  have hA : sx_AR g H15 [(q15, .long, 10), (q7, .long, 10)] := hA.cons a0' l0
  have z_q15 : H0.size ≤ q15 := e0 ▸ hz
  have hZ := sx_consZ hZ z_q15
  refine sx_putF EE hin hO rfl i_F t_F tok_F n_F 1 (by decide) rfl fl_F_15 (ty := t_F 1) (by decide +kernel) rfl rfl (Nat.le_of_ble_eq_true rfl) hEo hS d_F_init_17 (fun H17 locs hO hJ hs hS => ?_)
  have hA := hA.kept hJ
  have hO : va_P D classes [(o, .inr (2, [.ref q7, .ref q15, .null, .null, .null, .null, .null]))] H17 := hO
  refine lv_aload_n hx hb d_F_init_20 rfl (lv_at hl 0 rfl) ?_
  refine lv_bipush (v := nI 10) hx hb d_F_init_21 (by decide +kernel) ?_
  have hz := hS.1.1
  refine sx_newa (cells' := 3) (slots' := 30) hx hb hG hts rfl (Or.inl rfl) (by decide +kernel) (by decide) (by decide) rfl rfl (Nat.le_of_ble_eq_true rfl) (Nat.le_of_ble_eq_true rfl) hS d_F_init_23 (fun q23 H23 e0 a0' l0 y0 hJ hk hS => ?_)
  have hA := hA.kept hJ
  have hO := hO.grown hk
  have hA : sx_AR g H23 [(q23, .long, 10), (q15, .long, 10), (q7, .long, 10)] := hA.cons a0' l0
  have z_q23 : H0.size ≤ q23 := e0 ▸ hz
  have hZ := sx_consZ hZ z_q23
  refine sx_putF EE hin hO rfl i_F t_F tok_F n_F 2 (by decide) rfl fl_F_18 (ty := t_F 2) (by decide +kernel) rfl rfl (Nat.le_of_ble_eq_true rfl) hEo hS d_F_init_25 (fun H25 locs hO hJ hs hS => ?_)
  have hA := hA.kept hJ
  have hO : va_P D classes [(o, .inr (2, [.ref q7, .ref q15, .ref q23, .null, .null, .null, .null]))] H25 := hO
  refine lv_aload_n hx hb d_F_init_28 rfl (lv_at hl 0 rfl) ?_
  refine lv_bipush (v := nI 10) hx hb d_F_init_29 (by decide +kernel) ?_
  have hz := hS.1.1
  refine sx_newa (cells' := 4) (slots' := 40) hx hb hG hts rfl (Or.inl rfl) (by decide +kernel) (by decide) (by decide) rfl rfl (Nat.le_of_ble_eq_true rfl) (Nat.le_of_ble_eq_true rfl) hS d_F_init_31 (fun q31 H31 e0 a0' l0 y0 hJ hk hS => ?_)
  have hA := hA.kept hJ
  have hO := hO.grown hk
  have hA : sx_AR g H31 [(q31, .long, 10), (q23, .long, 10), (q15, .long, 10), (q7, .long, 10)] := hA.cons a0' l0
  have z_q31 : H0.size ≤ q31 := e0 ▸ hz
  have hZ := sx_consZ hZ z_q31
  refine sx_putF EE hin hO rfl i_F t_F tok_F n_F 3 (by decide) rfl fl_F_21 (ty := t_F 3) (by decide +kernel) rfl rfl (Nat.le_of_ble_eq_true rfl) hEo hS d_F_init_33 (fun H33 locs hO hJ hs hS => ?_)
  have hA := hA.kept hJ
  have hO : va_P D classes [(o, .inr (2, [.ref q7, .ref q15, .ref q23, .ref q31, .null, .null, .null]))] H33 := hO
  refine lv_aload_n hx hb d_F_init_36 rfl (lv_at hl 0 rfl) ?_
  refine lv_bipush (v := nI 10) hx hb d_F_init_37 (by decide +kernel) ?_
  have hz := hS.1.1
  refine sx_newa (cells' := 5) (slots' := 50) hx hb hG hts rfl (Or.inl rfl) (by decide +kernel) (by decide) (by decide) rfl rfl (Nat.le_of_ble_eq_true rfl) (Nat.le_of_ble_eq_true rfl) hS d_F_init_39 (fun q39 H39 e0 a0' l0 y0 hJ hk hS => ?_)
  have hA := hA.kept hJ
  have hO := hO.grown hk
  have hA : sx_AR g H39 [(q39, .long, 10), (q31, .long, 10), (q23, .long, 10), (q15, .long, 10), (q7, .long, 10)] := hA.cons a0' l0
  have z_q39 : H0.size ≤ q39 := e0 ▸ hz
  have hZ := sx_consZ hZ z_q39
  refine sx_putF EE hin hO rfl i_F t_F tok_F n_F 4 (by decide) rfl fl_F_24 (ty := t_F 4) (by decide +kernel) rfl rfl (Nat.le_of_ble_eq_true rfl) hEo hS d_F_init_41 (fun H41 locs hO hJ hs hS => ?_)
  have hA := hA.kept hJ
  have hO : va_P D classes [(o, .inr (2, [.ref q7, .ref q15, .ref q23, .ref q31, .ref q39, .null, .null]))] H41 := hO
  refine lv_aload_n hx hb d_F_init_44 rfl (lv_at hl 0 rfl) ?_
  refine lv_bipush (v := nI 10) hx hb d_F_init_45 (by decide +kernel) ?_
  have hz := hS.1.1
  refine sx_newa (cells' := 6) (slots' := 60) hx hb hG hts rfl (Or.inl rfl) (by decide +kernel) (by decide) (by decide) rfl rfl (Nat.le_of_ble_eq_true rfl) (Nat.le_of_ble_eq_true rfl) hS d_F_init_47 (fun q47 H47 e0 a0' l0 y0 hJ hk hS => ?_)
  have hA := hA.kept hJ
  have hO := hO.grown hk
  have hA : sx_AR g H47 [(q47, .long, 10), (q39, .long, 10), (q31, .long, 10), (q23, .long, 10), (q15, .long, 10), (q7, .long, 10)] := hA.cons a0' l0
  have z_q47 : H0.size ≤ q47 := e0 ▸ hz
  have hZ := sx_consZ hZ z_q47
  refine sx_putF EE hin hO rfl i_F t_F tok_F n_F 5 (by decide) rfl fl_F_27 (ty := t_F 5) (by decide +kernel) rfl rfl (Nat.le_of_ble_eq_true rfl) hEo hS d_F_init_49 (fun H49 locs hO hJ hs hS => ?_)
  have hA := hA.kept hJ
  have hO : va_P D classes [(o, .inr (2, [.ref q7, .ref q15, .ref q23, .ref q31, .ref q39, .ref q47, .null]))] H49 := hO
  refine lv_aload_n hx hb d_F_init_52 rfl (lv_at hl 0 rfl) ?_
  refine lv_bipush (v := nI 10) hx hb d_F_init_53 (by decide +kernel) ?_
  have hz := hS.1.1
  refine sx_newa (cells' := 7) (slots' := 70) hx hb hG hts rfl (Or.inl rfl) (by decide +kernel) (by decide) (by decide) rfl rfl (Nat.le_of_ble_eq_true rfl) (Nat.le_of_ble_eq_true rfl) hS d_F_init_55 (fun q55 H55 e0 a0' l0 y0 hJ hk hS => ?_)
  have hA := hA.kept hJ
  have hO := hO.grown hk
  have hA : sx_AR g H55 [(q55, .long, 10), (q47, .long, 10), (q39, .long, 10), (q31, .long, 10), (q23, .long, 10), (q15, .long, 10), (q7, .long, 10)] := hA.cons a0' l0
  have z_q55 : H0.size ≤ q55 := e0 ▸ hz
  have hZ := sx_consZ hZ z_q55
  refine sx_putF EE hin hO rfl i_F t_F tok_F n_F 6 (by decide) rfl fl_F_30 (ty := t_F 6) (by decide +kernel) rfl rfl (Nat.le_of_ble_eq_true rfl) hEo hS d_F_init_57 (fun H57 locs hO hJ hs hS => ?_)
  have hA := hA.kept hJ
  have hO : va_P D classes [(o, .inr (2, [.ref q7, .ref q15, .ref q23, .ref q31, .ref q39, .ref q47, .ref q55]))] H57 := hO
  have hr : ∀ x ∈ ([q7, q15, q23, q31, q39, q47, q55] : List Nat), H0.size ≤ x := by
    intro x hx
    simp only [List.mem_cons, List.not_mem_nil, or_false] at hx
    rcases hx with rfl | rfl | rfl | rfl | rfl | rfl | rfl <;> first | exact Nat.le_refl _ | assumption
  refine hret _ _ _ _ ⟨(fun k => ([q7, q15, q23, q31, q39, q47, q55] : List Nat).getD k H0.size), hO, fun z hz => hA z (by simp only [List.mem_cons, List.not_mem_nil, or_false] at hz ⊢; rcases hz with rfl | rfl | rfl | rfl | rfl | rfl | rfl <;> simp), sx_ge hr⟩ hS.1 hS.2.2 d_F_init_60
abbrev rm_Ha_init : Room := { frames := 1, cells := 3, slots := 216, locals := 13 }
set_option maxHeartbeats 4000000 in
set_option maxRecDepth 100000 in
theorem c_Ha_init {l : Launch} {D : va_G} {g : ClassId → FieldType → Prop} {E : Nat → Prop} {H0 : Heap} {o : Nat} (hEo : E o) (hEn : ∀ q, H0.size ≤ q → E q) (hO : va_P D classes [(o, .inr (7, [.null, .null, .null, .int 0, .int 0]))] H0) : Met l y_Ha_init (.code y_Ha_init b_Ha_init 1 none :: G_) rm_Ha_init (sx_Pc [.ref o] H0 D g) (va_Qv (fun _ : Unit => True) (fun _ t => sx_J g E H0 t.heap ∧ ∃ r : Nat → Nat, va_P D classes [(o, .inr (7, [.ref (r 0), .ref (r 1), .ref (r 2), .int 0, .int 0]))] t.heap ∧ sx_AR g t.heap [(r 0, .long, 8), (r 1, .long, 80), (r 2, .byte, 128)] ∧ (∀ k, H0.size ≤ r k)) E) 3 216 E := by
  refine sx_mva (own := R_Ha) (P := fun H => ∃ r : Nat → Nat, va_P D classes [(o, .inr (7, [.ref (r 0), .ref (r 1), .ref (r 2), .int 0, .int 0]))] H ∧ sx_AR g H [(r 0, .long, 8), (r 1, .long, 80), (r 2, .byte, 128)] ∧ (∀ k, H0.size ≤ r k)) (by decide) rfl (Nat.le_of_ble_eq_true rfl) ?_
  intro p e s m args below meth c Q ls EE hin hl hret
  obtain ⟨hx, hb, hml, hown, hts, hG, hK⟩ := id EE
  have hS : sx_S g E E H0 H0 [] := sx_S.rf
  have hA : sx_AR g H0 [] := sx_AR.nil
  have hZ : ∀ x ∈ ([] : List Nat), H0.size ≤ x := sx_nilZ
  have ho : o < H0.size := (hO 0 _ rfl).lt
  have hl : lv_has ls 1 [(0, .ref o)] := hl
  refine lv_aload_n hx hb d_Ha_init_0 rfl (lv_at hl 0 rfl) ?_
  refine W.objInit hx hb hown (hts (.methodLink R_Ha 1 objectInit) (by decide +kernel)) (hts (.instanceMethod objectInit) (by decide +kernel)) (hts (.code objectInit ⟨#[0xb1]⟩ 1 none) (by decide +kernel)) rfl (by rw [hml]; exact hl.1) rfl d_Ha_init_1 (Nat.le_of_ble_eq_true rfl) (Nat.le_of_ble_eq_true rfl) ?_
  refine W.eq (g2 := F0 m 4 ls []) rfl ?_
  refine lv_aload_n hx hb d_Ha_init_4 rfl (lv_at hl 0 rfl) ?_
  refine lv_bipush (v := nI 8) hx hb d_Ha_init_5 (by decide +kernel) ?_
  have hz := hS.1.1
  refine sx_newa (cells' := 1) (slots' := 8) hx hb hG hts rfl (Or.inl rfl) (by decide +kernel) (by decide) (by decide) rfl rfl (Nat.le_of_ble_eq_true rfl) (Nat.le_of_ble_eq_true rfl) hS d_Ha_init_7 (fun q7 H7 e0 a0' l0 y0 hJ hk hS => ?_)
  have hA := hA.kept hJ
  have hO := hO.grown hk
  have hA : sx_AR g H7 [(q7, .long, 8)] := hA.cons a0' l0
  have z_q7 : H0.size ≤ q7 := e0 ▸ hz
  have hZ := sx_consZ hZ z_q7
  refine sx_putF EE hin hO rfl i_Ha t_Ha tok_Ha n_Ha 0 (by decide) rfl fl_Ha_7 (ty := t_Ha 0) (by decide +kernel) rfl rfl (Nat.le_of_ble_eq_true rfl) hEo hS d_Ha_init_9 (fun H9 locs hO hJ hs hS => ?_)
  have hA := hA.kept hJ
  have hO : va_P D classes [(o, .inr (7, [.ref q7, .null, .null, .int 0, .int 0]))] H9 := hO
  refine lv_aload_n hx hb d_Ha_init_12 rfl (lv_at hl 0 rfl) ?_
  refine lv_bipush (v := nI 80) hx hb d_Ha_init_13 (by decide +kernel) ?_
  have hz := hS.1.1
  refine sx_newa (cells' := 2) (slots' := 88) hx hb hG hts rfl (Or.inl rfl) (by decide +kernel) (by decide) (by decide) rfl rfl (Nat.le_of_ble_eq_true rfl) (Nat.le_of_ble_eq_true rfl) hS d_Ha_init_15 (fun q15 H15 e0 a0' l0 y0 hJ hk hS => ?_)
  have hA := hA.kept hJ
  have hO := hO.grown hk
  have hA : sx_AR g H15 [(q15, .long, 80), (q7, .long, 8)] := hA.cons a0' l0
  have z_q15 : H0.size ≤ q15 := e0 ▸ hz
  have hZ := sx_consZ hZ z_q15
  refine sx_putF EE hin hO rfl i_Ha t_Ha tok_Ha n_Ha 1 (by decide) rfl fl_Ha_13 (ty := t_Ha 1) (by decide +kernel) rfl rfl (Nat.le_of_ble_eq_true rfl) hEo hS d_Ha_init_17 (fun H17 locs hO hJ hs hS => ?_)
  have hA := hA.kept hJ
  have hO : va_P D classes [(o, .inr (7, [.ref q7, .ref q15, .null, .int 0, .int 0]))] H17 := hO
  refine lv_aload_n hx hb d_Ha_init_20 rfl (lv_at hl 0 rfl) ?_
  refine lv_sipush (v := nI 128) hx hb d_Ha_init_21 (by decide +kernel) ?_
  have hz := hS.1.1
  refine sx_newa (cells' := 3) (slots' := 216) hx hb hG hts rfl (Or.inr (Or.inl rfl)) (by decide +kernel) (by decide) (by decide) rfl rfl (Nat.le_of_ble_eq_true rfl) (Nat.le_of_ble_eq_true rfl) hS d_Ha_init_24 (fun q24 H24 e0 a0' l0 y0 hJ hk hS => ?_)
  have hA := hA.kept hJ
  have hO := hO.grown hk
  have hA : sx_AR g H24 [(q24, .byte, 128), (q15, .long, 80), (q7, .long, 8)] := hA.cons a0' l0
  have z_q24 : H0.size ≤ q24 := e0 ▸ hz
  have hZ := sx_consZ hZ z_q24
  refine sx_putF EE hin hO rfl i_Ha t_Ha tok_Ha n_Ha 2 (by decide) rfl fl_Ha_16 (ty := t_Ha 2) (by decide +kernel) rfl rfl (Nat.le_of_ble_eq_true rfl) hEo hS d_Ha_init_26 (fun H26 locs hO hJ hs hS => ?_)
  have hA := hA.kept hJ
  have hO : va_P D classes [(o, .inr (7, [.ref q7, .ref q15, .ref q24, .int 0, .int 0]))] H26 := hO
  have hr : ∀ x ∈ ([q7, q15, q24, H0.size, H0.size] : List Nat), H0.size ≤ x := by
    intro x hx
    simp only [List.mem_cons, List.not_mem_nil, or_false] at hx
    rcases hx with rfl | rfl | rfl | rfl | rfl <;> first | exact Nat.le_refl _ | assumption
  refine hret _ _ _ _ ⟨(fun k => ([q7, q15, q24, H0.size, H0.size] : List Nat).getD k H0.size), hO, fun z hz => hA z (by simp only [List.mem_cons, List.not_mem_nil, or_false] at hz ⊢; rcases hz with rfl | rfl | rfl <;> simp), sx_ge hr⟩ hS.1 hS.2.2 d_Ha_init_29
abbrev rm_Or_init : Room := { frames := 1, cells := 1, slots := 64, locals := 13 }
set_option maxHeartbeats 4000000 in
set_option maxRecDepth 100000 in
theorem c_Or_init {l : Launch} {D : va_G} {g : ClassId → FieldType → Prop} {E : Nat → Prop} {H0 : Heap} {o : Nat} (hEo : E o) (hEn : ∀ q, H0.size ≤ q → E q) (hO : va_P D classes [(o, .inr (8, [.null]))] H0) : Met l y_Or_init (.code y_Or_init b_Or_init 1 none :: G_) rm_Or_init (sx_Pc [.ref o] H0 D g) (va_Qv (fun _ : Unit => True) (fun _ t => sx_J g E H0 t.heap ∧ ∃ r : Nat → Nat, va_P D classes [(o, .inr (8, [.ref (r 0)]))] t.heap ∧ sx_AR g t.heap [(r 0, .long, 64)] ∧ (∀ k, H0.size ≤ r k)) E) 1 64 E := by
  refine sx_mva (own := R_Or) (P := fun H => ∃ r : Nat → Nat, va_P D classes [(o, .inr (8, [.ref (r 0)]))] H ∧ sx_AR g H [(r 0, .long, 64)] ∧ (∀ k, H0.size ≤ r k)) (by decide) rfl (Nat.le_of_ble_eq_true rfl) ?_
  intro p e s m args below meth c Q ls EE hin hl hret
  obtain ⟨hx, hb, hml, hown, hts, hG, hK⟩ := id EE
  have hS : sx_S g E E H0 H0 [] := sx_S.rf
  have hA : sx_AR g H0 [] := sx_AR.nil
  have hZ : ∀ x ∈ ([] : List Nat), H0.size ≤ x := sx_nilZ
  have ho : o < H0.size := (hO 0 _ rfl).lt
  have hl : lv_has ls 1 [(0, .ref o)] := hl
  refine lv_aload_n hx hb d_Or_init_0 rfl (lv_at hl 0 rfl) ?_
  refine W.objInit hx hb hown (hts (.methodLink R_Or 3 objectInit) (by decide +kernel)) (hts (.instanceMethod objectInit) (by decide +kernel)) (hts (.code objectInit ⟨#[0xb1]⟩ 1 none) (by decide +kernel)) rfl (by rw [hml]; exact hl.1) rfl d_Or_init_1 (Nat.le_of_ble_eq_true rfl) (Nat.le_of_ble_eq_true rfl) ?_
  refine W.eq (g2 := F0 m 4 ls []) rfl ?_
  refine lv_aload_n hx hb d_Or_init_4 rfl (lv_at hl 0 rfl) ?_
  refine lv_bipush (v := nI 64) hx hb d_Or_init_5 (by decide +kernel) ?_
  have hz := hS.1.1
  refine sx_newa (cells' := 1) (slots' := 64) hx hb hG hts rfl (Or.inl rfl) (by decide +kernel) (by decide) (by decide) rfl rfl (Nat.le_of_ble_eq_true rfl) (Nat.le_of_ble_eq_true rfl) hS d_Or_init_7 (fun q7 H7 e0 a0' l0 y0 hJ hk hS => ?_)
  have hA := hA.kept hJ
  have hO := hO.grown hk
  have hA : sx_AR g H7 [(q7, .long, 64)] := hA.cons a0' l0
  have z_q7 : H0.size ≤ q7 := e0 ▸ hz
  have hZ := sx_consZ hZ z_q7
  refine sx_putF EE hin hO rfl i_Or t_Or tok_Or n_Or 0 (by decide) rfl fl_Or_11 (ty := t_Or 0) (by decide +kernel) rfl rfl (Nat.le_of_ble_eq_true rfl) hEo hS d_Or_init_9 (fun H9 locs hO hJ hs hS => ?_)
  have hA := hA.kept hJ
  have hO : va_P D classes [(o, .inr (8, [.ref q7]))] H9 := hO
  have hr : ∀ x ∈ ([q7] : List Nat), H0.size ≤ x := by
    intro x hx
    simp only [List.mem_cons, List.not_mem_nil, or_false] at hx
    rcases hx with rfl <;> first | exact Nat.le_refl _ | assumption
  refine hret _ _ _ _ ⟨(fun k => ([q7] : List Nat).getD k H0.size), hO, fun z hz => hA z (by simp only [List.mem_cons, List.not_mem_nil, or_false] at hz ⊢; rcases hz with rfl <;> simp), sx_ge hr⟩ hS.1 hS.2.2 d_Or_init_12
abbrev rm_Ro_init : Room := { frames := 1, cells := 1, slots := 1024, locals := 13 }
set_option maxHeartbeats 4000000 in
set_option maxRecDepth 100000 in
theorem c_Ro_init {l : Launch} {D : va_G} {g : ClassId → FieldType → Prop} {E : Nat → Prop} {H0 : Heap} {o : Nat} (hEo : E o) (hEn : ∀ q, H0.size ≤ q → E q) (hO : va_P D classes [(o, .inr (9, [.null, .int 0]))] H0) : Met l y_Ro_init (.code y_Ro_init b_Ro_init 1 none :: G_) rm_Ro_init (sx_Pc [.ref o] H0 D g) (va_Qv (fun _ : Unit => True) (fun _ t => sx_J g E H0 t.heap ∧ ∃ r : Nat → Nat, va_P D classes [(o, .inr (9, [.ref (r 0), .int 0]))] t.heap ∧ sx_AR g t.heap [(r 0, .byte, 1024)] ∧ (∀ k, H0.size ≤ r k)) E) 1 1024 E := by
  refine sx_mva (own := R_Ro) (P := fun H => ∃ r : Nat → Nat, va_P D classes [(o, .inr (9, [.ref (r 0), .int 0]))] H ∧ sx_AR g H [(r 0, .byte, 1024)] ∧ (∀ k, H0.size ≤ r k)) (by decide) rfl (Nat.le_of_ble_eq_true rfl) ?_
  intro p e s m args below meth c Q ls EE hin hl hret
  obtain ⟨hx, hb, hml, hown, hts, hG, hK⟩ := id EE
  have hS : sx_S g E E H0 H0 [] := sx_S.rf
  have hA : sx_AR g H0 [] := sx_AR.nil
  have hZ : ∀ x ∈ ([] : List Nat), H0.size ≤ x := sx_nilZ
  have ho : o < H0.size := (hO 0 _ rfl).lt
  have hl : lv_has ls 1 [(0, .ref o)] := hl
  refine lv_aload_n hx hb d_Ro_init_0 rfl (lv_at hl 0 rfl) ?_
  refine W.objInit hx hb hown (hts (.methodLink R_Ro 3 objectInit) (by decide +kernel)) (hts (.instanceMethod objectInit) (by decide +kernel)) (hts (.code objectInit ⟨#[0xb1]⟩ 1 none) (by decide +kernel)) rfl (by rw [hml]; exact hl.1) rfl d_Ro_init_1 (Nat.le_of_ble_eq_true rfl) (Nat.le_of_ble_eq_true rfl) ?_
  refine W.eq (g2 := F0 m 4 ls []) rfl ?_
  refine lv_aload_n hx hb d_Ro_init_4 rfl (lv_at hl 0 rfl) ?_
  refine lv_sipush (v := nI 1024) hx hb d_Ro_init_5 (by decide +kernel) ?_
  have hz := hS.1.1
  refine sx_newa (cells' := 1) (slots' := 1024) hx hb hG hts rfl (Or.inr (Or.inl rfl)) (by decide +kernel) (by decide) (by decide) rfl rfl (Nat.le_of_ble_eq_true rfl) (Nat.le_of_ble_eq_true rfl) hS d_Ro_init_8 (fun q8 H8 e0 a0' l0 y0 hJ hk hS => ?_)
  have hA := hA.kept hJ
  have hO := hO.grown hk
  have hA : sx_AR g H8 [(q8, .byte, 1024)] := hA.cons a0' l0
  have z_q8 : H0.size ≤ q8 := e0 ▸ hz
  have hZ := sx_consZ hZ z_q8
  refine sx_put EE hO rfl i_Ro t_Ro tok_Ro n_Ro 0 (by decide) rfl fl_Ro_11 (ty := t_Ro 0) (by decide +kernel) rfl rfl (Nat.le_of_ble_eq_true rfl) hEo hS d_Ro_init_10 (fun H10 locs hO hJ hs hS => ?_)
  have hA := hA.kept hJ
  have hO : va_P D classes [(o, .inr (9, [.ref q8, .int 0]))] H10 := hO
  have hr : ∀ x ∈ ([q8, H0.size] : List Nat), H0.size ≤ x := by
    intro x hx
    simp only [List.mem_cons, List.not_mem_nil, or_false] at hx
    rcases hx with rfl | rfl <;> first | exact Nat.le_refl _ | assumption
  refine hret _ _ _ _ ⟨(fun k => ([q8, H0.size] : List Nat).getD k H0.size), hO, fun z hz => hA z (by simp only [List.mem_cons, List.not_mem_nil, or_false] at hz ⊢; rcases hz with rfl <;> simp), sx_ge hr⟩ hS.1 hS.2.2 d_Ro_init_13
