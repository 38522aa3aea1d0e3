def mrr (b : Nat) : Nat → Nat := fun k => if k < 9 then b + (k - 1) else b + (k - 5)
def mX0 (b : Nat) (X : vM) : vM := (stI (stI (stI (stI (stI (stI (stI (stI X (b + 34) 0 (nI 54253)) (b + 34) 1 (nI 23797)) (b + 34) 2 (nI 25370)) (b + 34) 3 (nI 22546)) (b + 34) 4 (nI 40150)) (b + 34) 5 (nI 41719)) (b + 34) 6 (nI 63966)) (b + 34) 7 (nI 5342))
theorem mrr_inj (b : Nat) : MInj (mrr b) := by
  have h : ∀ i ∈ mIx, ∀ j ∈ mIx, (if i < 9 then i - 1 else i - 5) = (if j < 9 then j - 1 else j - 5) → i = j := by decide +kernel
  intro i hi j hj e
  refine h i hi j hj ?_
  unfold mrr at e
  by_cases h1 : i < 9
  · rw [if_pos h1] at e ⊢
    by_cases h2 : j < 9
    · rw [if_pos h2] at e ⊢; omega
    · rw [if_neg h2] at e ⊢; omega
  · rw [if_neg h1] at e ⊢
    by_cases h2 : j < 9
    · rw [if_pos h2] at e ⊢; omega
    · rw [if_neg h2] at e ⊢; omega
theorem mrr_ge (b : Nat) : ∀ q ∈ mo_arr, b ≤ mrr b q.1 ∧ mrr b q.1 < b + 48 := by
  have h : ∀ q ∈ mo_arr, (if q.1 < 9 then q.1 - 1 else q.1 - 5) < 48 := by decide +kernel
  intro q hq
  have h1 := h q hq
  unfold mrr
  by_cases h2 : q.1 < 9
  · rw [if_pos h2] at h1 ⊢; omega
  · rw [if_neg h2] at h1 ⊢; omega
def up_M (D : va_G) (g : ClassId → FieldType → Prop) (b o : Nat) (X : vM) (H : Heap) : Prop := b + 48 ≤ H.size ∧ va_P D classes [(o, .inr (0, mo_fs (mrr b) (fun _ => 0)))] H ∧ (∀ q ∈ mo_arr, sx_A g q.2.1 H (mrr b q.1) q.2.2) ∧ mm g H = LF_M_init (mX0 b X) (mrr b)
theorem mo_sub : ∀ q ∈ mo_wr, q ∈ mo_arr := by decide +kernel
set_option maxHeartbeats 4000000 in
set_option maxRecDepth 100000 in
theorem u_M_init {l : Launch} {D : va_G} {g : ClassId → FieldType → Prop} {E : Nat → Prop} {H0 : Heap} {o b : Nat} {X : vM} (hEo : E o) (hEn : ∀ q, b ≤ q → E q) (hO : va_P D classes [(o, .inr (0, [.int 0, .null, .null, .null, .null, .int 0, .int 0, .int 0, .int 0, .null, .null, .null, .null, .null, .null, .null, .null, .null, .null, .null, .null, .null, .null, .null, .null, .null, .null, .null, .null, .null, .null, .null, .null, .null, .null, .null, .null, .null, .null, .null, .null, .null, .null, .null, .null, .null, .null, .null, .null, .null, .null, .null, .null]))] H0) (hsz : H0.size = b) (hV : mm g H0 = X) : Met l y_M_init (.code y_M_init b_M_init 2 none :: G_) rm_M_init (sx_Pc [.ref o] H0 D g) (va_Qv (fun _ : Unit => True) (fun _ t => sx_J g E H0 t.heap ∧ up_M D g b o X t.heap) E) 48 201362 E := by
  refine sx_mva (own := R_M) (P := up_M D g b o X) (by decide) rfl (Nat.le_of_ble_eq_true rfl) ?_
  intro p e s m args below meth c Q ls EE hin hl hret
  obtain ⟨hx, hb, hml, hown, hts, hG, hK⟩ := id EE
  have hS : sx_S g E E H0 H0 [] := sx_S.rf
  have hA : sx_AR g H0 [] := sx_AR.nil
  have hB : obs_ D H0 b [] := obs_.nil
  have ho : o < b := hsz ▸ (hO 0 _ rfl).lt
  have hsz0 := hsz
  have hsz : H0.size = b + 0 := hsz
  have hle : ∀ k, b ≤ b + k := fun k => Nat.le_add_right b k
  have hl : lv_has ls 2 [(0, .ref o)] := hl
  refine lv_aload_n hx hb d_M_init_0 rfl (lv_at hl 0 rfl) ?_
  refine W.objInit hx hb hown (hts (.methodLink R_M 1 objectInit) (by decide +kernel)) (hts (.instanceMethod objectInit) (by decide +kernel)) (hts (.code objectInit ⟨#[0xb1]⟩ 1 none) (by decide +kernel)) rfl (by rw [hml]; exact hl.1) rfl d_M_init_1 (Nat.le_of_ble_eq_true rfl) (Nat.le_of_ble_eq_true rfl) ?_
  refine W.eq (g2 := F0 m 4 ls []) rfl ?_
  refine lv_aload_n hx hb d_M_init_4 rfl (lv_at hl 0 rfl) ?_
  refine lv_ldc (v := nI 65536) hx hb hown (hts (.constant R_M 7 (nI 65536)) (by decide +kernel)) d_M_init_5 ?_
  refine vx_newa (cells' := 1) (slots' := 65536) hx hb hG hts rfl (Or.inr (Or.inl rfl)) (by decide +kernel) (by decide) (by decide) rfl rfl (Nat.le_of_ble_eq_true rfl) (Nat.le_of_ble_eq_true rfl) hS hV d_M_init_7 (fun q H7 eq hz a_ l_ hJ hk hS hV => ?_)
  have e_ : b = q := hsz.symm.trans eq
  subst e_
  have hsz : H7.size = b + 1 := hz
  have hA := hA.kept hJ
  have hO := hO.grown hk
  have hB := hB.grown hk
  have hA := hA.cons a_ l_
  have hO0 := hO
  refine sx_putF EE hin hO rfl i_M t_M tok_M n_M 1 (by decide) rfl fl_M_8 (ty := t_M 1) (by decide +kernel) rfl rfl (Nat.le_of_ble_eq_true rfl) hEo hS d_M_init_9 (fun H9 locs hO hJ hs hS => ?_)
  have hO : va_P D classes [(o, .inr (0, [.int 0, .ref (b + 0), .null, .null, .null, .int 0, .int 0, .int 0, .int 0, .null, .null, .null, .null, .null, .null, .null, .null, .null, .null, .null, .null, .null, .null, .null, .null, .null, .null, .null, .null, .null, .null, .null, .null, .null, .null, .null, .null, .null, .null, .null, .null, .null, .null, .null, .null, .null, .null, .null, .null, .null, .null, .null, .null]))] H9 := hO
  have hV := (vx_obj hG hK.1 hO0 hO hs).trans hV
  have hA := hA.kept hJ
  have hB := hB.one hs ho
  have hsz := (sz_one hJ.1 hs (lt_sz ho hsz)).trans hsz
  refine lv_aload_n hx hb d_M_init_12 rfl (lv_at hl 0 rfl) ?_
  refine lv_ldc (v := nI 65536) hx hb hown (hts (.constant R_M 7 (nI 65536)) (by decide +kernel)) d_M_init_13 ?_
  refine vx_newa (cells' := 2) (slots' := 131072) hx hb hG hts rfl (Or.inr (Or.inl rfl)) (by decide +kernel) (by decide) (by decide) rfl rfl (Nat.le_of_ble_eq_true rfl) (Nat.le_of_ble_eq_true rfl) hS hV d_M_init_15 (fun q H15 eq hz a_ l_ hJ hk hS hV => ?_)
  have e_ : q = b + 1 := eq.symm.trans hsz
  subst e_
  have hsz : H15.size = b + 2 := hz
  have hA := hA.kept hJ
  have hO := hO.grown hk
  have hB := hB.grown hk
  have hA := hA.cons a_ l_
  have hO0 := hO
  refine sx_putF EE hin hO rfl i_M t_M tok_M n_M 2 (by decide) rfl fl_M_14 (ty := t_M 2) (by decide +kernel) rfl rfl (Nat.le_of_ble_eq_true rfl) hEo hS d_M_init_17 (fun H17 locs hO hJ hs hS => ?_)
  have hO : va_P D classes [(o, .inr (0, [.int 0, .ref (b + 0), .ref (b + 1), .null, .null, .int 0, .int 0, .int 0, .int 0, .null, .null, .null, .null, .null, .null, .null, .null, .null, .null, .null, .null, .null, .null, .null, .null, .null, .null, .null, .null, .null, .null, .null, .null, .null, .null, .null, .null, .null, .null, .null, .null, .null, .null, .null, .null, .null, .null, .null, .null, .null, .null, .null, .null]))] H17 := hO
  have hV := (vx_obj hG hK.1 hO0 hO hs).trans hV
  have hA := hA.kept hJ
  have hB := hB.one hs ho
  have hsz := (sz_one hJ.1 hs (lt_sz ho hsz)).trans hsz
  refine lv_aload_n hx hb d_M_init_20 rfl (lv_at hl 0 rfl) ?_
  refine lv_bipush (v := nI 64) hx hb d_M_init_21 (by decide +kernel) ?_
  refine vx_newa (cells' := 3) (slots' := 131136) hx hb hG hts rfl (Or.inr (Or.inl rfl)) (by decide +kernel) (by decide) (by decide) rfl rfl (Nat.le_of_ble_eq_true rfl) (Nat.le_of_ble_eq_true rfl) hS hV d_M_init_23 (fun q H23 eq hz a_ l_ hJ hk hS hV => ?_)
  have e_ : q = b + 2 := eq.symm.trans hsz
  subst e_
  have hsz : H23.size = b + 3 := hz
  have hA := hA.kept hJ
  have hO := hO.grown hk
  have hB := hB.grown hk
  have hA := hA.cons a_ l_
  have hO0 := hO
  refine sx_putF EE hin hO rfl i_M t_M tok_M n_M 3 (by decide) rfl fl_M_17 (ty := t_M 3) (by decide +kernel) rfl rfl (Nat.le_of_ble_eq_true rfl) hEo hS d_M_init_25 (fun H25 locs hO hJ hs hS => ?_)
  have hO : va_P D classes [(o, .inr (0, [.int 0, .ref (b + 0), .ref (b + 1), .ref (b + 2), .null, .int 0, .int 0, .int 0, .int 0, .null, .null, .null, .null, .null, .null, .null, .null, .null, .null, .null, .null, .null, .null, .null, .null, .null, .null, .null, .null, .null, .null, .null, .null, .null, .null, .null, .null, .null, .null, .null, .null, .null, .null, .null, .null, .null, .null, .null, .null, .null, .null, .null, .null]))] H25 := hO
  have hV := (vx_obj hG hK.1 hO0 hO hs).trans hV
  have hA := hA.kept hJ
  have hB := hB.one hs ho
  have hsz := (sz_one hJ.1 hs (lt_sz ho hsz)).trans hsz
  refine lv_aload_n hx hb d_M_init_28 rfl (lv_at hl 0 rfl) ?_
  refine lv_sipush (v := nI 3200) hx hb d_M_init_29 (by decide +kernel) ?_
  refine vx_newa (cells' := 4) (slots' := 134336) hx hb hG hts rfl (Or.inr (Or.inl rfl)) (by decide +kernel) (by decide) (by decide) rfl rfl (Nat.le_of_ble_eq_true rfl) (Nat.le_of_ble_eq_true rfl) hS hV d_M_init_32 (fun q H32 eq hz a_ l_ hJ hk hS hV => ?_)
  have e_ : q = b + 3 := eq.symm.trans hsz
  subst e_
  have hsz : H32.size = b + 4 := hz
  have hA := hA.kept hJ
  have hO := hO.grown hk
  have hB := hB.grown hk
  have hA := hA.cons a_ l_
  have hO0 := hO
  refine sx_putF EE hin hO rfl i_M t_M tok_M n_M 4 (by decide) rfl fl_M_20 (ty := t_M 4) (by decide +kernel) rfl rfl (Nat.le_of_ble_eq_true rfl) hEo hS d_M_init_34 (fun H34 locs hO hJ hs hS => ?_)
  have hO : va_P D classes [(o, .inr (0, [.int 0, .ref (b + 0), .ref (b + 1), .ref (b + 2), .ref (b + 3), .int 0, .int 0, .int 0, .int 0, .null, .null, .null, .null, .null, .null, .null, .null, .null, .null, .null, .null, .null, .null, .null, .null, .null, .null, .null, .null, .null, .null, .null, .null, .null, .null, .null, .null, .null, .null, .null, .null, .null, .null, .null, .null, .null, .null, .null, .null, .null, .null, .null, .null]))] H34 := hO
  have hV := (vx_obj hG hK.1 hO0 hO hs).trans hV
  have hA := hA.kept hJ
  have hB := hB.one hs ho
  have hsz := (sz_one hJ.1 hs (lt_sz ho hsz)).trans hsz
  refine lv_aload_n hx hb d_M_init_37 rfl (lv_at hl 0 rfl) ?_
  refine lv_bipush (v := nI 6) hx hb d_M_init_38 (by decide +kernel) ?_
  refine vx_newa (cells' := 5) (slots' := 134342) hx hb hG hts rfl (Or.inr (Or.inr rfl)) (by decide +kernel) (by decide) (by decide) rfl rfl (Nat.le_of_ble_eq_true rfl) (Nat.le_of_ble_eq_true rfl) hS hV d_M_init_40 (fun q H40 eq hz a_ l_ hJ hk hS hV => ?_)
  have e_ : q = b + 4 := eq.symm.trans hsz
  subst e_
  have hsz : H40.size = b + 5 := hz
  have hA := hA.kept hJ
  have hO := hO.grown hk
  have hB := hB.grown hk
  have hA := hA.cons a_ l_
  have hO0 := hO
  refine sx_putF EE hin hO rfl i_M t_M tok_M n_M 9 (by decide) rfl fl_M_23 (ty := t_M 9) (by decide +kernel) rfl rfl (Nat.le_of_ble_eq_true rfl) hEo hS d_M_init_42 (fun H42 locs hO hJ hs hS => ?_)
  have hO : va_P D classes [(o, .inr (0, [.int 0, .ref (b + 0), .ref (b + 1), .ref (b + 2), .ref (b + 3), .int 0, .int 0, .int 0, .int 0, .ref (b + 4), .null, .null, .null, .null, .null, .null, .null, .null, .null, .null, .null, .null, .null, .null, .null, .null, .null, .null, .null, .null, .null, .null, .null, .null, .null, .null, .null, .null, .null, .null, .null, .null, .null, .null, .null, .null, .null, .null, .null, .null, .null, .null, .null]))] H42 := hO
  have hV := (vx_obj hG hK.1 hO0 hO hs).trans hV
  have hA := hA.kept hJ
  have hB := hB.one hs ho
  have hsz := (sz_one hJ.1 hs (lt_sz ho hsz)).trans hsz
  refine lv_aload_n hx hb d_M_init_45 rfl (lv_at hl 0 rfl) ?_
  refine lv_bipush (v := nI 16) hx hb d_M_init_46 (by decide +kernel) ?_
  refine vx_newa (cells' := 6) (slots' := 134358) hx hb hG hts rfl (Or.inl rfl) (by decide +kernel) (by decide) (by decide) rfl rfl (Nat.le_of_ble_eq_true rfl) (Nat.le_of_ble_eq_true rfl) hS hV d_M_init_48 (fun q H48 eq hz a_ l_ hJ hk hS hV => ?_)
  have e_ : q = b + 5 := eq.symm.trans hsz
  subst e_
  have hsz : H48.size = b + 6 := hz
  have hA := hA.kept hJ
  have hO := hO.grown hk
  have hB := hB.grown hk
  have hA := hA.cons a_ l_
  have hO0 := hO
  refine sx_putF EE hin hO rfl i_M t_M tok_M n_M 10 (by decide) rfl fl_M_27 (ty := t_M 10) (by decide +kernel) rfl rfl (Nat.le_of_ble_eq_true rfl) hEo hS d_M_init_50 (fun H50 locs hO hJ hs hS => ?_)
  have hO : va_P D classes [(o, .inr (0, [.int 0, .ref (b + 0), .ref (b + 1), .ref (b + 2), .ref (b + 3), .int 0, .int 0, .int 0, .int 0, .ref (b + 4), .ref (b + 5), .null, .null, .null, .null, .null, .null, .null, .null, .null, .null, .null, .null, .null, .null, .null, .null, .null, .null, .null, .null, .null, .null, .null, .null, .null, .null, .null, .null, .null, .null, .null, .null, .null, .null, .null, .null, .null, .null, .null, .null, .null, .null]))] H50 := hO
  have hV := (vx_obj hG hK.1 hO0 hO hs).trans hV
  have hA := hA.kept hJ
  have hB := hB.one hs ho
  have hsz := (sz_one hJ.1 hs (lt_sz ho hsz)).trans hsz
  refine lv_aload_n hx hb d_M_init_53 rfl (lv_at hl 0 rfl) ?_
  refine lv_sipush (v := nI 256) hx hb d_M_init_54 (by decide +kernel) ?_
  refine vx_newa (cells' := 7) (slots' := 134614) hx hb hG hts rfl (Or.inl rfl) (by decide +kernel) (by decide) (by decide) rfl rfl (Nat.le_of_ble_eq_true rfl) (Nat.le_of_ble_eq_true rfl) hS hV d_M_init_57 (fun q H57 eq hz a_ l_ hJ hk hS hV => ?_)
  have e_ : q = b + 6 := eq.symm.trans hsz
  subst e_
  have hsz : H57.size = b + 7 := hz
  have hA := hA.kept hJ
  have hO := hO.grown hk
  have hB := hB.grown hk
  have hA := hA.cons a_ l_
  have hO0 := hO
  refine sx_putF EE hin hO rfl i_M t_M tok_M n_M 11 (by decide) rfl fl_M_31 (ty := t_M 11) (by decide +kernel) rfl rfl (Nat.le_of_ble_eq_true rfl) hEo hS d_M_init_59 (fun H59 locs hO hJ hs hS => ?_)
  have hO : va_P D classes [(o, .inr (0, [.int 0, .ref (b + 0), .ref (b + 1), .ref (b + 2), .ref (b + 3), .int 0, .int 0, .int 0, .int 0, .ref (b + 4), .ref (b + 5), .ref (b + 6), .null, .null, .null, .null, .null, .null, .null, .null, .null, .null, .null, .null, .null, .null, .null, .null, .null, .null, .null, .null, .null, .null, .null, .null, .null, .null, .null, .null, .null, .null, .null, .null, .null, .null, .null, .null, .null, .null, .null, .null, .null]))] H59 := hO
  have hV := (vx_obj hG hK.1 hO0 hO hs).trans hV
  have hA := hA.kept hJ
  have hB := hB.one hs ho
  have hsz := (sz_one hJ.1 hs (lt_sz ho hsz)).trans hsz
  refine lv_aload_n hx hb d_M_init_62 rfl (lv_at hl 0 rfl) ?_
  refine lv_bipush (v := nI 16) hx hb d_M_init_63 (by decide +kernel) ?_
  refine vx_newa (cells' := 8) (slots' := 134630) hx hb hG hts rfl (Or.inl rfl) (by decide +kernel) (by decide) (by decide) rfl rfl (Nat.le_of_ble_eq_true rfl) (Nat.le_of_ble_eq_true rfl) hS hV d_M_init_65 (fun q H65 eq hz a_ l_ hJ hk hS hV => ?_)
  have e_ : q = b + 7 := eq.symm.trans hsz
  subst e_
  have hsz : H65.size = b + 8 := hz
  have hA := hA.kept hJ
  have hO := hO.grown hk
  have hB := hB.grown hk
  have hA := hA.cons a_ l_
  have hO0 := hO
  refine sx_putF EE hin hO rfl i_M t_M tok_M n_M 12 (by decide) rfl fl_M_34 (ty := t_M 12) (by decide +kernel) rfl rfl (Nat.le_of_ble_eq_true rfl) hEo hS d_M_init_67 (fun H67 locs hO hJ hs hS => ?_)
  have hO : va_P D classes [(o, .inr (0, [.int 0, .ref (b + 0), .ref (b + 1), .ref (b + 2), .ref (b + 3), .int 0, .int 0, .int 0, .int 0, .ref (b + 4), .ref (b + 5), .ref (b + 6), .ref (b + 7), .null, .null, .null, .null, .null, .null, .null, .null, .null, .null, .null, .null, .null, .null, .null, .null, .null, .null, .null, .null, .null, .null, .null, .null, .null, .null, .null, .null, .null, .null, .null, .null, .null, .null, .null, .null, .null, .null, .null, .null]))] H67 := hO
  have hV := (vx_obj hG hK.1 hO0 hO hs).trans hV
  have hA := hA.kept hJ
  have hB := hB.one hs ho
  have hsz := (sz_one hJ.1 hs (lt_sz ho hsz)).trans hsz
  refine lv_aload_n hx hb d_M_init_70 rfl (lv_at hl 0 rfl) ?_
  refine lv_sipush (v := nI 256) hx hb d_M_init_71 (by decide +kernel) ?_
  refine vx_newa (cells' := 9) (slots' := 134886) hx hb hG hts rfl (Or.inl rfl) (by decide +kernel) (by decide) (by decide) rfl rfl (Nat.le_of_ble_eq_true rfl) (Nat.le_of_ble_eq_true rfl) hS hV d_M_init_74 (fun q H74 eq hz a_ l_ hJ hk hS hV => ?_)
  have e_ : q = b + 8 := eq.symm.trans hsz
  subst e_
  have hsz : H74.size = b + 9 := hz
  have hA := hA.kept hJ
  have hO := hO.grown hk
  have hB := hB.grown hk
  have hA := hA.cons a_ l_
  have hO0 := hO
  refine sx_putF EE hin hO rfl i_M t_M tok_M n_M 13 (by decide) rfl fl_M_37 (ty := t_M 13) (by decide +kernel) rfl rfl (Nat.le_of_ble_eq_true rfl) hEo hS d_M_init_76 (fun H76 locs hO hJ hs hS => ?_)
  have hO : va_P D classes [(o, .inr (0, [.int 0, .ref (b + 0), .ref (b + 1), .ref (b + 2), .ref (b + 3), .int 0, .int 0, .int 0, .int 0, .ref (b + 4), .ref (b + 5), .ref (b + 6), .ref (b + 7), .ref (b + 8), .null, .null, .null, .null, .null, .null, .null, .null, .null, .null, .null, .null, .null, .null, .null, .null, .null, .null, .null, .null, .null, .null, .null, .null, .null, .null, .null, .null, .null, .null, .null, .null, .null, .null, .null, .null, .null, .null, .null]))] H76 := hO
  have hV := (vx_obj hG hK.1 hO0 hO hs).trans hV
  have hA := hA.kept hJ
  have hB := hB.one hs ho
  have hsz := (sz_one hJ.1 hs (lt_sz ho hsz)).trans hsz
  refine lv_aload_n hx hb d_M_init_79 rfl (lv_at hl 0 rfl) ?_
  refine lv_bipush (v := nI 16) hx hb d_M_init_80 (by decide +kernel) ?_
  refine vx_newa (cells' := 10) (slots' := 134902) hx hb hG hts rfl (Or.inl rfl) (by decide +kernel) (by decide) (by decide) rfl rfl (Nat.le_of_ble_eq_true rfl) (Nat.le_of_ble_eq_true rfl) hS hV d_M_init_82 (fun q H82 eq hz a_ l_ hJ hk hS hV => ?_)
  have e_ : q = b + 9 := eq.symm.trans hsz
  subst e_
  have hsz : H82.size = b + 10 := hz
  have hA := hA.kept hJ
  have hO := hO.grown hk
  have hB := hB.grown hk
  have hA := hA.cons a_ l_
  have hO0 := hO
  refine sx_putF EE hin hO rfl i_M t_M tok_M n_M 14 (by decide) rfl fl_M_40 (ty := t_M 14) (by decide +kernel) rfl rfl (Nat.le_of_ble_eq_true rfl) hEo hS d_M_init_84 (fun H84 locs hO hJ hs hS => ?_)
  have hO : va_P D classes [(o, .inr (0, [.int 0, .ref (b + 0), .ref (b + 1), .ref (b + 2), .ref (b + 3), .int 0, .int 0, .int 0, .int 0, .ref (b + 4), .ref (b + 5), .ref (b + 6), .ref (b + 7), .ref (b + 8), .ref (b + 9), .null, .null, .null, .null, .null, .null, .null, .null, .null, .null, .null, .null, .null, .null, .null, .null, .null, .null, .null, .null, .null, .null, .null, .null, .null, .null, .null, .null, .null, .null, .null, .null, .null, .null, .null, .null, .null, .null]))] H84 := hO
  have hV := (vx_obj hG hK.1 hO0 hO hs).trans hV
  have hA := hA.kept hJ
  have hB := hB.one hs ho
  have hsz := (sz_one hJ.1 hs (lt_sz ho hsz)).trans hsz
  refine lv_aload_n hx hb d_M_init_87 rfl (lv_at hl 0 rfl) ?_
  refine lv_bipush (v := nI 16) hx hb d_M_init_88 (by decide +kernel) ?_
  refine vx_newa (cells' := 11) (slots' := 134918) hx hb hG hts rfl (Or.inl rfl) (by decide +kernel) (by decide) (by decide) rfl rfl (Nat.le_of_ble_eq_true rfl) (Nat.le_of_ble_eq_true rfl) hS hV d_M_init_90 (fun q H90 eq hz a_ l_ hJ hk hS hV => ?_)
  have e_ : q = b + 10 := eq.symm.trans hsz
  subst e_
  have hsz : H90.size = b + 11 := hz
  have hA := hA.kept hJ
  have hO := hO.grown hk
  have hB := hB.grown hk
  have hA := hA.cons a_ l_
  have hO0 := hO
  refine sx_putF EE hin hO rfl i_M t_M tok_M n_M 15 (by decide) rfl fl_M_43 (ty := t_M 15) (by decide +kernel) rfl rfl (Nat.le_of_ble_eq_true rfl) hEo hS d_M_init_92 (fun H92 locs hO hJ hs hS => ?_)
  have hO : va_P D classes [(o, .inr (0, [.int 0, .ref (b + 0), .ref (b + 1), .ref (b + 2), .ref (b + 3), .int 0, .int 0, .int 0, .int 0, .ref (b + 4), .ref (b + 5), .ref (b + 6), .ref (b + 7), .ref (b + 8), .ref (b + 9), .ref (b + 10), .null, .null, .null, .null, .null, .null, .null, .null, .null, .null, .null, .null, .null, .null, .null, .null, .null, .null, .null, .null, .null, .null, .null, .null, .null, .null, .null, .null, .null, .null, .null, .null, .null, .null, .null, .null, .null]))] H92 := hO
  have hV := (vx_obj hG hK.1 hO0 hO hs).trans hV
  have hA := hA.kept hJ
  have hB := hB.one hs ho
  have hsz := (sz_one hJ.1 hs (lt_sz ho hsz)).trans hsz
  refine lv_aload_n hx hb d_M_init_95 rfl (lv_at hl 0 rfl) ?_
  refine lv_bipush (v := nI 16) hx hb d_M_init_96 (by decide +kernel) ?_
  refine vx_newa (cells' := 12) (slots' := 134934) hx hb hG hts rfl (Or.inl rfl) (by decide +kernel) (by decide) (by decide) rfl rfl (Nat.le_of_ble_eq_true rfl) (Nat.le_of_ble_eq_true rfl) hS hV d_M_init_98 (fun q H98 eq hz a_ l_ hJ hk hS hV => ?_)
  have e_ : q = b + 11 := eq.symm.trans hsz
  subst e_
  have hsz : H98.size = b + 12 := hz
  have hA := hA.kept hJ
  have hO := hO.grown hk
  have hB := hB.grown hk
  have hA := hA.cons a_ l_
  have hO0 := hO
  refine sx_putF EE hin hO rfl i_M t_M tok_M n_M 16 (by decide) rfl fl_M_46 (ty := t_M 16) (by decide +kernel) rfl rfl (Nat.le_of_ble_eq_true rfl) hEo hS d_M_init_100 (fun H100 locs hO hJ hs hS => ?_)
  have hO : va_P D classes [(o, .inr (0, [.int 0, .ref (b + 0), .ref (b + 1), .ref (b + 2), .ref (b + 3), .int 0, .int 0, .int 0, .int 0, .ref (b + 4), .ref (b + 5), .ref (b + 6), .ref (b + 7), .ref (b + 8), .ref (b + 9), .ref (b + 10), .ref (b + 11), .null, .null, .null, .null, .null, .null, .null, .null, .null, .null, .null, .null, .null, .null, .null, .null, .null, .null, .null, .null, .null, .null, .null, .null, .null, .null, .null, .null, .null, .null, .null, .null, .null, .null, .null, .null]))] H100 := hO
  have hV := (vx_obj hG hK.1 hO0 hO hs).trans hV
  have hA := hA.kept hJ
  have hB := hB.one hs ho
  have hsz := (sz_one hJ.1 hs (lt_sz ho hsz)).trans hsz
  refine lv_aload_n hx hb d_M_init_103 rfl (lv_at hl 0 rfl) ?_
  refine lv_bipush (v := nI 16) hx hb d_M_init_104 (by decide +kernel) ?_
  refine vx_newa (cells' := 13) (slots' := 134950) hx hb hG hts rfl (Or.inl rfl) (by decide +kernel) (by decide) (by decide) rfl rfl (Nat.le_of_ble_eq_true rfl) (Nat.le_of_ble_eq_true rfl) hS hV d_M_init_106 (fun q H106 eq hz a_ l_ hJ hk hS hV => ?_)
  have e_ : q = b + 12 := eq.symm.trans hsz
  subst e_
  have hsz : H106.size = b + 13 := hz
  have hA := hA.kept hJ
  have hO := hO.grown hk
  have hB := hB.grown hk
  have hA := hA.cons a_ l_
  have hO0 := hO
  refine sx_putF EE hin hO rfl i_M t_M tok_M n_M 17 (by decide) rfl fl_M_49 (ty := t_M 17) (by decide +kernel) rfl rfl (Nat.le_of_ble_eq_true rfl) hEo hS d_M_init_108 (fun H108 locs hO hJ hs hS => ?_)
  have hO : va_P D classes [(o, .inr (0, [.int 0, .ref (b + 0), .ref (b + 1), .ref (b + 2), .ref (b + 3), .int 0, .int 0, .int 0, .int 0, .ref (b + 4), .ref (b + 5), .ref (b + 6), .ref (b + 7), .ref (b + 8), .ref (b + 9), .ref (b + 10), .ref (b + 11), .ref (b + 12), .null, .null, .null, .null, .null, .null, .null, .null, .null, .null, .null, .null, .null, .null, .null, .null, .null, .null, .null, .null, .null, .null, .null, .null, .null, .null, .null, .null, .null, .null, .null, .null, .null, .null, .null]))] H108 := hO
  have hV := (vx_obj hG hK.1 hO0 hO hs).trans hV
  have hA := hA.kept hJ
  have hB := hB.one hs ho
  have hsz := (sz_one hJ.1 hs (lt_sz ho hsz)).trans hsz
  refine lv_aload_n hx hb d_M_init_111 rfl (lv_at hl 0 rfl) ?_
  refine lv_bipush (v := nI 16) hx hb d_M_init_112 (by decide +kernel) ?_
  refine vx_newa (cells' := 14) (slots' := 134966) hx hb hG hts rfl (Or.inl rfl) (by decide +kernel) (by decide) (by decide) rfl rfl (Nat.le_of_ble_eq_true rfl) (Nat.le_of_ble_eq_true rfl) hS hV d_M_init_114 (fun q H114 eq hz a_ l_ hJ hk hS hV => ?_)
  have e_ : q = b + 13 := eq.symm.trans hsz
  subst e_
  have hsz : H114.size = b + 14 := hz
  have hA := hA.kept hJ
  have hO := hO.grown hk
  have hB := hB.grown hk
  have hA := hA.cons a_ l_
  have hO0 := hO
  refine sx_putF EE hin hO rfl i_M t_M tok_M n_M 18 (by decide) rfl fl_M_52 (ty := t_M 18) (by decide +kernel) rfl rfl (Nat.le_of_ble_eq_true rfl) hEo hS d_M_init_116 (fun H116 locs hO hJ hs hS => ?_)
  have hO : va_P D classes [(o, .inr (0, [.int 0, .ref (b + 0), .ref (b + 1), .ref (b + 2), .ref (b + 3), .int 0, .int 0, .int 0, .int 0, .ref (b + 4), .ref (b + 5), .ref (b + 6), .ref (b + 7), .ref (b + 8), .ref (b + 9), .ref (b + 10), .ref (b + 11), .ref (b + 12), .ref (b + 13), .null, .null, .null, .null, .null, .null, .null, .null, .null, .null, .null, .null, .null, .null, .null, .null, .null, .null, .null, .null, .null, .null, .null, .null, .null, .null, .null, .null, .null, .null, .null, .null, .null, .null]))] H116 := hO
  have hV := (vx_obj hG hK.1 hO0 hO hs).trans hV
  have hA := hA.kept hJ
  have hB := hB.one hs ho
  have hsz := (sz_one hJ.1 hs (lt_sz ho hsz)).trans hsz
  refine lv_aload_n hx hb d_M_init_119 rfl (lv_at hl 0 rfl) ?_
  refine lv_bipush (v := nI 16) hx hb d_M_init_120 (by decide +kernel) ?_
  refine vx_newa (cells' := 15) (slots' := 134982) hx hb hG hts rfl (Or.inl rfl) (by decide +kernel) (by decide) (by decide) rfl rfl (Nat.le_of_ble_eq_true rfl) (Nat.le_of_ble_eq_true rfl) hS hV d_M_init_122 (fun q H122 eq hz a_ l_ hJ hk hS hV => ?_)
  have e_ : q = b + 14 := eq.symm.trans hsz
  subst e_
  have hsz : H122.size = b + 15 := hz
  have hA := hA.kept hJ
  have hO := hO.grown hk
  have hB := hB.grown hk
  have hA := hA.cons a_ l_
  have hO0 := hO
  refine sx_putF EE hin hO rfl i_M t_M tok_M n_M 19 (by decide) rfl fl_M_55 (ty := t_M 19) (by decide +kernel) rfl rfl (Nat.le_of_ble_eq_true rfl) hEo hS d_M_init_124 (fun H124 locs hO hJ hs hS => ?_)
  have hO : va_P D classes [(o, .inr (0, [.int 0, .ref (b + 0), .ref (b + 1), .ref (b + 2), .ref (b + 3), .int 0, .int 0, .int 0, .int 0, .ref (b + 4), .ref (b + 5), .ref (b + 6), .ref (b + 7), .ref (b + 8), .ref (b + 9), .ref (b + 10), .ref (b + 11), .ref (b + 12), .ref (b + 13), .ref (b + 14), .null, .null, .null, .null, .null, .null, .null, .null, .null, .null, .null, .null, .null, .null, .null, .null, .null, .null, .null, .null, .null, .null, .null, .null, .null, .null, .null, .null, .null, .null, .null, .null, .null]))] H124 := hO
  have hV := (vx_obj hG hK.1 hO0 hO hs).trans hV
  have hA := hA.kept hJ
  have hB := hB.one hs ho
  have hsz := (sz_one hJ.1 hs (lt_sz ho hsz)).trans hsz
  refine lv_aload_n hx hb d_M_init_127 rfl (lv_at hl 0 rfl) ?_
  refine lv_bipush (v := nI 16) hx hb d_M_init_128 (by decide +kernel) ?_
  refine vx_newa (cells' := 16) (slots' := 134998) hx hb hG hts rfl (Or.inl rfl) (by decide +kernel) (by decide) (by decide) rfl rfl (Nat.le_of_ble_eq_true rfl) (Nat.le_of_ble_eq_true rfl) hS hV d_M_init_130 (fun q H130 eq hz a_ l_ hJ hk hS hV => ?_)
  have e_ : q = b + 15 := eq.symm.trans hsz
  subst e_
  have hsz : H130.size = b + 16 := hz
  have hA := hA.kept hJ
  have hO := hO.grown hk
  have hB := hB.grown hk
  have hA := hA.cons a_ l_
  have hO0 := hO
  refine sx_putF EE hin hO rfl i_M t_M tok_M n_M 20 (by decide) rfl fl_M_58 (ty := t_M 20) (by decide +kernel) rfl rfl (Nat.le_of_ble_eq_true rfl) hEo hS d_M_init_132 (fun H132 locs hO hJ hs hS => ?_)
  have hO : va_P D classes [(o, .inr (0, [.int 0, .ref (b + 0), .ref (b + 1), .ref (b + 2), .ref (b + 3), .int 0, .int 0, .int 0, .int 0, .ref (b + 4), .ref (b + 5), .ref (b + 6), .ref (b + 7), .ref (b + 8), .ref (b + 9), .ref (b + 10), .ref (b + 11), .ref (b + 12), .ref (b + 13), .ref (b + 14), .ref (b + 15), .null, .null, .null, .null, .null, .null, .null, .null, .null, .null, .null, .null, .null, .null, .null, .null, .null, .null, .null, .null, .null, .null, .null, .null, .null, .null, .null, .null, .null, .null, .null, .null]))] H132 := hO
  have hV := (vx_obj hG hK.1 hO0 hO hs).trans hV
  have hA := hA.kept hJ
  have hB := hB.one hs ho
  have hsz := (sz_one hJ.1 hs (lt_sz ho hsz)).trans hsz
  refine lv_aload_n hx hb d_M_init_135 rfl (lv_at hl 0 rfl) ?_
  refine lv_bipush (v := nI 16) hx hb d_M_init_136 (by decide +kernel) ?_
  refine vx_newa (cells' := 17) (slots' := 135014) hx hb hG hts rfl (Or.inl rfl) (by decide +kernel) (by decide) (by decide) rfl rfl (Nat.le_of_ble_eq_true rfl) (Nat.le_of_ble_eq_true rfl) hS hV d_M_init_138 (fun q H138 eq hz a_ l_ hJ hk hS hV => ?_)
  have e_ : q = b + 16 := eq.symm.trans hsz
  subst e_
  have hsz : H138.size = b + 17 := hz
  have hA := hA.kept hJ
  have hO := hO.grown hk
  have hB := hB.grown hk
  have hA := hA.cons a_ l_
  have hO0 := hO
  refine sx_putF EE hin hO rfl i_M t_M tok_M n_M 21 (by decide) rfl fl_M_61 (ty := t_M 21) (by decide +kernel) rfl rfl (Nat.le_of_ble_eq_true rfl) hEo hS d_M_init_140 (fun H140 locs hO hJ hs hS => ?_)
  have hO : va_P D classes [(o, .inr (0, [.int 0, .ref (b + 0), .ref (b + 1), .ref (b + 2), .ref (b + 3), .int 0, .int 0, .int 0, .int 0, .ref (b + 4), .ref (b + 5), .ref (b + 6), .ref (b + 7), .ref (b + 8), .ref (b + 9), .ref (b + 10), .ref (b + 11), .ref (b + 12), .ref (b + 13), .ref (b + 14), .ref (b + 15), .ref (b + 16), .null, .null, .null, .null, .null, .null, .null, .null, .null, .null, .null, .null, .null, .null, .null, .null, .null, .null, .null, .null, .null, .null, .null, .null, .null, .null, .null, .null, .null, .null, .null]))] H140 := hO
  have hV := (vx_obj hG hK.1 hO0 hO hs).trans hV
  have hA := hA.kept hJ
  have hB := hB.one hs ho
  have hsz := (sz_one hJ.1 hs (lt_sz ho hsz)).trans hsz
  refine lv_aload_n hx hb d_M_init_143 rfl (lv_at hl 0 rfl) ?_
  refine lv_bipush (v := nI 16) hx hb d_M_init_144 (by decide +kernel) ?_
  refine vx_newa (cells' := 18) (slots' := 135030) hx hb hG hts rfl (Or.inl rfl) (by decide +kernel) (by decide) (by decide) rfl rfl (Nat.le_of_ble_eq_true rfl) (Nat.le_of_ble_eq_true rfl) hS hV d_M_init_146 (fun q H146 eq hz a_ l_ hJ hk hS hV => ?_)
  have e_ : q = b + 17 := eq.symm.trans hsz
  subst e_
  have hsz : H146.size = b + 18 := hz
  have hA := hA.kept hJ
  have hO := hO.grown hk
  have hB := hB.grown hk
  have hA := hA.cons a_ l_
  have hO0 := hO
  refine sx_putF EE hin hO rfl i_M t_M tok_M n_M 22 (by decide) rfl fl_M_64 (ty := t_M 22) (by decide +kernel) rfl rfl (Nat.le_of_ble_eq_true rfl) hEo hS d_M_init_148 (fun H148 locs hO hJ hs hS => ?_)
  have hO : va_P D classes [(o, .inr (0, [.int 0, .ref (b + 0), .ref (b + 1), .ref (b + 2), .ref (b + 3), .int 0, .int 0, .int 0, .int 0, .ref (b + 4), .ref (b + 5), .ref (b + 6), .ref (b + 7), .ref (b + 8), .ref (b + 9), .ref (b + 10), .ref (b + 11), .ref (b + 12), .ref (b + 13), .ref (b + 14), .ref (b + 15), .ref (b + 16), .ref (b + 17), .null, .null, .null, .null, .null, .null, .null, .null, .null, .null, .null, .null, .null, .null, .null, .null, .null, .null, .null, .null, .null, .null, .null, .null, .null, .null, .null, .null, .null, .null]))] H148 := hO
  have hV := (vx_obj hG hK.1 hO0 hO hs).trans hV
  have hA := hA.kept hJ
  have hB := hB.one hs ho
  have hsz := (sz_one hJ.1 hs (lt_sz ho hsz)).trans hsz
  refine lv_aload_n hx hb d_M_init_151 rfl (lv_at hl 0 rfl) ?_
  refine lv_bipush (v := nI 16) hx hb d_M_init_152 (by decide +kernel) ?_
  refine vx_newa (cells' := 19) (slots' := 135046) hx hb hG hts rfl (Or.inl rfl) (by decide +kernel) (by decide) (by decide) rfl rfl (Nat.le_of_ble_eq_true rfl) (Nat.le_of_ble_eq_true rfl) hS hV d_M_init_154 (fun q H154 eq hz a_ l_ hJ hk hS hV => ?_)
  have e_ : q = b + 18 := eq.symm.trans hsz
  subst e_
  have hsz : H154.size = b + 19 := hz
  have hA := hA.kept hJ
  have hO := hO.grown hk
  have hB := hB.grown hk
  have hA := hA.cons a_ l_
  have hO0 := hO
  refine sx_putF EE hin hO rfl i_M t_M tok_M n_M 23 (by decide) rfl fl_M_67 (ty := t_M 23) (by decide +kernel) rfl rfl (Nat.le_of_ble_eq_true rfl) hEo hS d_M_init_156 (fun H156 locs hO hJ hs hS => ?_)
  have hO : va_P D classes [(o, .inr (0, [.int 0, .ref (b + 0), .ref (b + 1), .ref (b + 2), .ref (b + 3), .int 0, .int 0, .int 0, .int 0, .ref (b + 4), .ref (b + 5), .ref (b + 6), .ref (b + 7), .ref (b + 8), .ref (b + 9), .ref (b + 10), .ref (b + 11), .ref (b + 12), .ref (b + 13), .ref (b + 14), .ref (b + 15), .ref (b + 16), .ref (b + 17), .ref (b + 18), .null, .null, .null, .null, .null, .null, .null, .null, .null, .null, .null, .null, .null, .null, .null, .null, .null, .null, .null, .null, .null, .null, .null, .null, .null, .null, .null, .null, .null]))] H156 := hO
  have hV := (vx_obj hG hK.1 hO0 hO hs).trans hV
  have hA := hA.kept hJ
  have hB := hB.one hs ho
  have hsz := (sz_one hJ.1 hs (lt_sz ho hsz)).trans hsz
  refine lv_aload_n hx hb d_M_init_159 rfl (lv_at hl 0 rfl) ?_
  refine lv_bipush (v := nI 16) hx hb d_M_init_160 (by decide +kernel) ?_
  refine vx_newa (cells' := 20) (slots' := 135062) hx hb hG hts rfl (Or.inl rfl) (by decide +kernel) (by decide) (by decide) rfl rfl (Nat.le_of_ble_eq_true rfl) (Nat.le_of_ble_eq_true rfl) hS hV d_M_init_162 (fun q H162 eq hz a_ l_ hJ hk hS hV => ?_)
  have e_ : q = b + 19 := eq.symm.trans hsz
  subst e_
  have hsz : H162.size = b + 20 := hz
  have hA := hA.kept hJ
  have hO := hO.grown hk
  have hB := hB.grown hk
  have hA := hA.cons a_ l_
  have hO0 := hO
  refine sx_putF EE hin hO rfl i_M t_M tok_M n_M 24 (by decide) rfl fl_M_70 (ty := t_M 24) (by decide +kernel) rfl rfl (Nat.le_of_ble_eq_true rfl) hEo hS d_M_init_164 (fun H164 locs hO hJ hs hS => ?_)
  have hO : va_P D classes [(o, .inr (0, [.int 0, .ref (b + 0), .ref (b + 1), .ref (b + 2), .ref (b + 3), .int 0, .int 0, .int 0, .int 0, .ref (b + 4), .ref (b + 5), .ref (b + 6), .ref (b + 7), .ref (b + 8), .ref (b + 9), .ref (b + 10), .ref (b + 11), .ref (b + 12), .ref (b + 13), .ref (b + 14), .ref (b + 15), .ref (b + 16), .ref (b + 17), .ref (b + 18), .ref (b + 19), .null, .null, .null, .null, .null, .null, .null, .null, .null, .null, .null, .null, .null, .null, .null, .null, .null, .null, .null, .null, .null, .null, .null, .null, .null, .null, .null, .null]))] H164 := hO
  have hV := (vx_obj hG hK.1 hO0 hO hs).trans hV
  have hA := hA.kept hJ
  have hB := hB.one hs ho
  have hsz := (sz_one hJ.1 hs (lt_sz ho hsz)).trans hsz
  refine lv_aload_n hx hb d_M_init_167 rfl (lv_at hl 0 rfl) ?_
  refine lv_bipush (v := nI 16) hx hb d_M_init_168 (by decide +kernel) ?_
  refine vx_newa (cells' := 21) (slots' := 135078) hx hb hG hts rfl (Or.inl rfl) (by decide +kernel) (by decide) (by decide) rfl rfl (Nat.le_of_ble_eq_true rfl) (Nat.le_of_ble_eq_true rfl) hS hV d_M_init_170 (fun q H170 eq hz a_ l_ hJ hk hS hV => ?_)
  have e_ : q = b + 20 := eq.symm.trans hsz
  subst e_
  have hsz : H170.size = b + 21 := hz
  have hA := hA.kept hJ
  have hO := hO.grown hk
  have hB := hB.grown hk
  have hA := hA.cons a_ l_
  have hO0 := hO
  refine sx_putF EE hin hO rfl i_M t_M tok_M n_M 25 (by decide) rfl fl_M_73 (ty := t_M 25) (by decide +kernel) rfl rfl (Nat.le_of_ble_eq_true rfl) hEo hS d_M_init_172 (fun H172 locs hO hJ hs hS => ?_)
  have hO : va_P D classes [(o, .inr (0, [.int 0, .ref (b + 0), .ref (b + 1), .ref (b + 2), .ref (b + 3), .int 0, .int 0, .int 0, .int 0, .ref (b + 4), .ref (b + 5), .ref (b + 6), .ref (b + 7), .ref (b + 8), .ref (b + 9), .ref (b + 10), .ref (b + 11), .ref (b + 12), .ref (b + 13), .ref (b + 14), .ref (b + 15), .ref (b + 16), .ref (b + 17), .ref (b + 18), .ref (b + 19), .ref (b + 20), .null, .null, .null, .null, .null, .null, .null, .null, .null, .null, .null, .null, .null, .null, .null, .null, .null, .null, .null, .null, .null, .null, .null, .null, .null, .null, .null]))] H172 := hO
  have hV := (vx_obj hG hK.1 hO0 hO hs).trans hV
  have hA := hA.kept hJ
  have hB := hB.one hs ho
  have hsz := (sz_one hJ.1 hs (lt_sz ho hsz)).trans hsz
  refine lv_aload_n hx hb d_M_init_175 rfl (lv_at hl 0 rfl) ?_
  refine lv_bipush (v := nI 16) hx hb d_M_init_176 (by decide +kernel) ?_
  refine vx_newa (cells' := 22) (slots' := 135094) hx hb hG hts rfl (Or.inl rfl) (by decide +kernel) (by decide) (by decide) rfl rfl (Nat.le_of_ble_eq_true rfl) (Nat.le_of_ble_eq_true rfl) hS hV d_M_init_178 (fun q H178 eq hz a_ l_ hJ hk hS hV => ?_)
  have e_ : q = b + 21 := eq.symm.trans hsz
  subst e_
  have hsz : H178.size = b + 22 := hz
  have hA := hA.kept hJ
  have hO := hO.grown hk
  have hB := hB.grown hk
  have hA := hA.cons a_ l_
  have hO0 := hO
  refine sx_putF EE hin hO rfl i_M t_M tok_M n_M 26 (by decide) rfl fl_M_76 (ty := t_M 26) (by decide +kernel) rfl rfl (Nat.le_of_ble_eq_true rfl) hEo hS d_M_init_180 (fun H180 locs hO hJ hs hS => ?_)
  have hO : va_P D classes [(o, .inr (0, [.int 0, .ref (b + 0), .ref (b + 1), .ref (b + 2), .ref (b + 3), .int 0, .int 0, .int 0, .int 0, .ref (b + 4), .ref (b + 5), .ref (b + 6), .ref (b + 7), .ref (b + 8), .ref (b + 9), .ref (b + 10), .ref (b + 11), .ref (b + 12), .ref (b + 13), .ref (b + 14), .ref (b + 15), .ref (b + 16), .ref (b + 17), .ref (b + 18), .ref (b + 19), .ref (b + 20), .ref (b + 21), .null, .null, .null, .null, .null, .null, .null, .null, .null, .null, .null, .null, .null, .null, .null, .null, .null, .null, .null, .null, .null, .null, .null, .null, .null, .null]))] H180 := hO
  have hV := (vx_obj hG hK.1 hO0 hO hs).trans hV
  have hA := hA.kept hJ
  have hB := hB.one hs ho
  have hsz := (sz_one hJ.1 hs (lt_sz ho hsz)).trans hsz
  refine lv_aload_n hx hb d_M_init_183 rfl (lv_at hl 0 rfl) ?_
  refine lv_bipush (v := nI 16) hx hb d_M_init_184 (by decide +kernel) ?_
  refine vx_newa (cells' := 23) (slots' := 135110) hx hb hG hts rfl (Or.inl rfl) (by decide +kernel) (by decide) (by decide) rfl rfl (Nat.le_of_ble_eq_true rfl) (Nat.le_of_ble_eq_true rfl) hS hV d_M_init_186 (fun q H186 eq hz a_ l_ hJ hk hS hV => ?_)
  have e_ : q = b + 22 := eq.symm.trans hsz
  subst e_
  have hsz : H186.size = b + 23 := hz
  have hA := hA.kept hJ
  have hO := hO.grown hk
  have hB := hB.grown hk
  have hA := hA.cons a_ l_
  have hO0 := hO
  refine sx_putF EE hin hO rfl i_M t_M tok_M n_M 27 (by decide) rfl fl_M_79 (ty := t_M 27) (by decide +kernel) rfl rfl (Nat.le_of_ble_eq_true rfl) hEo hS d_M_init_188 (fun H188 locs hO hJ hs hS => ?_)
  have hO : va_P D classes [(o, .inr (0, [.int 0, .ref (b + 0), .ref (b + 1), .ref (b + 2), .ref (b + 3), .int 0, .int 0, .int 0, .int 0, .ref (b + 4), .ref (b + 5), .ref (b + 6), .ref (b + 7), .ref (b + 8), .ref (b + 9), .ref (b + 10), .ref (b + 11), .ref (b + 12), .ref (b + 13), .ref (b + 14), .ref (b + 15), .ref (b + 16), .ref (b + 17), .ref (b + 18), .ref (b + 19), .ref (b + 20), .ref (b + 21), .ref (b + 22), .null, .null, .null, .null, .null, .null, .null, .null, .null, .null, .null, .null, .null, .null, .null, .null, .null, .null, .null, .null, .null, .null, .null, .null, .null]))] H188 := hO
  have hV := (vx_obj hG hK.1 hO0 hO hs).trans hV
  have hA := hA.kept hJ
  have hB := hB.one hs ho
  have hsz := (sz_one hJ.1 hs (lt_sz ho hsz)).trans hsz
  refine lv_aload_n hx hb d_M_init_191 rfl (lv_at hl 0 rfl) ?_
  refine lv_bipush (v := nI 16) hx hb d_M_init_192 (by decide +kernel) ?_
  refine vx_newa (cells' := 24) (slots' := 135126) hx hb hG hts rfl (Or.inl rfl) (by decide +kernel) (by decide) (by decide) rfl rfl (Nat.le_of_ble_eq_true rfl) (Nat.le_of_ble_eq_true rfl) hS hV d_M_init_194 (fun q H194 eq hz a_ l_ hJ hk hS hV => ?_)
  have e_ : q = b + 23 := eq.symm.trans hsz
  subst e_
  have hsz : H194.size = b + 24 := hz
  have hA := hA.kept hJ
  have hO := hO.grown hk
  have hB := hB.grown hk
  have hA := hA.cons a_ l_
  have hO0 := hO
  refine sx_putF EE hin hO rfl i_M t_M tok_M n_M 28 (by decide) rfl fl_M_82 (ty := t_M 28) (by decide +kernel) rfl rfl (Nat.le_of_ble_eq_true rfl) hEo hS d_M_init_196 (fun H196 locs hO hJ hs hS => ?_)
  have hO : va_P D classes [(o, .inr (0, [.int 0, .ref (b + 0), .ref (b + 1), .ref (b + 2), .ref (b + 3), .int 0, .int 0, .int 0, .int 0, .ref (b + 4), .ref (b + 5), .ref (b + 6), .ref (b + 7), .ref (b + 8), .ref (b + 9), .ref (b + 10), .ref (b + 11), .ref (b + 12), .ref (b + 13), .ref (b + 14), .ref (b + 15), .ref (b + 16), .ref (b + 17), .ref (b + 18), .ref (b + 19), .ref (b + 20), .ref (b + 21), .ref (b + 22), .ref (b + 23), .null, .null, .null, .null, .null, .null, .null, .null, .null, .null, .null, .null, .null, .null, .null, .null, .null, .null, .null, .null, .null, .null, .null, .null]))] H196 := hO
  have hV := (vx_obj hG hK.1 hO0 hO hs).trans hV
  have hA := hA.kept hJ
  have hB := hB.one hs ho
  have hsz := (sz_one hJ.1 hs (lt_sz ho hsz)).trans hsz
  refine lv_aload_n hx hb d_M_init_199 rfl (lv_at hl 0 rfl) ?_
  refine lv_bipush (v := nI 16) hx hb d_M_init_200 (by decide +kernel) ?_
  refine vx_newa (cells' := 25) (slots' := 135142) hx hb hG hts rfl (Or.inl rfl) (by decide +kernel) (by decide) (by decide) rfl rfl (Nat.le_of_ble_eq_true rfl) (Nat.le_of_ble_eq_true rfl) hS hV d_M_init_202 (fun q H202 eq hz a_ l_ hJ hk hS hV => ?_)
  have e_ : q = b + 24 := eq.symm.trans hsz
  subst e_
  have hsz : H202.size = b + 25 := hz
  have hA := hA.kept hJ
  have hO := hO.grown hk
  have hB := hB.grown hk
  have hA := hA.cons a_ l_
  have hO0 := hO
  refine sx_putF EE hin hO rfl i_M t_M tok_M n_M 29 (by decide) rfl fl_M_85 (ty := t_M 29) (by decide +kernel) rfl rfl (Nat.le_of_ble_eq_true rfl) hEo hS d_M_init_204 (fun H204 locs hO hJ hs hS => ?_)
  have hO : va_P D classes [(o, .inr (0, [.int 0, .ref (b + 0), .ref (b + 1), .ref (b + 2), .ref (b + 3), .int 0, .int 0, .int 0, .int 0, .ref (b + 4), .ref (b + 5), .ref (b + 6), .ref (b + 7), .ref (b + 8), .ref (b + 9), .ref (b + 10), .ref (b + 11), .ref (b + 12), .ref (b + 13), .ref (b + 14), .ref (b + 15), .ref (b + 16), .ref (b + 17), .ref (b + 18), .ref (b + 19), .ref (b + 20), .ref (b + 21), .ref (b + 22), .ref (b + 23), .ref (b + 24), .null, .null, .null, .null, .null, .null, .null, .null, .null, .null, .null, .null, .null, .null, .null, .null, .null, .null, .null, .null, .null, .null, .null]))] H204 := hO
  have hV := (vx_obj hG hK.1 hO0 hO hs).trans hV
  have hA := hA.kept hJ
  have hB := hB.one hs ho
  have hsz := (sz_one hJ.1 hs (lt_sz ho hsz)).trans hsz
  refine lv_aload_n hx hb d_M_init_207 rfl (lv_at hl 0 rfl) ?_
  refine lv_bipush (v := nI 16) hx hb d_M_init_208 (by decide +kernel) ?_
  refine vx_newa (cells' := 26) (slots' := 135158) hx hb hG hts rfl (Or.inl rfl) (by decide +kernel) (by decide) (by decide) rfl rfl (Nat.le_of_ble_eq_true rfl) (Nat.le_of_ble_eq_true rfl) hS hV d_M_init_210 (fun q H210 eq hz a_ l_ hJ hk hS hV => ?_)
  have e_ : q = b + 25 := eq.symm.trans hsz
  subst e_
  have hsz : H210.size = b + 26 := hz
  have hA := hA.kept hJ
  have hO := hO.grown hk
  have hB := hB.grown hk
  have hA := hA.cons a_ l_
  have hO0 := hO
  refine sx_putF EE hin hO rfl i_M t_M tok_M n_M 30 (by decide) rfl fl_M_88 (ty := t_M 30) (by decide +kernel) rfl rfl (Nat.le_of_ble_eq_true rfl) hEo hS d_M_init_212 (fun H212 locs hO hJ hs hS => ?_)
  have hO : va_P D classes [(o, .inr (0, [.int 0, .ref (b + 0), .ref (b + 1), .ref (b + 2), .ref (b + 3), .int 0, .int 0, .int 0, .int 0, .ref (b + 4), .ref (b + 5), .ref (b + 6), .ref (b + 7), .ref (b + 8), .ref (b + 9), .ref (b + 10), .ref (b + 11), .ref (b + 12), .ref (b + 13), .ref (b + 14), .ref (b + 15), .ref (b + 16), .ref (b + 17), .ref (b + 18), .ref (b + 19), .ref (b + 20), .ref (b + 21), .ref (b + 22), .ref (b + 23), .ref (b + 24), .ref (b + 25), .null, .null, .null, .null, .null, .null, .null, .null, .null, .null, .null, .null, .null, .null, .null, .null, .null, .null, .null, .null, .null, .null]))] H212 := hO
  have hV := (vx_obj hG hK.1 hO0 hO hs).trans hV
  have hA := hA.kept hJ
  have hB := hB.one hs ho
  have hsz := (sz_one hJ.1 hs (lt_sz ho hsz)).trans hsz
  refine lv_aload_n hx hb d_M_init_215 rfl (lv_at hl 0 rfl) ?_
  refine lv_bipush (v := nI 16) hx hb d_M_init_216 (by decide +kernel) ?_
  refine vx_newa (cells' := 27) (slots' := 135174) hx hb hG hts rfl (Or.inl rfl) (by decide +kernel) (by decide) (by decide) rfl rfl (Nat.le_of_ble_eq_true rfl) (Nat.le_of_ble_eq_true rfl) hS hV d_M_init_218 (fun q H218 eq hz a_ l_ hJ hk hS hV => ?_)
  have e_ : q = b + 26 := eq.symm.trans hsz
  subst e_
  have hsz : H218.size = b + 27 := hz
  have hA := hA.kept hJ
  have hO := hO.grown hk
  have hB := hB.grown hk
  have hA := hA.cons a_ l_
  have hO0 := hO
  refine sx_putF EE hin hO rfl i_M t_M tok_M n_M 31 (by decide) rfl fl_M_91 (ty := t_M 31) (by decide +kernel) rfl rfl (Nat.le_of_ble_eq_true rfl) hEo hS d_M_init_220 (fun H220 locs hO hJ hs hS => ?_)
  have hO : va_P D classes [(o, .inr (0, [.int 0, .ref (b + 0), .ref (b + 1), .ref (b + 2), .ref (b + 3), .int 0, .int 0, .int 0, .int 0, .ref (b + 4), .ref (b + 5), .ref (b + 6), .ref (b + 7), .ref (b + 8), .ref (b + 9), .ref (b + 10), .ref (b + 11), .ref (b + 12), .ref (b + 13), .ref (b + 14), .ref (b + 15), .ref (b + 16), .ref (b + 17), .ref (b + 18), .ref (b + 19), .ref (b + 20), .ref (b + 21), .ref (b + 22), .ref (b + 23), .ref (b + 24), .ref (b + 25), .ref (b + 26), .null, .null, .null, .null, .null, .null, .null, .null, .null, .null, .null, .null, .null, .null, .null, .null, .null, .null, .null, .null, .null]))] H220 := hO
  have hV := (vx_obj hG hK.1 hO0 hO hs).trans hV
  have hA := hA.kept hJ
  have hB := hB.one hs ho
  have hsz := (sz_one hJ.1 hs (lt_sz ho hsz)).trans hsz
  refine lv_aload_n hx hb d_M_init_223 rfl (lv_at hl 0 rfl) ?_
  refine lv_bipush (v := nI 16) hx hb d_M_init_224 (by decide +kernel) ?_
  refine vx_newa (cells' := 28) (slots' := 135190) hx hb hG hts rfl (Or.inl rfl) (by decide +kernel) (by decide) (by decide) rfl rfl (Nat.le_of_ble_eq_true rfl) (Nat.le_of_ble_eq_true rfl) hS hV d_M_init_226 (fun q H226 eq hz a_ l_ hJ hk hS hV => ?_)
  have e_ : q = b + 27 := eq.symm.trans hsz
  subst e_
  have hsz : H226.size = b + 28 := hz
  have hA := hA.kept hJ
  have hO := hO.grown hk
  have hB := hB.grown hk
  have hA := hA.cons a_ l_
  have hO0 := hO
  refine sx_putF EE hin hO rfl i_M t_M tok_M n_M 32 (by decide) rfl fl_M_94 (ty := t_M 32) (by decide +kernel) rfl rfl (Nat.le_of_ble_eq_true rfl) hEo hS d_M_init_228 (fun H228 locs hO hJ hs hS => ?_)
  have hO : va_P D classes [(o, .inr (0, [.int 0, .ref (b + 0), .ref (b + 1), .ref (b + 2), .ref (b + 3), .int 0, .int 0, .int 0, .int 0, .ref (b + 4), .ref (b + 5), .ref (b + 6), .ref (b + 7), .ref (b + 8), .ref (b + 9), .ref (b + 10), .ref (b + 11), .ref (b + 12), .ref (b + 13), .ref (b + 14), .ref (b + 15), .ref (b + 16), .ref (b + 17), .ref (b + 18), .ref (b + 19), .ref (b + 20), .ref (b + 21), .ref (b + 22), .ref (b + 23), .ref (b + 24), .ref (b + 25), .ref (b + 26), .ref (b + 27), .null, .null, .null, .null, .null, .null, .null, .null, .null, .null, .null, .null, .null, .null, .null, .null, .null, .null, .null, .null]))] H228 := hO
  have hV := (vx_obj hG hK.1 hO0 hO hs).trans hV
  have hA := hA.kept hJ
  have hB := hB.one hs ho
  have hsz := (sz_one hJ.1 hs (lt_sz ho hsz)).trans hsz
  refine lv_aload_n hx hb d_M_init_231 rfl (lv_at hl 0 rfl) ?_
  refine lv_bipush (v := nI 16) hx hb d_M_init_232 (by decide +kernel) ?_
  refine vx_newa (cells' := 29) (slots' := 135206) hx hb hG hts rfl (Or.inl rfl) (by decide +kernel) (by decide) (by decide) rfl rfl (Nat.le_of_ble_eq_true rfl) (Nat.le_of_ble_eq_true rfl) hS hV d_M_init_234 (fun q H234 eq hz a_ l_ hJ hk hS hV => ?_)
  have e_ : q = b + 28 := eq.symm.trans hsz
  subst e_
  have hsz : H234.size = b + 29 := hz
  have hA := hA.kept hJ
  have hO := hO.grown hk
  have hB := hB.grown hk
  have hA := hA.cons a_ l_
  have hO0 := hO
  refine sx_putF EE hin hO rfl i_M t_M tok_M n_M 33 (by decide) rfl fl_M_97 (ty := t_M 33) (by decide +kernel) rfl rfl (Nat.le_of_ble_eq_true rfl) hEo hS d_M_init_236 (fun H236 locs hO hJ hs hS => ?_)
  have hO : va_P D classes [(o, .inr (0, [.int 0, .ref (b + 0), .ref (b + 1), .ref (b + 2), .ref (b + 3), .int 0, .int 0, .int 0, .int 0, .ref (b + 4), .ref (b + 5), .ref (b + 6), .ref (b + 7), .ref (b + 8), .ref (b + 9), .ref (b + 10), .ref (b + 11), .ref (b + 12), .ref (b + 13), .ref (b + 14), .ref (b + 15), .ref (b + 16), .ref (b + 17), .ref (b + 18), .ref (b + 19), .ref (b + 20), .ref (b + 21), .ref (b + 22), .ref (b + 23), .ref (b + 24), .ref (b + 25), .ref (b + 26), .ref (b + 27), .ref (b + 28), .null, .null, .null, .null, .null, .null, .null, .null, .null, .null, .null, .null, .null, .null, .null, .null, .null, .null, .null]))] H236 := hO
  have hV := (vx_obj hG hK.1 hO0 hO hs).trans hV
  have hA := hA.kept hJ
  have hB := hB.one hs ho
  have hsz := (sz_one hJ.1 hs (lt_sz ho hsz)).trans hsz
  refine lv_aload_n hx hb d_M_init_239 rfl (lv_at hl 0 rfl) ?_
  refine lv_bipush (v := nI 16) hx hb d_M_init_240 (by decide +kernel) ?_
  refine vx_newa (cells' := 30) (slots' := 135222) hx hb hG hts rfl (Or.inl rfl) (by decide +kernel) (by decide) (by decide) rfl rfl (Nat.le_of_ble_eq_true rfl) (Nat.le_of_ble_eq_true rfl) hS hV d_M_init_242 (fun q H242 eq hz a_ l_ hJ hk hS hV => ?_)
  have e_ : q = b + 29 := eq.symm.trans hsz
  subst e_
  have hsz : H242.size = b + 30 := hz
  have hA := hA.kept hJ
  have hO := hO.grown hk
  have hB := hB.grown hk
  have hA := hA.cons a_ l_
  have hO0 := hO
  refine sx_putF EE hin hO rfl i_M t_M tok_M n_M 34 (by decide) rfl fl_M_100 (ty := t_M 34) (by decide +kernel) rfl rfl (Nat.le_of_ble_eq_true rfl) hEo hS d_M_init_244 (fun H244 locs hO hJ hs hS => ?_)
  have hO : va_P D classes [(o, .inr (0, [.int 0, .ref (b + 0), .ref (b + 1), .ref (b + 2), .ref (b + 3), .int 0, .int 0, .int 0, .int 0, .ref (b + 4), .ref (b + 5), .ref (b + 6), .ref (b + 7), .ref (b + 8), .ref (b + 9), .ref (b + 10), .ref (b + 11), .ref (b + 12), .ref (b + 13), .ref (b + 14), .ref (b + 15), .ref (b + 16), .ref (b + 17), .ref (b + 18), .ref (b + 19), .ref (b + 20), .ref (b + 21), .ref (b + 22), .ref (b + 23), .ref (b + 24), .ref (b + 25), .ref (b + 26), .ref (b + 27), .ref (b + 28), .ref (b + 29), .null, .null, .null, .null, .null, .null, .null, .null, .null, .null, .null, .null, .null, .null, .null, .null, .null, .null]))] H244 := hO
  have hV := (vx_obj hG hK.1 hO0 hO hs).trans hV
  have hA := hA.kept hJ
  have hB := hB.one hs ho
  have hsz := (sz_one hJ.1 hs (lt_sz ho hsz)).trans hsz
  refine lv_aload_n hx hb d_M_init_247 rfl (lv_at hl 0 rfl) ?_
  refine lv_bipush (v := nI 32) hx hb d_M_init_248 (by decide +kernel) ?_
  refine vx_newa (cells' := 31) (slots' := 135254) hx hb hG hts rfl (Or.inr (Or.inl rfl)) (by decide +kernel) (by decide) (by decide) rfl rfl (Nat.le_of_ble_eq_true rfl) (Nat.le_of_ble_eq_true rfl) hS hV d_M_init_250 (fun q H250 eq hz a_ l_ hJ hk hS hV => ?_)
  have e_ : q = b + 30 := eq.symm.trans hsz
  subst e_
  have hsz : H250.size = b + 31 := hz
  have hA := hA.kept hJ
  have hO := hO.grown hk
  have hB := hB.grown hk
  have hA := hA.cons a_ l_
  have hO0 := hO
  refine sx_putF EE hin hO rfl i_M t_M tok_M n_M 35 (by decide) rfl fl_M_103 (ty := t_M 35) (by decide +kernel) rfl rfl (Nat.le_of_ble_eq_true rfl) hEo hS d_M_init_252 (fun H252 locs hO hJ hs hS => ?_)
  have hO : va_P D classes [(o, .inr (0, [.int 0, .ref (b + 0), .ref (b + 1), .ref (b + 2), .ref (b + 3), .int 0, .int 0, .int 0, .int 0, .ref (b + 4), .ref (b + 5), .ref (b + 6), .ref (b + 7), .ref (b + 8), .ref (b + 9), .ref (b + 10), .ref (b + 11), .ref (b + 12), .ref (b + 13), .ref (b + 14), .ref (b + 15), .ref (b + 16), .ref (b + 17), .ref (b + 18), .ref (b + 19), .ref (b + 20), .ref (b + 21), .ref (b + 22), .ref (b + 23), .ref (b + 24), .ref (b + 25), .ref (b + 26), .ref (b + 27), .ref (b + 28), .ref (b + 29), .ref (b + 30), .null, .null, .null, .null, .null, .null, .null, .null, .null, .null, .null, .null, .null, .null, .null, .null, .null]))] H252 := hO
  have hV := (vx_obj hG hK.1 hO0 hO hs).trans hV
  have hA := hA.kept hJ
  have hB := hB.one hs ho
  have hsz := (sz_one hJ.1 hs (lt_sz ho hsz)).trans hsz
  refine lv_aload_n hx hb d_M_init_255 rfl (lv_at hl 0 rfl) ?_
  refine lv_bipush (v := nI 32) hx hb d_M_init_256 (by decide +kernel) ?_
  refine vx_newa (cells' := 32) (slots' := 135286) hx hb hG hts rfl (Or.inr (Or.inl rfl)) (by decide +kernel) (by decide) (by decide) rfl rfl (Nat.le_of_ble_eq_true rfl) (Nat.le_of_ble_eq_true rfl) hS hV d_M_init_258 (fun q H258 eq hz a_ l_ hJ hk hS hV => ?_)
  have e_ : q = b + 31 := eq.symm.trans hsz
  subst e_
  have hsz : H258.size = b + 32 := hz
  have hA := hA.kept hJ
  have hO := hO.grown hk
  have hB := hB.grown hk
  have hA := hA.cons a_ l_
  have hO0 := hO
  refine sx_putF EE hin hO rfl i_M t_M tok_M n_M 36 (by decide) rfl fl_M_106 (ty := t_M 36) (by decide +kernel) rfl rfl (Nat.le_of_ble_eq_true rfl) hEo hS d_M_init_260 (fun H260 locs hO hJ hs hS => ?_)
  have hO : va_P D classes [(o, .inr (0, [.int 0, .ref (b + 0), .ref (b + 1), .ref (b + 2), .ref (b + 3), .int 0, .int 0, .int 0, .int 0, .ref (b + 4), .ref (b + 5), .ref (b + 6), .ref (b + 7), .ref (b + 8), .ref (b + 9), .ref (b + 10), .ref (b + 11), .ref (b + 12), .ref (b + 13), .ref (b + 14), .ref (b + 15), .ref (b + 16), .ref (b + 17), .ref (b + 18), .ref (b + 19), .ref (b + 20), .ref (b + 21), .ref (b + 22), .ref (b + 23), .ref (b + 24), .ref (b + 25), .ref (b + 26), .ref (b + 27), .ref (b + 28), .ref (b + 29), .ref (b + 30), .ref (b + 31), .null, .null, .null, .null, .null, .null, .null, .null, .null, .null, .null, .null, .null, .null, .null, .null]))] H260 := hO
  have hV := (vx_obj hG hK.1 hO0 hO hs).trans hV
  have hA := hA.kept hJ
  have hB := hB.one hs ho
  have hsz := (sz_one hJ.1 hs (lt_sz ho hsz)).trans hsz
  refine lv_aload_n hx hb d_M_init_263 rfl (lv_at hl 0 rfl) ?_
  refine lv_bipush (v := nI 32) hx hb d_M_init_264 (by decide +kernel) ?_
  refine vx_newa (cells' := 33) (slots' := 135318) hx hb hG hts rfl (Or.inr (Or.inl rfl)) (by decide +kernel) (by decide) (by decide) rfl rfl (Nat.le_of_ble_eq_true rfl) (Nat.le_of_ble_eq_true rfl) hS hV d_M_init_266 (fun q H266 eq hz a_ l_ hJ hk hS hV => ?_)
  have e_ : q = b + 32 := eq.symm.trans hsz
  subst e_
  have hsz : H266.size = b + 33 := hz
  have hA := hA.kept hJ
  have hO := hO.grown hk
  have hB := hB.grown hk
  have hA := hA.cons a_ l_
  have hO0 := hO
  refine sx_putF EE hin hO rfl i_M t_M tok_M n_M 37 (by decide) rfl fl_M_109 (ty := t_M 37) (by decide +kernel) rfl rfl (Nat.le_of_ble_eq_true rfl) hEo hS d_M_init_268 (fun H268 locs hO hJ hs hS => ?_)
  have hO : va_P D classes [(o, .inr (0, [.int 0, .ref (b + 0), .ref (b + 1), .ref (b + 2), .ref (b + 3), .int 0, .int 0, .int 0, .int 0, .ref (b + 4), .ref (b + 5), .ref (b + 6), .ref (b + 7), .ref (b + 8), .ref (b + 9), .ref (b + 10), .ref (b + 11), .ref (b + 12), .ref (b + 13), .ref (b + 14), .ref (b + 15), .ref (b + 16), .ref (b + 17), .ref (b + 18), .ref (b + 19), .ref (b + 20), .ref (b + 21), .ref (b + 22), .ref (b + 23), .ref (b + 24), .ref (b + 25), .ref (b + 26), .ref (b + 27), .ref (b + 28), .ref (b + 29), .ref (b + 30), .ref (b + 31), .ref (b + 32), .null, .null, .null, .null, .null, .null, .null, .null, .null, .null, .null, .null, .null, .null, .null]))] H268 := hO
  have hV := (vx_obj hG hK.1 hO0 hO hs).trans hV
  have hA := hA.kept hJ
  have hB := hB.one hs ho
  have hsz := (sz_one hJ.1 hs (lt_sz ho hsz)).trans hsz
  refine lv_aload_n hx hb d_M_init_271 rfl (lv_at hl 0 rfl) ?_
  refine lv_ldc (v := nI 65664) hx hb hown (hts (.constant R_M 112 (nI 65664)) (by decide +kernel)) d_M_init_272 ?_
  refine vx_newa (cells' := 34) (slots' := 200982) hx hb hG hts rfl (Or.inr (Or.inl rfl)) (by decide +kernel) (by decide) (by decide) rfl rfl (Nat.le_of_ble_eq_true rfl) (Nat.le_of_ble_eq_true rfl) hS hV d_M_init_274 (fun q H274 eq hz a_ l_ hJ hk hS hV => ?_)
  have e_ : q = b + 33 := eq.symm.trans hsz
  subst e_
  have hsz : H274.size = b + 34 := hz
  have hA := hA.kept hJ
  have hO := hO.grown hk
  have hB := hB.grown hk
  have hA := hA.cons a_ l_
  have hO0 := hO
  refine sx_putF EE hin hO rfl i_M t_M tok_M n_M 38 (by decide) rfl fl_M_113 (ty := t_M 38) (by decide +kernel) rfl rfl (Nat.le_of_ble_eq_true rfl) hEo hS d_M_init_276 (fun H276 locs hO hJ hs hS => ?_)
  have hO : va_P D classes [(o, .inr (0, [.int 0, .ref (b + 0), .ref (b + 1), .ref (b + 2), .ref (b + 3), .int 0, .int 0, .int 0, .int 0, .ref (b + 4), .ref (b + 5), .ref (b + 6), .ref (b + 7), .ref (b + 8), .ref (b + 9), .ref (b + 10), .ref (b + 11), .ref (b + 12), .ref (b + 13), .ref (b + 14), .ref (b + 15), .ref (b + 16), .ref (b + 17), .ref (b + 18), .ref (b + 19), .ref (b + 20), .ref (b + 21), .ref (b + 22), .ref (b + 23), .ref (b + 24), .ref (b + 25), .ref (b + 26), .ref (b + 27), .ref (b + 28), .ref (b + 29), .ref (b + 30), .ref (b + 31), .ref (b + 32), .ref (b + 33), .null, .null, .null, .null, .null, .null, .null, .null, .null, .null, .null, .null, .null, .null]))] H276 := hO
  have hV := (vx_obj hG hK.1 hO0 hO hs).trans hV
  have hA := hA.kept hJ
  have hB := hB.one hs ho
  have hsz := (sz_one hJ.1 hs (lt_sz ho hsz)).trans hsz
  refine lv_aload_n hx hb d_M_init_279 rfl (lv_at hl 0 rfl) ?_
  refine lv_bipush (v := nI 8) hx hb d_M_init_280 (by decide +kernel) ?_
  refine vx_newa (cells' := 35) (slots' := 200990) hx hb hG hts rfl (Or.inr (Or.inr rfl)) (by decide +kernel) (by decide) (by decide) rfl rfl (Nat.le_of_ble_eq_true rfl) (Nat.le_of_ble_eq_true rfl) hS hV d_M_init_282 (fun q H282 eq hz a_ l_ hJ hk hS hV => ?_)
  have e_ : q = b + 34 := eq.symm.trans hsz
  subst e_
  have hsz : H282.size = b + 35 := hz
  have hA := hA.kept hJ
  have hO := hO.grown hk
  have hB := hB.grown hk
  have hA := hA.cons a_ l_
  refine lv_dup hx hb d_M_init_284 rfl ?_
  refine lv_iconst (v := nI 0) hx hb d_M_init_285 (by decide +kernel) ?_
  refine lv_ldc (v := nI 54253) hx hb hown (hts (.constant R_M 116 (nI 54253)) (by decide +kernel)) d_M_init_286 ?_
  refine vx_iastZ (E := fun z => z = (b + 34)) (F := E) (H0 := H282) hx hb hG ⟨sx_J.rf, fun z h => h ▸ hEn _ (Nat.le_add_right _ _), hS.2.2⟩ hV (show sx_A g .int H282 (b + 34) 8 from (hA ((b + 34), .int, 8) (List.mem_of_getElem? (i := 0) rfl)).1) rfl (by decide) (by decide) d_M_init_288 (fun H288 locs X_ eX_ hS1 hV hz => ?_)
  subst eX_
  have hO := hS1.1.ob (fun e => ne_o ho (Nat.le_add_right _ _) (show o = (b + 34) from e).symm) hO
  have hB : obs_ D H288 b [] := obs_.nil
  have hA := hA.kept hS1.1
  have hsz := hz.trans hsz
  have hS : sx_S g E E H0 H288 locs := ⟨hS.1.tr (hS1.1.mono (fun z h => h ▸ hEn _ (Nat.le_add_right _ _))), fun _ h => h, hS1.2.2⟩
  refine lv_dup hx hb d_M_init_289 rfl ?_
  refine lv_iconst (v := nI 1) hx hb d_M_init_290 (by decide +kernel) ?_
  refine lv_sipush (v := nI 23797) hx hb d_M_init_291 (by decide +kernel) ?_
  refine vx_iastZ (E := fun z => z = (b + 34)) (F := E) (H0 := H288) hx hb hG ⟨sx_J.rf, fun z h => h ▸ hEn _ (Nat.le_add_right _ _), hS.2.2⟩ hV (show sx_A g .int H288 (b + 34) 8 from (hA ((b + 34), .int, 8) (List.mem_of_getElem? (i := 0) rfl)).1) rfl (by decide) (by decide) d_M_init_294 (fun H294 locs X_ eX_ hS1 hV hz => ?_)
  subst eX_
  have hO := hS1.1.ob (fun e => ne_o ho (Nat.le_add_right _ _) (show o = (b + 34) from e).symm) hO
  have hB : obs_ D H294 b [] := obs_.nil
  have hA := hA.kept hS1.1
  have hsz := hz.trans hsz
  have hS : sx_S g E E H0 H294 locs := ⟨hS.1.tr (hS1.1.mono (fun z h => h ▸ hEn _ (Nat.le_add_right _ _))), fun _ h => h, hS1.2.2⟩
  refine lv_dup hx hb d_M_init_295 rfl ?_
  refine lv_iconst (v := nI 2) hx hb d_M_init_296 (by decide +kernel) ?_
  refine lv_sipush (v := nI 25370) hx hb d_M_init_297 (by decide +kernel) ?_
  refine vx_iastZ (E := fun z => z = (b + 34)) (F := E) (H0 := H294) hx hb hG ⟨sx_J.rf, fun z h => h ▸ hEn _ (Nat.le_add_right _ _), hS.2.2⟩ hV (show sx_A g .int H294 (b + 34) 8 from (hA ((b + 34), .int, 8) (List.mem_of_getElem? (i := 0) rfl)).1) rfl (by decide) (by decide) d_M_init_300 (fun H300 locs X_ eX_ hS1 hV hz => ?_)
  subst eX_
  have hO := hS1.1.ob (fun e => ne_o ho (Nat.le_add_right _ _) (show o = (b + 34) from e).symm) hO
  have hB : obs_ D H300 b [] := obs_.nil
  have hA := hA.kept hS1.1
  have hsz := hz.trans hsz
  have hS : sx_S g E E H0 H300 locs := ⟨hS.1.tr (hS1.1.mono (fun z h => h ▸ hEn _ (Nat.le_add_right _ _))), fun _ h => h, hS1.2.2⟩
  refine lv_dup hx hb d_M_init_301 rfl ?_
  refine lv_iconst (v := nI 3) hx hb d_M_init_302 (by decide +kernel) ?_
  refine lv_sipush (v := nI 22546) hx hb d_M_init_303 (by decide +kernel) ?_
  refine vx_iastZ (E := fun z => z = (b + 34)) (F := E) (H0 := H300) hx hb hG ⟨sx_J.rf, fun z h => h ▸ hEn _ (Nat.le_add_right _ _), hS.2.2⟩ hV (show sx_A g .int H300 (b + 34) 8 from (hA ((b + 34), .int, 8) (List.mem_of_getElem? (i := 0) rfl)).1) rfl (by decide) (by decide) d_M_init_306 (fun H306 locs X_ eX_ hS1 hV hz => ?_)
  subst eX_
  have hO := hS1.1.ob (fun e => ne_o ho (Nat.le_add_right _ _) (show o = (b + 34) from e).symm) hO
  have hB : obs_ D H306 b [] := obs_.nil
  have hA := hA.kept hS1.1
  have hsz := hz.trans hsz
  have hS : sx_S g E E H0 H306 locs := ⟨hS.1.tr (hS1.1.mono (fun z h => h ▸ hEn _ (Nat.le_add_right _ _))), fun _ h => h, hS1.2.2⟩
  refine lv_dup hx hb d_M_init_307 rfl ?_
  refine lv_iconst (v := nI 4) hx hb d_M_init_308 (by decide +kernel) ?_
  refine lv_ldc (v := nI 40150) hx hb hown (hts (.constant R_M 117 (nI 40150)) (by decide +kernel)) d_M_init_309 ?_
  refine vx_iastZ (E := fun z => z = (b + 34)) (F := E) (H0 := H306) hx hb hG ⟨sx_J.rf, fun z h => h ▸ hEn _ (Nat.le_add_right _ _), hS.2.2⟩ hV (show sx_A g .int H306 (b + 34) 8 from (hA ((b + 34), .int, 8) (List.mem_of_getElem? (i := 0) rfl)).1) rfl (by decide) (by decide) d_M_init_311 (fun H311 locs X_ eX_ hS1 hV hz => ?_)
  subst eX_
  have hO := hS1.1.ob (fun e => ne_o ho (Nat.le_add_right _ _) (show o = (b + 34) from e).symm) hO
  have hB : obs_ D H311 b [] := obs_.nil
  have hA := hA.kept hS1.1
  have hsz := hz.trans hsz
  have hS : sx_S g E E H0 H311 locs := ⟨hS.1.tr (hS1.1.mono (fun z h => h ▸ hEn _ (Nat.le_add_right _ _))), fun _ h => h, hS1.2.2⟩
  refine lv_dup hx hb d_M_init_312 rfl ?_
  refine lv_iconst (v := nI 5) hx hb d_M_init_313 (by decide +kernel) ?_
  refine lv_ldc (v := nI 41719) hx hb hown (hts (.constant R_M 118 (nI 41719)) (by decide +kernel)) d_M_init_314 ?_
  refine vx_iastZ (E := fun z => z = (b + 34)) (F := E) (H0 := H311) hx hb hG ⟨sx_J.rf, fun z h => h ▸ hEn _ (Nat.le_add_right _ _), hS.2.2⟩ hV (show sx_A g .int H311 (b + 34) 8 from (hA ((b + 34), .int, 8) (List.mem_of_getElem? (i := 0) rfl)).1) rfl (by decide) (by decide) d_M_init_316 (fun H316 locs X_ eX_ hS1 hV hz => ?_)
  subst eX_
  have hO := hS1.1.ob (fun e => ne_o ho (Nat.le_add_right _ _) (show o = (b + 34) from e).symm) hO
  have hB : obs_ D H316 b [] := obs_.nil
  have hA := hA.kept hS1.1
  have hsz := hz.trans hsz
  have hS : sx_S g E E H0 H316 locs := ⟨hS.1.tr (hS1.1.mono (fun z h => h ▸ hEn _ (Nat.le_add_right _ _))), fun _ h => h, hS1.2.2⟩
  refine lv_dup hx hb d_M_init_317 rfl ?_
  refine lv_bipush (v := nI 6) hx hb d_M_init_318 (by decide +kernel) ?_
  refine lv_ldc (v := nI 63966) hx hb hown (hts (.constant R_M 119 (nI 63966)) (by decide +kernel)) d_M_init_320 ?_
  refine vx_iastZ (E := fun z => z = (b + 34)) (F := E) (H0 := H316) hx hb hG ⟨sx_J.rf, fun z h => h ▸ hEn _ (Nat.le_add_right _ _), hS.2.2⟩ hV (show sx_A g .int H316 (b + 34) 8 from (hA ((b + 34), .int, 8) (List.mem_of_getElem? (i := 0) rfl)).1) rfl (by decide) (by decide) d_M_init_322 (fun H322 locs X_ eX_ hS1 hV hz => ?_)
  subst eX_
  have hO := hS1.1.ob (fun e => ne_o ho (Nat.le_add_right _ _) (show o = (b + 34) from e).symm) hO
  have hB : obs_ D H322 b [] := obs_.nil
  have hA := hA.kept hS1.1
  have hsz := hz.trans hsz
  have hS : sx_S g E E H0 H322 locs := ⟨hS.1.tr (hS1.1.mono (fun z h => h ▸ hEn _ (Nat.le_add_right _ _))), fun _ h => h, hS1.2.2⟩
  refine lv_dup hx hb d_M_init_323 rfl ?_
  refine lv_bipush (v := nI 7) hx hb d_M_init_324 (by decide +kernel) ?_
  refine lv_sipush (v := nI 5342) hx hb d_M_init_326 (by decide +kernel) ?_
  refine vx_iastZ (E := fun z => z = (b + 34)) (F := E) (H0 := H322) hx hb hG ⟨sx_J.rf, fun z h => h ▸ hEn _ (Nat.le_add_right _ _), hS.2.2⟩ hV (show sx_A g .int H322 (b + 34) 8 from (hA ((b + 34), .int, 8) (List.mem_of_getElem? (i := 0) rfl)).1) rfl (by decide) (by decide) d_M_init_329 (fun H329 locs X_ eX_ hS1 hV hz => ?_)
  subst eX_
  have hO := hS1.1.ob (fun e => ne_o ho (Nat.le_add_right _ _) (show o = (b + 34) from e).symm) hO
  have hB : obs_ D H329 b [] := obs_.nil
  have hA := hA.kept hS1.1
  have hsz := hz.trans hsz
  have hS : sx_S g E E H0 H329 locs := ⟨hS.1.tr (hS1.1.mono (fun z h => h ▸ hEn _ (Nat.le_add_right _ _))), fun _ h => h, hS1.2.2⟩
  have hO0 := hO
  refine sx_putF EE hin hO rfl i_M t_M tok_M n_M 39 (by decide) rfl fl_M_120 (ty := t_M 39) (by decide +kernel) rfl rfl (Nat.le_of_ble_eq_true rfl) hEo hS d_M_init_330 (fun H330 locs hO hJ hs hS => ?_)
  have hO : va_P D classes [(o, .inr (0, [.int 0, .ref (b + 0), .ref (b + 1), .ref (b + 2), .ref (b + 3), .int 0, .int 0, .int 0, .int 0, .ref (b + 4), .ref (b + 5), .ref (b + 6), .ref (b + 7), .ref (b + 8), .ref (b + 9), .ref (b + 10), .ref (b + 11), .ref (b + 12), .ref (b + 13), .ref (b + 14), .ref (b + 15), .ref (b + 16), .ref (b + 17), .ref (b + 18), .ref (b + 19), .ref (b + 20), .ref (b + 21), .ref (b + 22), .ref (b + 23), .ref (b + 24), .ref (b + 25), .ref (b + 26), .ref (b + 27), .ref (b + 28), .ref (b + 29), .ref (b + 30), .ref (b + 31), .ref (b + 32), .ref (b + 33), .ref (b + 34), .null, .null, .null, .null, .null, .null, .null, .null, .null, .null, .null, .null, .null]))] H330 := hO
  have hV := (vx_obj hG hK.1 hO0 hO hs).trans hV
  have hA := hA.kept hJ
  have hB := hB.one hs ho
  have hsz := (sz_one hJ.1 hs (lt_sz ho hsz)).trans hsz
  refine lv_aload_n hx hb d_M_init_333 rfl (lv_at hl 0 rfl) ?_
  refine lv_bipush (v := nI 32) hx hb d_M_init_334 (by decide +kernel) ?_
  refine vx_newa (cells' := 36) (slots' := 201022) hx hb hG hts rfl (Or.inl rfl) (by decide +kernel) (by decide) (by decide) rfl rfl (Nat.le_of_ble_eq_true rfl) (Nat.le_of_ble_eq_true rfl) hS hV d_M_init_336 (fun q H336 eq hz a_ l_ hJ hk hS hV => ?_)
  have e_ : q = b + 35 := eq.symm.trans hsz
  subst e_
  have hsz : H336.size = b + 36 := hz
  have hA := hA.kept hJ
  have hO := hO.grown hk
  have hB := hB.grown hk
  have hA := hA.cons a_ l_
  have hO0 := hO
  refine sx_putF EE hin hO rfl i_M t_M tok_M n_M 40 (by decide) rfl fl_M_123 (ty := t_M 40) (by decide +kernel) rfl rfl (Nat.le_of_ble_eq_true rfl) hEo hS d_M_init_338 (fun H338 locs hO hJ hs hS => ?_)
  have hO : va_P D classes [(o, .inr (0, [.int 0, .ref (b + 0), .ref (b + 1), .ref (b + 2), .ref (b + 3), .int 0, .int 0, .int 0, .int 0, .ref (b + 4), .ref (b + 5), .ref (b + 6), .ref (b + 7), .ref (b + 8), .ref (b + 9), .ref (b + 10), .ref (b + 11), .ref (b + 12), .ref (b + 13), .ref (b + 14), .ref (b + 15), .ref (b + 16), .ref (b + 17), .ref (b + 18), .ref (b + 19), .ref (b + 20), .ref (b + 21), .ref (b + 22), .ref (b + 23), .ref (b + 24), .ref (b + 25), .ref (b + 26), .ref (b + 27), .ref (b + 28), .ref (b + 29), .ref (b + 30), .ref (b + 31), .ref (b + 32), .ref (b + 33), .ref (b + 34), .ref (b + 35), .null, .null, .null, .null, .null, .null, .null, .null, .null, .null, .null, .null]))] H338 := hO
  have hV := (vx_obj hG hK.1 hO0 hO hs).trans hV
  have hA := hA.kept hJ
  have hB := hB.one hs ho
  have hsz := (sz_one hJ.1 hs (lt_sz ho hsz)).trans hsz
  refine lv_aload_n hx hb d_M_init_341 rfl (lv_at hl 0 rfl) ?_
  refine lv_bipush (v := nI 18) hx hb d_M_init_342 (by decide +kernel) ?_
  refine vx_newa (cells' := 37) (slots' := 201040) hx hb hG hts rfl (Or.inl rfl) (by decide +kernel) (by decide) (by decide) rfl rfl (Nat.le_of_ble_eq_true rfl) (Nat.le_of_ble_eq_true rfl) hS hV d_M_init_344 (fun q H344 eq hz a_ l_ hJ hk hS hV => ?_)
  have e_ : q = b + 36 := eq.symm.trans hsz
  subst e_
  have hsz : H344.size = b + 37 := hz
  have hA := hA.kept hJ
  have hO := hO.grown hk
  have hB := hB.grown hk
  have hA := hA.cons a_ l_
  have hO0 := hO
  refine sx_putF EE hin hO rfl i_M t_M tok_M n_M 41 (by decide) rfl fl_M_126 (ty := t_M 41) (by decide +kernel) rfl rfl (Nat.le_of_ble_eq_true rfl) hEo hS d_M_init_346 (fun H346 locs hO hJ hs hS => ?_)
  have hO : va_P D classes [(o, .inr (0, [.int 0, .ref (b + 0), .ref (b + 1), .ref (b + 2), .ref (b + 3), .int 0, .int 0, .int 0, .int 0, .ref (b + 4), .ref (b + 5), .ref (b + 6), .ref (b + 7), .ref (b + 8), .ref (b + 9), .ref (b + 10), .ref (b + 11), .ref (b + 12), .ref (b + 13), .ref (b + 14), .ref (b + 15), .ref (b + 16), .ref (b + 17), .ref (b + 18), .ref (b + 19), .ref (b + 20), .ref (b + 21), .ref (b + 22), .ref (b + 23), .ref (b + 24), .ref (b + 25), .ref (b + 26), .ref (b + 27), .ref (b + 28), .ref (b + 29), .ref (b + 30), .ref (b + 31), .ref (b + 32), .ref (b + 33), .ref (b + 34), .ref (b + 35), .ref (b + 36), .null, .null, .null, .null, .null, .null, .null, .null, .null, .null, .null]))] H346 := hO
  have hV := (vx_obj hG hK.1 hO0 hO hs).trans hV
  have hA := hA.kept hJ
  have hB := hB.one hs ho
  have hsz := (sz_one hJ.1 hs (lt_sz ho hsz)).trans hsz
  refine lv_aload_n hx hb d_M_init_349 rfl (lv_at hl 0 rfl) ?_
  refine lv_bipush (v := nI 16) hx hb d_M_init_350 (by decide +kernel) ?_
  refine vx_newa (cells' := 38) (slots' := 201056) hx hb hG hts rfl (Or.inl rfl) (by decide +kernel) (by decide) (by decide) rfl rfl (Nat.le_of_ble_eq_true rfl) (Nat.le_of_ble_eq_true rfl) hS hV d_M_init_352 (fun q H352 eq hz a_ l_ hJ hk hS hV => ?_)
  have e_ : q = b + 37 := eq.symm.trans hsz
  subst e_
  have hsz : H352.size = b + 38 := hz
  have hA := hA.kept hJ
  have hO := hO.grown hk
  have hB := hB.grown hk
  have hA := hA.cons a_ l_
  have hO0 := hO
  refine sx_putF EE hin hO rfl i_M t_M tok_M n_M 42 (by decide) rfl fl_M_129 (ty := t_M 42) (by decide +kernel) rfl rfl (Nat.le_of_ble_eq_true rfl) hEo hS d_M_init_354 (fun H354 locs hO hJ hs hS => ?_)
  have hO : va_P D classes [(o, .inr (0, [.int 0, .ref (b + 0), .ref (b + 1), .ref (b + 2), .ref (b + 3), .int 0, .int 0, .int 0, .int 0, .ref (b + 4), .ref (b + 5), .ref (b + 6), .ref (b + 7), .ref (b + 8), .ref (b + 9), .ref (b + 10), .ref (b + 11), .ref (b + 12), .ref (b + 13), .ref (b + 14), .ref (b + 15), .ref (b + 16), .ref (b + 17), .ref (b + 18), .ref (b + 19), .ref (b + 20), .ref (b + 21), .ref (b + 22), .ref (b + 23), .ref (b + 24), .ref (b + 25), .ref (b + 26), .ref (b + 27), .ref (b + 28), .ref (b + 29), .ref (b + 30), .ref (b + 31), .ref (b + 32), .ref (b + 33), .ref (b + 34), .ref (b + 35), .ref (b + 36), .ref (b + 37), .null, .null, .null, .null, .null, .null, .null, .null, .null, .null]))] H354 := hO
  have hV := (vx_obj hG hK.1 hO0 hO hs).trans hV
  have hA := hA.kept hJ
  have hB := hB.one hs ho
  have hsz := (sz_one hJ.1 hs (lt_sz ho hsz)).trans hsz
  refine lv_aload_n hx hb d_M_init_357 rfl (lv_at hl 0 rfl) ?_
  refine lv_bipush (v := nI 16) hx hb d_M_init_358 (by decide +kernel) ?_
  refine vx_newa (cells' := 39) (slots' := 201072) hx hb hG hts rfl (Or.inl rfl) (by decide +kernel) (by decide) (by decide) rfl rfl (Nat.le_of_ble_eq_true rfl) (Nat.le_of_ble_eq_true rfl) hS hV d_M_init_360 (fun q H360 eq hz a_ l_ hJ hk hS hV => ?_)
  have e_ : q = b + 38 := eq.symm.trans hsz
  subst e_
  have hsz : H360.size = b + 39 := hz
  have hA := hA.kept hJ
  have hO := hO.grown hk
  have hB := hB.grown hk
  have hA := hA.cons a_ l_
  have hO0 := hO
  refine sx_putF EE hin hO rfl i_M t_M tok_M n_M 43 (by decide) rfl fl_M_132 (ty := t_M 43) (by decide +kernel) rfl rfl (Nat.le_of_ble_eq_true rfl) hEo hS d_M_init_362 (fun H362 locs hO hJ hs hS => ?_)
  have hO : va_P D classes [(o, .inr (0, [.int 0, .ref (b + 0), .ref (b + 1), .ref (b + 2), .ref (b + 3), .int 0, .int 0, .int 0, .int 0, .ref (b + 4), .ref (b + 5), .ref (b + 6), .ref (b + 7), .ref (b + 8), .ref (b + 9), .ref (b + 10), .ref (b + 11), .ref (b + 12), .ref (b + 13), .ref (b + 14), .ref (b + 15), .ref (b + 16), .ref (b + 17), .ref (b + 18), .ref (b + 19), .ref (b + 20), .ref (b + 21), .ref (b + 22), .ref (b + 23), .ref (b + 24), .ref (b + 25), .ref (b + 26), .ref (b + 27), .ref (b + 28), .ref (b + 29), .ref (b + 30), .ref (b + 31), .ref (b + 32), .ref (b + 33), .ref (b + 34), .ref (b + 35), .ref (b + 36), .ref (b + 37), .ref (b + 38), .null, .null, .null, .null, .null, .null, .null, .null, .null]))] H362 := hO
  have hV := (vx_obj hG hK.1 hO0 hO hs).trans hV
  have hA := hA.kept hJ
  have hB := hB.one hs ho
  have hsz := (sz_one hJ.1 hs (lt_sz ho hsz)).trans hsz
  refine lv_aload_n hx hb d_M_init_365 rfl (lv_at hl 0 rfl) ?_
  refine lv_bipush (v := nI 17) hx hb d_M_init_366 (by decide +kernel) ?_
  refine vx_newa (cells' := 40) (slots' := 201089) hx hb hG hts rfl (Or.inl rfl) (by decide +kernel) (by decide) (by decide) rfl rfl (Nat.le_of_ble_eq_true rfl) (Nat.le_of_ble_eq_true rfl) hS hV d_M_init_368 (fun q H368 eq hz a_ l_ hJ hk hS hV => ?_)
  have e_ : q = b + 39 := eq.symm.trans hsz
  subst e_
  have hsz : H368.size = b + 40 := hz
  have hA := hA.kept hJ
  have hO := hO.grown hk
  have hB := hB.grown hk
  have hA := hA.cons a_ l_
  have hO0 := hO
  refine sx_putF EE hin hO rfl i_M t_M tok_M n_M 44 (by decide) rfl fl_M_135 (ty := t_M 44) (by decide +kernel) rfl rfl (Nat.le_of_ble_eq_true rfl) hEo hS d_M_init_370 (fun H370 locs hO hJ hs hS => ?_)
  have hO : va_P D classes [(o, .inr (0, [.int 0, .ref (b + 0), .ref (b + 1), .ref (b + 2), .ref (b + 3), .int 0, .int 0, .int 0, .int 0, .ref (b + 4), .ref (b + 5), .ref (b + 6), .ref (b + 7), .ref (b + 8), .ref (b + 9), .ref (b + 10), .ref (b + 11), .ref (b + 12), .ref (b + 13), .ref (b + 14), .ref (b + 15), .ref (b + 16), .ref (b + 17), .ref (b + 18), .ref (b + 19), .ref (b + 20), .ref (b + 21), .ref (b + 22), .ref (b + 23), .ref (b + 24), .ref (b + 25), .ref (b + 26), .ref (b + 27), .ref (b + 28), .ref (b + 29), .ref (b + 30), .ref (b + 31), .ref (b + 32), .ref (b + 33), .ref (b + 34), .ref (b + 35), .ref (b + 36), .ref (b + 37), .ref (b + 38), .ref (b + 39), .null, .null, .null, .null, .null, .null, .null, .null]))] H370 := hO
  have hV := (vx_obj hG hK.1 hO0 hO hs).trans hV
  have hA := hA.kept hJ
  have hB := hB.one hs ho
  have hsz := (sz_one hJ.1 hs (lt_sz ho hsz)).trans hsz
  refine lv_aload_n hx hb d_M_init_373 rfl (lv_at hl 0 rfl) ?_
  refine lv_bipush (v := nI 17) hx hb d_M_init_374 (by decide +kernel) ?_
  refine vx_newa (cells' := 41) (slots' := 201106) hx hb hG hts rfl (Or.inl rfl) (by decide +kernel) (by decide) (by decide) rfl rfl (Nat.le_of_ble_eq_true rfl) (Nat.le_of_ble_eq_true rfl) hS hV d_M_init_376 (fun q H376 eq hz a_ l_ hJ hk hS hV => ?_)
  have e_ : q = b + 40 := eq.symm.trans hsz
  subst e_
  have hsz : H376.size = b + 41 := hz
  have hA := hA.kept hJ
  have hO := hO.grown hk
  have hB := hB.grown hk
  have hA := hA.cons a_ l_
  have hO0 := hO
  refine sx_putF EE hin hO rfl i_M t_M tok_M n_M 45 (by decide) rfl fl_M_138 (ty := t_M 45) (by decide +kernel) rfl rfl (Nat.le_of_ble_eq_true rfl) hEo hS d_M_init_378 (fun H378 locs hO hJ hs hS => ?_)
  have hO : va_P D classes [(o, .inr (0, [.int 0, .ref (b + 0), .ref (b + 1), .ref (b + 2), .ref (b + 3), .int 0, .int 0, .int 0, .int 0, .ref (b + 4), .ref (b + 5), .ref (b + 6), .ref (b + 7), .ref (b + 8), .ref (b + 9), .ref (b + 10), .ref (b + 11), .ref (b + 12), .ref (b + 13), .ref (b + 14), .ref (b + 15), .ref (b + 16), .ref (b + 17), .ref (b + 18), .ref (b + 19), .ref (b + 20), .ref (b + 21), .ref (b + 22), .ref (b + 23), .ref (b + 24), .ref (b + 25), .ref (b + 26), .ref (b + 27), .ref (b + 28), .ref (b + 29), .ref (b + 30), .ref (b + 31), .ref (b + 32), .ref (b + 33), .ref (b + 34), .ref (b + 35), .ref (b + 36), .ref (b + 37), .ref (b + 38), .ref (b + 39), .ref (b + 40), .null, .null, .null, .null, .null, .null, .null]))] H378 := hO
  have hV := (vx_obj hG hK.1 hO0 hO hs).trans hV
  have hA := hA.kept hJ
  have hB := hB.one hs ho
  have hsz := (sz_one hJ.1 hs (lt_sz ho hsz)).trans hsz
  refine lv_aload_n hx hb d_M_init_381 rfl (lv_at hl 0 rfl) ?_
  refine lv_bipush (v := nI 80) hx hb d_M_init_382 (by decide +kernel) ?_
  refine vx_newa (cells' := 42) (slots' := 201186) hx hb hG hts rfl (Or.inl rfl) (by decide +kernel) (by decide) (by decide) rfl rfl (Nat.le_of_ble_eq_true rfl) (Nat.le_of_ble_eq_true rfl) hS hV d_M_init_384 (fun q H384 eq hz a_ l_ hJ hk hS hV => ?_)
  have e_ : q = b + 41 := eq.symm.trans hsz
  subst e_
  have hsz : H384.size = b + 42 := hz
  have hA := hA.kept hJ
  have hO := hO.grown hk
  have hB := hB.grown hk
  have hA := hA.cons a_ l_
  have hO0 := hO
  refine sx_putF EE hin hO rfl i_M t_M tok_M n_M 46 (by decide) rfl fl_M_141 (ty := t_M 46) (by decide +kernel) rfl rfl (Nat.le_of_ble_eq_true rfl) hEo hS d_M_init_386 (fun H386 locs hO hJ hs hS => ?_)
  have hO : va_P D classes [(o, .inr (0, [.int 0, .ref (b + 0), .ref (b + 1), .ref (b + 2), .ref (b + 3), .int 0, .int 0, .int 0, .int 0, .ref (b + 4), .ref (b + 5), .ref (b + 6), .ref (b + 7), .ref (b + 8), .ref (b + 9), .ref (b + 10), .ref (b + 11), .ref (b + 12), .ref (b + 13), .ref (b + 14), .ref (b + 15), .ref (b + 16), .ref (b + 17), .ref (b + 18), .ref (b + 19), .ref (b + 20), .ref (b + 21), .ref (b + 22), .ref (b + 23), .ref (b + 24), .ref (b + 25), .ref (b + 26), .ref (b + 27), .ref (b + 28), .ref (b + 29), .ref (b + 30), .ref (b + 31), .ref (b + 32), .ref (b + 33), .ref (b + 34), .ref (b + 35), .ref (b + 36), .ref (b + 37), .ref (b + 38), .ref (b + 39), .ref (b + 40), .ref (b + 41), .null, .null, .null, .null, .null, .null]))] H386 := hO
  have hV := (vx_obj hG hK.1 hO0 hO hs).trans hV
  have hA := hA.kept hJ
  have hB := hB.one hs ho
  have hsz := (sz_one hJ.1 hs (lt_sz ho hsz)).trans hsz
  refine lv_aload_n hx hb d_M_init_389 rfl (lv_at hl 0 rfl) ?_
  refine lv_bipush (v := nI 8) hx hb d_M_init_390 (by decide +kernel) ?_
  refine vx_newa (cells' := 43) (slots' := 201194) hx hb hG hts rfl (Or.inl rfl) (by decide +kernel) (by decide) (by decide) rfl rfl (Nat.le_of_ble_eq_true rfl) (Nat.le_of_ble_eq_true rfl) hS hV d_M_init_392 (fun q H392 eq hz a_ l_ hJ hk hS hV => ?_)
  have e_ : q = b + 42 := eq.symm.trans hsz
  subst e_
  have hsz : H392.size = b + 43 := hz
  have hA := hA.kept hJ
  have hO := hO.grown hk
  have hB := hB.grown hk
  have hA := hA.cons a_ l_
  have hO0 := hO
  refine sx_putF EE hin hO rfl i_M t_M tok_M n_M 47 (by decide) rfl fl_M_144 (ty := t_M 47) (by decide +kernel) rfl rfl (Nat.le_of_ble_eq_true rfl) hEo hS d_M_init_394 (fun H394 locs hO hJ hs hS => ?_)
  have hO : va_P D classes [(o, .inr (0, [.int 0, .ref (b + 0), .ref (b + 1), .ref (b + 2), .ref (b + 3), .int 0, .int 0, .int 0, .int 0, .ref (b + 4), .ref (b + 5), .ref (b + 6), .ref (b + 7), .ref (b + 8), .ref (b + 9), .ref (b + 10), .ref (b + 11), .ref (b + 12), .ref (b + 13), .ref (b + 14), .ref (b + 15), .ref (b + 16), .ref (b + 17), .ref (b + 18), .ref (b + 19), .ref (b + 20), .ref (b + 21), .ref (b + 22), .ref (b + 23), .ref (b + 24), .ref (b + 25), .ref (b + 26), .ref (b + 27), .ref (b + 28), .ref (b + 29), .ref (b + 30), .ref (b + 31), .ref (b + 32), .ref (b + 33), .ref (b + 34), .ref (b + 35), .ref (b + 36), .ref (b + 37), .ref (b + 38), .ref (b + 39), .ref (b + 40), .ref (b + 41), .ref (b + 42), .null, .null, .null, .null, .null]))] H394 := hO
  have hV := (vx_obj hG hK.1 hO0 hO hs).trans hV
  have hA := hA.kept hJ
  have hB := hB.one hs ho
  have hsz := (sz_one hJ.1 hs (lt_sz ho hsz)).trans hsz
  refine lv_aload_n hx hb d_M_init_397 rfl (lv_at hl 0 rfl) ?_
  refine lv_bipush (v := nI 80) hx hb d_M_init_398 (by decide +kernel) ?_
  refine vx_newa (cells' := 44) (slots' := 201274) hx hb hG hts rfl (Or.inl rfl) (by decide +kernel) (by decide) (by decide) rfl rfl (Nat.le_of_ble_eq_true rfl) (Nat.le_of_ble_eq_true rfl) hS hV d_M_init_400 (fun q H400 eq hz a_ l_ hJ hk hS hV => ?_)
  have e_ : q = b + 43 := eq.symm.trans hsz
  subst e_
  have hsz : H400.size = b + 44 := hz
  have hA := hA.kept hJ
  have hO := hO.grown hk
  have hB := hB.grown hk
  have hA := hA.cons a_ l_
  have hO0 := hO
  refine sx_putF EE hin hO rfl i_M t_M tok_M n_M 48 (by decide) rfl fl_M_147 (ty := t_M 48) (by decide +kernel) rfl rfl (Nat.le_of_ble_eq_true rfl) hEo hS d_M_init_402 (fun H402 locs hO hJ hs hS => ?_)
  have hO : va_P D classes [(o, .inr (0, [.int 0, .ref (b + 0), .ref (b + 1), .ref (b + 2), .ref (b + 3), .int 0, .int 0, .int 0, .int 0, .ref (b + 4), .ref (b + 5), .ref (b + 6), .ref (b + 7), .ref (b + 8), .ref (b + 9), .ref (b + 10), .ref (b + 11), .ref (b + 12), .ref (b + 13), .ref (b + 14), .ref (b + 15), .ref (b + 16), .ref (b + 17), .ref (b + 18), .ref (b + 19), .ref (b + 20), .ref (b + 21), .ref (b + 22), .ref (b + 23), .ref (b + 24), .ref (b + 25), .ref (b + 26), .ref (b + 27), .ref (b + 28), .ref (b + 29), .ref (b + 30), .ref (b + 31), .ref (b + 32), .ref (b + 33), .ref (b + 34), .ref (b + 35), .ref (b + 36), .ref (b + 37), .ref (b + 38), .ref (b + 39), .ref (b + 40), .ref (b + 41), .ref (b + 42), .ref (b + 43), .null, .null, .null, .null]))] H402 := hO
  have hV := (vx_obj hG hK.1 hO0 hO hs).trans hV
  have hA := hA.kept hJ
  have hB := hB.one hs ho
  have hsz := (sz_one hJ.1 hs (lt_sz ho hsz)).trans hsz
  refine lv_aload_n hx hb d_M_init_405 rfl (lv_at hl 0 rfl) ?_
  refine lv_bipush (v := nI 8) hx hb d_M_init_406 (by decide +kernel) ?_
  refine vx_newa (cells' := 45) (slots' := 201282) hx hb hG hts rfl (Or.inl rfl) (by decide +kernel) (by decide) (by decide) rfl rfl (Nat.le_of_ble_eq_true rfl) (Nat.le_of_ble_eq_true rfl) hS hV d_M_init_408 (fun q H408 eq hz a_ l_ hJ hk hS hV => ?_)
  have e_ : q = b + 44 := eq.symm.trans hsz
  subst e_
  have hsz : H408.size = b + 45 := hz
  have hA := hA.kept hJ
  have hO := hO.grown hk
  have hB := hB.grown hk
  have hA := hA.cons a_ l_
  have hO0 := hO
  refine sx_putF EE hin hO rfl i_M t_M tok_M n_M 49 (by decide) rfl fl_M_150 (ty := t_M 49) (by decide +kernel) rfl rfl (Nat.le_of_ble_eq_true rfl) hEo hS d_M_init_410 (fun H410 locs hO hJ hs hS => ?_)
  have hO : va_P D classes [(o, .inr (0, [.int 0, .ref (b + 0), .ref (b + 1), .ref (b + 2), .ref (b + 3), .int 0, .int 0, .int 0, .int 0, .ref (b + 4), .ref (b + 5), .ref (b + 6), .ref (b + 7), .ref (b + 8), .ref (b + 9), .ref (b + 10), .ref (b + 11), .ref (b + 12), .ref (b + 13), .ref (b + 14), .ref (b + 15), .ref (b + 16), .ref (b + 17), .ref (b + 18), .ref (b + 19), .ref (b + 20), .ref (b + 21), .ref (b + 22), .ref (b + 23), .ref (b + 24), .ref (b + 25), .ref (b + 26), .ref (b + 27), .ref (b + 28), .ref (b + 29), .ref (b + 30), .ref (b + 31), .ref (b + 32), .ref (b + 33), .ref (b + 34), .ref (b + 35), .ref (b + 36), .ref (b + 37), .ref (b + 38), .ref (b + 39), .ref (b + 40), .ref (b + 41), .ref (b + 42), .ref (b + 43), .ref (b + 44), .null, .null, .null]))] H410 := hO
  have hV := (vx_obj hG hK.1 hO0 hO hs).trans hV
  have hA := hA.kept hJ
  have hB := hB.one hs ho
  have hsz := (sz_one hJ.1 hs (lt_sz ho hsz)).trans hsz
  refine lv_aload_n hx hb d_M_init_413 rfl (lv_at hl 0 rfl) ?_
  refine lv_bipush (v := nI 8) hx hb d_M_init_414 (by decide +kernel) ?_
  refine vx_newa (cells' := 46) (slots' := 201290) hx hb hG hts rfl (Or.inl rfl) (by decide +kernel) (by decide) (by decide) rfl rfl (Nat.le_of_ble_eq_true rfl) (Nat.le_of_ble_eq_true rfl) hS hV d_M_init_416 (fun q H416 eq hz a_ l_ hJ hk hS hV => ?_)
  have e_ : q = b + 45 := eq.symm.trans hsz
  subst e_
  have hsz : H416.size = b + 46 := hz
  have hA := hA.kept hJ
  have hO := hO.grown hk
  have hB := hB.grown hk
  have hA := hA.cons a_ l_
  have hO0 := hO
  refine sx_putF EE hin hO rfl i_M t_M tok_M n_M 50 (by decide) rfl fl_M_153 (ty := t_M 50) (by decide +kernel) rfl rfl (Nat.le_of_ble_eq_true rfl) hEo hS d_M_init_418 (fun H418 locs hO hJ hs hS => ?_)
  have hO : va_P D classes [(o, .inr (0, [.int 0, .ref (b + 0), .ref (b + 1), .ref (b + 2), .ref (b + 3), .int 0, .int 0, .int 0, .int 0, .ref (b + 4), .ref (b + 5), .ref (b + 6), .ref (b + 7), .ref (b + 8), .ref (b + 9), .ref (b + 10), .ref (b + 11), .ref (b + 12), .ref (b + 13), .ref (b + 14), .ref (b + 15), .ref (b + 16), .ref (b + 17), .ref (b + 18), .ref (b + 19), .ref (b + 20), .ref (b + 21), .ref (b + 22), .ref (b + 23), .ref (b + 24), .ref (b + 25), .ref (b + 26), .ref (b + 27), .ref (b + 28), .ref (b + 29), .ref (b + 30), .ref (b + 31), .ref (b + 32), .ref (b + 33), .ref (b + 34), .ref (b + 35), .ref (b + 36), .ref (b + 37), .ref (b + 38), .ref (b + 39), .ref (b + 40), .ref (b + 41), .ref (b + 42), .ref (b + 43), .ref (b + 44), .ref (b + 45), .null, .null]))] H418 := hO
  have hV := (vx_obj hG hK.1 hO0 hO hs).trans hV
  have hA := hA.kept hJ
  have hB := hB.one hs ho
  have hsz := (sz_one hJ.1 hs (lt_sz ho hsz)).trans hsz
  refine lv_aload_n hx hb d_M_init_421 rfl (lv_at hl 0 rfl) ?_
  refine lv_bipush (v := nI 8) hx hb d_M_init_422 (by decide +kernel) ?_
  refine vx_newa (cells' := 47) (slots' := 201298) hx hb hG hts rfl (Or.inl rfl) (by decide +kernel) (by decide) (by decide) rfl rfl (Nat.le_of_ble_eq_true rfl) (Nat.le_of_ble_eq_true rfl) hS hV d_M_init_424 (fun q H424 eq hz a_ l_ hJ hk hS hV => ?_)
  have e_ : q = b + 46 := eq.symm.trans hsz
  subst e_
  have hsz : H424.size = b + 47 := hz
  have hA := hA.kept hJ
  have hO := hO.grown hk
  have hB := hB.grown hk
  have hA := hA.cons a_ l_
  have hO0 := hO
  refine sx_putF EE hin hO rfl i_M t_M tok_M n_M 51 (by decide) rfl fl_M_156 (ty := t_M 51) (by decide +kernel) rfl rfl (Nat.le_of_ble_eq_true rfl) hEo hS d_M_init_426 (fun H426 locs hO hJ hs hS => ?_)
  have hO : va_P D classes [(o, .inr (0, [.int 0, .ref (b + 0), .ref (b + 1), .ref (b + 2), .ref (b + 3), .int 0, .int 0, .int 0, .int 0, .ref (b + 4), .ref (b + 5), .ref (b + 6), .ref (b + 7), .ref (b + 8), .ref (b + 9), .ref (b + 10), .ref (b + 11), .ref (b + 12), .ref (b + 13), .ref (b + 14), .ref (b + 15), .ref (b + 16), .ref (b + 17), .ref (b + 18), .ref (b + 19), .ref (b + 20), .ref (b + 21), .ref (b + 22), .ref (b + 23), .ref (b + 24), .ref (b + 25), .ref (b + 26), .ref (b + 27), .ref (b + 28), .ref (b + 29), .ref (b + 30), .ref (b + 31), .ref (b + 32), .ref (b + 33), .ref (b + 34), .ref (b + 35), .ref (b + 36), .ref (b + 37), .ref (b + 38), .ref (b + 39), .ref (b + 40), .ref (b + 41), .ref (b + 42), .ref (b + 43), .ref (b + 44), .ref (b + 45), .ref (b + 46), .null]))] H426 := hO
  have hV := (vx_obj hG hK.1 hO0 hO hs).trans hV
  have hA := hA.kept hJ
  have hB := hB.one hs ho
  have hsz := (sz_one hJ.1 hs (lt_sz ho hsz)).trans hsz
  refine lv_aload_n hx hb d_M_init_429 rfl (lv_at hl 0 rfl) ?_
  refine lv_bipush (v := nI 64) hx hb d_M_init_430 (by decide +kernel) ?_
  refine vx_newa (cells' := 48) (slots' := 201362) hx hb hG hts rfl (Or.inr (Or.inl rfl)) (by decide +kernel) (by decide) (by decide) rfl rfl (Nat.le_of_ble_eq_true rfl) (Nat.le_of_ble_eq_true rfl) hS hV d_M_init_432 (fun q H432 eq hz a_ l_ hJ hk hS hV => ?_)
  have e_ : q = b + 47 := eq.symm.trans hsz
  subst e_
  have hsz : H432.size = b + 48 := hz
  have hA := hA.kept hJ
  have hO := hO.grown hk
  have hB := hB.grown hk
  have hA := hA.cons a_ l_
  have hO0 := hO
  refine sx_putF EE hin hO rfl i_M t_M tok_M n_M 52 (by decide) rfl fl_M_159 (ty := t_M 52) (by decide +kernel) rfl rfl (Nat.le_of_ble_eq_true rfl) hEo hS d_M_init_434 (fun H434 locs hO hJ hs hS => ?_)
  have hO : va_P D classes [(o, .inr (0, [.int 0, .ref (b + 0), .ref (b + 1), .ref (b + 2), .ref (b + 3), .int 0, .int 0, .int 0, .int 0, .ref (b + 4), .ref (b + 5), .ref (b + 6), .ref (b + 7), .ref (b + 8), .ref (b + 9), .ref (b + 10), .ref (b + 11), .ref (b + 12), .ref (b + 13), .ref (b + 14), .ref (b + 15), .ref (b + 16), .ref (b + 17), .ref (b + 18), .ref (b + 19), .ref (b + 20), .ref (b + 21), .ref (b + 22), .ref (b + 23), .ref (b + 24), .ref (b + 25), .ref (b + 26), .ref (b + 27), .ref (b + 28), .ref (b + 29), .ref (b + 30), .ref (b + 31), .ref (b + 32), .ref (b + 33), .ref (b + 34), .ref (b + 35), .ref (b + 36), .ref (b + 37), .ref (b + 38), .ref (b + 39), .ref (b + 40), .ref (b + 41), .ref (b + 42), .ref (b + 43), .ref (b + 44), .ref (b + 45), .ref (b + 46), .ref (b + 47)]))] H434 := hO
  have hV := (vx_obj hG hK.1 hO0 hO hs).trans hV
  have hA := hA.kept hJ
  have hB := hB.one hs ho
  have hsz := (sz_one hJ.1 hs (lt_sz ho hsz)).trans hsz
  have hO : va_P D classes [(o, .inr (0, mo_fs (mrr b) (fun _ => 0)))] H434 := hO
  have hA : ∀ q ∈ mo_arr, sx_A g q.2.1 H434 (mrr b q.1) q.2.2 := by
    intro q hq
    simp only [mo_arr, List.mem_cons, List.not_mem_nil, or_false] at hq
    rcases hq with rfl | rfl | rfl | rfl | rfl | rfl | rfl | rfl | rfl | rfl | rfl | rfl | rfl | rfl | rfl | rfl | rfl | rfl | rfl | rfl | rfl | rfl | rfl | rfl | rfl | rfl | rfl | rfl | rfl | rfl | rfl | rfl | rfl | rfl | rfl | rfl | rfl | rfl | rfl | rfl | rfl | rfl | rfl | rfl | rfl | rfl | rfl | rfl
    · exact (hA (b + 0, .byte, 65536) (List.mem_of_getElem? (i := 47) rfl)).1
    · exact (hA (b + 1, .byte, 65536) (List.mem_of_getElem? (i := 46) rfl)).1
    · exact (hA (b + 2, .byte, 64) (List.mem_of_getElem? (i := 45) rfl)).1
    · exact (hA (b + 3, .byte, 3200) (List.mem_of_getElem? (i := 44) rfl)).1
    · exact (hA (b + 4, .int, 6) (List.mem_of_getElem? (i := 43) rfl)).1
    · exact (hA (b + 5, .long, 16) (List.mem_of_getElem? (i := 42) rfl)).1
    · exact (hA (b + 6, .long, 256) (List.mem_of_getElem? (i := 41) rfl)).1
    · exact (hA (b + 7, .long, 16) (List.mem_of_getElem? (i := 40) rfl)).1
    · exact (hA (b + 8, .long, 256) (List.mem_of_getElem? (i := 39) rfl)).1
    · exact (hA (b + 9, .long, 16) (List.mem_of_getElem? (i := 38) rfl)).1
    · exact (hA (b + 10, .long, 16) (List.mem_of_getElem? (i := 37) rfl)).1
    · exact (hA (b + 11, .long, 16) (List.mem_of_getElem? (i := 36) rfl)).1
    · exact (hA (b + 12, .long, 16) (List.mem_of_getElem? (i := 35) rfl)).1
    · exact (hA (b + 13, .long, 16) (List.mem_of_getElem? (i := 34) rfl)).1
    · exact (hA (b + 14, .long, 16) (List.mem_of_getElem? (i := 33) rfl)).1
    · exact (hA (b + 15, .long, 16) (List.mem_of_getElem? (i := 32) rfl)).1
    · exact (hA (b + 16, .long, 16) (List.mem_of_getElem? (i := 31) rfl)).1
    · exact (hA (b + 17, .long, 16) (List.mem_of_getElem? (i := 30) rfl)).1
    · exact (hA (b + 18, .long, 16) (List.mem_of_getElem? (i := 29) rfl)).1
    · exact (hA (b + 19, .long, 16) (List.mem_of_getElem? (i := 28) rfl)).1
    · exact (hA (b + 20, .long, 16) (List.mem_of_getElem? (i := 27) rfl)).1
    · exact (hA (b + 21, .long, 16) (List.mem_of_getElem? (i := 26) rfl)).1
    · exact (hA (b + 22, .long, 16) (List.mem_of_getElem? (i := 25) rfl)).1
    · exact (hA (b + 23, .long, 16) (List.mem_of_getElem? (i := 24) rfl)).1
    · exact (hA (b + 24, .long, 16) (List.mem_of_getElem? (i := 23) rfl)).1
    · exact (hA (b + 25, .long, 16) (List.mem_of_getElem? (i := 22) rfl)).1
    · exact (hA (b + 26, .long, 16) (List.mem_of_getElem? (i := 21) rfl)).1
    · exact (hA (b + 27, .long, 16) (List.mem_of_getElem? (i := 20) rfl)).1
    · exact (hA (b + 28, .long, 16) (List.mem_of_getElem? (i := 19) rfl)).1
    · exact (hA (b + 29, .long, 16) (List.mem_of_getElem? (i := 18) rfl)).1
    · exact (hA (b + 30, .byte, 32) (List.mem_of_getElem? (i := 17) rfl)).1
    · exact (hA (b + 31, .byte, 32) (List.mem_of_getElem? (i := 16) rfl)).1
    · exact (hA (b + 32, .byte, 32) (List.mem_of_getElem? (i := 15) rfl)).1
    · exact (hA (b + 33, .byte, 65664) (List.mem_of_getElem? (i := 14) rfl)).1
    · exact (hA (b + 34, .int, 8) (List.mem_of_getElem? (i := 13) rfl)).1
    · exact (hA (b + 35, .long, 32) (List.mem_of_getElem? (i := 12) rfl)).1
    · exact (hA (b + 36, .long, 18) (List.mem_of_getElem? (i := 11) rfl)).1
    · exact (hA (b + 37, .long, 16) (List.mem_of_getElem? (i := 10) rfl)).1
    · exact (hA (b + 38, .long, 16) (List.mem_of_getElem? (i := 9) rfl)).1
    · exact (hA (b + 39, .long, 17) (List.mem_of_getElem? (i := 8) rfl)).1
    · exact (hA (b + 40, .long, 17) (List.mem_of_getElem? (i := 7) rfl)).1
    · exact (hA (b + 41, .long, 80) (List.mem_of_getElem? (i := 6) rfl)).1
    · exact (hA (b + 42, .long, 8) (List.mem_of_getElem? (i := 5) rfl)).1
    · exact (hA (b + 43, .long, 80) (List.mem_of_getElem? (i := 4) rfl)).1
    · exact (hA (b + 44, .long, 8) (List.mem_of_getElem? (i := 3) rfl)).1
    · exact (hA (b + 45, .long, 8) (List.mem_of_getElem? (i := 2) rfl)).1
    · exact (hA (b + 46, .long, 8) (List.mem_of_getElem? (i := 1) rfl)).1
    · exact (hA (b + 47, .byte, 64) (List.mem_of_getElem? (i := 0) rfl)).1
  refine e_M_init (r := mrr b) (i := fun _ => 0) (E := fun q => b ≤ q) (F := E) ⟨hO, hA⟩ (Nat.not_le.mpr ho) (fun q hq => (mrr_ge b q (mo_sub q hq)).1) hV EE hl ⟨sx_J.rf, fun q h => hEn q h, hS.2.2⟩ (fun H2 locs2 ls pc X1 eX hS2 hV2 hd => ?_)
  subst eX
  exact hret H2 locs2 ls pc ⟨hsz ▸ hS2.1.1, hS2.1.ob (Nat.not_le.mpr ho) hO, fun q hq => hS2.1.2.2.1 _ _ _ (hA q hq), hV2⟩ (hS.1.tr (hS2.1.mono (fun q h => hEn q h))) hS2.2.2 hd
