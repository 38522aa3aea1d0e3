def up_Ha (D : va_G) (g : ClassId → FieldType → Prop) (b o : Nat) (X : vM) (H : Heap) : Prop := H.size = b + 3 ∧ va_P D classes [(o, .inr (7, [.ref (b + 0), .ref (b + 1), .ref (b + 2), .int 0, .int 0]))] H ∧ obs_ D H b [] ∧ sx_AR g H [((b + 2), .byte, 128), ((b + 1), .long, 80), ((b + 0), .long, 8)] ∧ mm g H = X
abbrev rm_Ha_init : Room := { frames := 1, cells := 3, slots := 216, locals := 30 }
set_option maxHeartbeats 4000000 in
set_option maxRecDepth 100000 in
theorem u_Ha_init {l : Launch} {D : va_G} {g : ClassId → FieldType → Prop} {E : Nat → Prop} {H0 : Heap} {o b : Nat} {X : vM} (hEo : E o) (hEn : ∀ q, b ≤ q → E q) (hO : va_P D classes [(o, .inr (7, [.null, .null, .null, .int 0, .int 0]))] H0) (hsz : H0.size = b) (hV : mm g H0 = X) : Met l y_Ha_init (.code y_Ha_init b_Ha_init 1 none :: G_) rm_Ha_init (sx_Pc [.ref o] H0 D g) (va_Qv (fun _ : Unit => True) (fun _ t => sx_J g E H0 t.heap ∧ up_Ha D g b o X t.heap) E) 3 216 E := by
  refine sx_mva (own := R_Ha) (P := up_Ha D g b o X) (by decide) rfl (Nat.le_of_ble_eq_true rfl) ?_
  intro p e s m args below meth c Q ls EE hin hl hret
  obtain ⟨hx, hb, hml, hown, hts, hG, hK⟩ := id EE
  have hS : sx_S g E E H0 H0 [] := sx_S.rf
  have hA : sx_AR g H0 [] := sx_AR.nil
  have hB : obs_ D H0 b [] := obs_.nil
  have ho : o < b := hsz ▸ (hO 0 _ rfl).lt
  have hsz0 := hsz
  have hsz : H0.size = b + 0 := hsz
  have hle : ∀ k, b ≤ b + k := fun k => Nat.le_add_right b k
  have hl : lv_has ls 1 [(0, .ref o)] := hl
  refine lv_aload_n hx hb d_Ha_init_0 rfl (lv_at hl 0 rfl) ?_
  refine W.objInit hx hb hown (hts (.methodLink R_Ha 1 objectInit) (by decide +kernel)) (hts (.instanceMethod objectInit) (by decide +kernel)) (hts (.code objectInit ⟨#[0xb1]⟩ 1 none) (by decide +kernel)) rfl (by rw [hml]; exact hl.1) rfl d_Ha_init_1 (Nat.le_of_ble_eq_true rfl) (Nat.le_of_ble_eq_true rfl) ?_
  refine W.eq (g2 := F0 m 4 ls []) rfl ?_
  refine lv_aload_n hx hb d_Ha_init_4 rfl (lv_at hl 0 rfl) ?_
  refine lv_bipush (v := nI 8) hx hb d_Ha_init_5 (by decide +kernel) ?_
  refine vx_newa (cells' := 1) (slots' := 8) hx hb hG hts rfl (Or.inl rfl) (by decide +kernel) (by decide) (by decide) rfl rfl (Nat.le_of_ble_eq_true rfl) (Nat.le_of_ble_eq_true rfl) hS hV d_Ha_init_7 (fun q H7 eq hz a_ l_ hJ hk hS hV => ?_)
  have e_ : b = q := hsz.symm.trans eq
  subst e_
  have hsz : H7.size = b + 1 := hz
  have hA := hA.kept hJ
  have hO := hO.grown hk
  have hB := hB.grown hk
  have hA := hA.cons a_ l_
  have hO0 := hO
  refine sx_putF EE hin hO rfl i_Ha t_Ha tok_Ha n_Ha 0 (by decide) rfl fl_Ha_7 (ty := t_Ha 0) (by decide +kernel) rfl rfl (Nat.le_of_ble_eq_true rfl) hEo hS d_Ha_init_9 (fun H9 locs hO hJ hs hS => ?_)
  have hO : va_P D classes [(o, .inr (7, [.ref (b + 0), .null, .null, .int 0, .int 0]))] H9 := hO
  have hV := (vx_obj hG hK.1 hO0 hO hs).trans hV
  have hA := hA.kept hJ
  have hB := hB.one hs ho
  have hsz := (sz_one hJ.1 hs (lt_sz ho hsz)).trans hsz
  refine lv_aload_n hx hb d_Ha_init_12 rfl (lv_at hl 0 rfl) ?_
  refine lv_bipush (v := nI 80) hx hb d_Ha_init_13 (by decide +kernel) ?_
  refine vx_newa (cells' := 2) (slots' := 88) hx hb hG hts rfl (Or.inl rfl) (by decide +kernel) (by decide) (by decide) rfl rfl (Nat.le_of_ble_eq_true rfl) (Nat.le_of_ble_eq_true rfl) hS hV d_Ha_init_15 (fun q H15 eq hz a_ l_ hJ hk hS hV => ?_)
  have e_ : q = b + 1 := eq.symm.trans hsz
  subst e_
  have hsz : H15.size = b + 2 := hz
  have hA := hA.kept hJ
  have hO := hO.grown hk
  have hB := hB.grown hk
  have hA := hA.cons a_ l_
  have hO0 := hO
  refine sx_putF EE hin hO rfl i_Ha t_Ha tok_Ha n_Ha 1 (by decide) rfl fl_Ha_13 (ty := t_Ha 1) (by decide +kernel) rfl rfl (Nat.le_of_ble_eq_true rfl) hEo hS d_Ha_init_17 (fun H17 locs hO hJ hs hS => ?_)
  have hO : va_P D classes [(o, .inr (7, [.ref (b + 0), .ref (b + 1), .null, .int 0, .int 0]))] H17 := hO
  have hV := (vx_obj hG hK.1 hO0 hO hs).trans hV
  have hA := hA.kept hJ
  have hB := hB.one hs ho
  have hsz := (sz_one hJ.1 hs (lt_sz ho hsz)).trans hsz
  refine lv_aload_n hx hb d_Ha_init_20 rfl (lv_at hl 0 rfl) ?_
  refine lv_sipush (v := nI 128) hx hb d_Ha_init_21 (by decide +kernel) ?_
  refine vx_newa (cells' := 3) (slots' := 216) hx hb hG hts rfl (Or.inr (Or.inl rfl)) (by decide +kernel) (by decide) (by decide) rfl rfl (Nat.le_of_ble_eq_true rfl) (Nat.le_of_ble_eq_true rfl) hS hV d_Ha_init_24 (fun q H24 eq hz a_ l_ hJ hk hS hV => ?_)
  have e_ : q = b + 2 := eq.symm.trans hsz
  subst e_
  have hsz : H24.size = b + 3 := hz
  have hA := hA.kept hJ
  have hO := hO.grown hk
  have hB := hB.grown hk
  have hA := hA.cons a_ l_
  have hO0 := hO
  refine sx_putF EE hin hO rfl i_Ha t_Ha tok_Ha n_Ha 2 (by decide) rfl fl_Ha_16 (ty := t_Ha 2) (by decide +kernel) rfl rfl (Nat.le_of_ble_eq_true rfl) hEo hS d_Ha_init_26 (fun H26 locs hO hJ hs hS => ?_)
  have hO : va_P D classes [(o, .inr (7, [.ref (b + 0), .ref (b + 1), .ref (b + 2), .int 0, .int 0]))] H26 := hO
  have hV := (vx_obj hG hK.1 hO0 hO hs).trans hV
  have hA := hA.kept hJ
  have hB := hB.one hs ho
  have hsz := (sz_one hJ.1 hs (lt_sz ho hsz)).trans hsz
  exact hret _ _ _ _ ⟨hsz, hO, hB, hA, hV⟩ hS.1 hS.2.2 d_Ha_init_29
