def up_Ro (D : va_G) (g : ClassId → FieldType → Prop) (b o : Nat) (X : vM) (H : Heap) : Prop := H.size = b + 1 ∧ va_P D classes [(o, .inr (9, [.ref (b + 0), .int 0]))] H ∧ obs_ D H b [] ∧ sx_AR g H [((b + 0), .byte, 1024)] ∧ mm g H = X
abbrev rm_Ro_init : Room := { frames := 1, cells := 1, slots := 1024, locals := 30 }
set_option maxHeartbeats 4000000 in
set_option maxRecDepth 100000 in
theorem u_Ro_init {l : Launch} {D : va_G} {g : ClassId → FieldType → Prop} {E : Nat → Prop} {H0 : Heap} {o b : Nat} {X : vM} (hEo : E o) (hEn : ∀ q, b ≤ q → E q) (hO : va_P D classes [(o, .inr (9, [.null, .int 0]))] H0) (hsz : H0.size = b) (hV : mm g H0 = X) : Met l y_Ro_init (.code y_Ro_init b_Ro_init 1 none :: G_) rm_Ro_init (sx_Pc [.ref o] H0 D g) (va_Qv (fun _ : Unit => True) (fun _ t => sx_J g E H0 t.heap ∧ up_Ro D g b o X t.heap) E) 1 1024 E := by
  refine sx_mva (own := R_Ro) (P := up_Ro D g b o X) (by decide) rfl (Nat.le_of_ble_eq_true rfl) ?_
  intro p e s m args below meth c Q ls EE hin hl hret
  obtain ⟨hx, hb, hml, hown, hts, hG, hK⟩ := id EE
  have hS : sx_S g E E H0 H0 [] := sx_S.rf
  have hA : sx_AR g H0 [] := sx_AR.nil
  have hB : obs_ D H0 b [] := obs_.nil
  have ho : o < b := hsz ▸ (hO 0 _ rfl).lt
  have hsz0 := hsz
  have hsz : H0.size = b + 0 := hsz
  have hle : ∀ k, b ≤ b + k := fun k => Nat.le_add_right b k
  have hl : lv_has ls 1 [(0, .ref o)] := hl
  refine lv_aload_n hx hb d_Ro_init_0 rfl (lv_at hl 0 rfl) ?_
  refine W.objInit hx hb hown (hts (.methodLink R_Ro 3 objectInit) (by decide +kernel)) (hts (.instanceMethod objectInit) (by decide +kernel)) (hts (.code objectInit ⟨#[0xb1]⟩ 1 none) (by decide +kernel)) rfl (by rw [hml]; exact hl.1) rfl d_Ro_init_1 (Nat.le_of_ble_eq_true rfl) (Nat.le_of_ble_eq_true rfl) ?_
  refine W.eq (g2 := F0 m 4 ls []) rfl ?_
  refine lv_aload_n hx hb d_Ro_init_4 rfl (lv_at hl 0 rfl) ?_
  refine lv_sipush (v := nI 1024) hx hb d_Ro_init_5 (by decide +kernel) ?_
  refine vx_newa (cells' := 1) (slots' := 1024) hx hb hG hts rfl (Or.inr (Or.inl rfl)) (by decide +kernel) (by decide) (by decide) rfl rfl (Nat.le_of_ble_eq_true rfl) (Nat.le_of_ble_eq_true rfl) hS hV d_Ro_init_8 (fun q H8 eq hz a_ l_ hJ hk hS hV => ?_)
  have e_ : b = q := hsz.symm.trans eq
  subst e_
  have hsz : H8.size = b + 1 := hz
  have hA := hA.kept hJ
  have hO := hO.grown hk
  have hB := hB.grown hk
  have hA := hA.cons a_ l_
  have hO0 := hO
  refine sx_put EE hO rfl i_Ro t_Ro tok_Ro n_Ro 0 (by decide) rfl fl_Ro_11 (ty := t_Ro 0) (by decide +kernel) rfl rfl (Nat.le_of_ble_eq_true rfl) hEo hS d_Ro_init_10 (fun H10 locs hO hJ hs hS => ?_)
  have hO : va_P D classes [(o, .inr (9, [.ref (b + 0), .int 0]))] H10 := hO
  have hV := (vx_obj hG hK.1 hO0 hO hs).trans hV
  have hA := hA.kept hJ
  have hB := hB.one hs ho
  have hsz := (sz_one hJ.1 hs (lt_sz ho hsz)).trans hsz
  exact hret _ _ _ _ ⟨hsz, hO, hB, hA, hV⟩ hS.1 hS.2.2 d_Ro_init_13
