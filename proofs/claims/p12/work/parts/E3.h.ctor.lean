def up_Si (D : va_G) (g : ClassId → FieldType → Prop) (b o a0 : Nat) (X : vM) (H : Heap) : Prop := H.size = b + 12 ∧ va_P D classes [(o, .inr (11, [.ref a0, .ref (b + 0), .ref (b + 4), .ref (b + 6), .ref (b + 7), .ref (b + 8), .ref (b + 9), .ref (b + 10), .ref (b + 11)]))] H ∧ obs_ D H b [((b + 4), 8, [.ref (b + 5)]), ((b + 0), 7, [.ref (b + 1), .ref (b + 2), .ref (b + 3), .int 0, .int 0])] ∧ sx_AR g H [((b + 11), .byte, 32), ((b + 10), .byte, 32), ((b + 9), .byte, 32), ((b + 8), .byte, 32), ((b + 7), .byte, 32), ((b + 6), .byte, 64), ((b + 5), .long, 64), ((b + 3), .byte, 128), ((b + 2), .long, 80), ((b + 1), .long, 8)] ∧ mm g H = X
abbrev rm_Si_init : Room := { frames := 2, cells := 12, slots := 510, locals := 50 }
set_option maxHeartbeats 4000000 in
set_option maxRecDepth 100000 in
theorem u_Si_init {l : Launch} {D : va_G} {g : ClassId → FieldType → Prop} {E : Nat → Prop} {H0 : Heap} {o b a0 : Nat} {X : vM} (hEo : E o) (hEn : ∀ q, b ≤ q → E q) (hO : va_P D classes [(o, .inr (11, [.null, .null, .null, .null, .null, .null, .null, .null, .null]))] H0) (hsz : H0.size = b) (hV : mm g H0 = X) : Met l y_Si_init (.code y_Si_init b_Si_init 2 none :: G_) rm_Si_init (sx_Pc [.ref o, .ref a0] H0 D g) (va_Qv (fun _ : Unit => True) (fun _ t => sx_J g E H0 t.heap ∧ up_Si D g b o a0 X t.heap) E) 12 510 E := by
  refine sx_mva (own := R_Si) (P := up_Si D g b o a0 X) (by decide) rfl (Nat.le_of_ble_eq_true rfl) ?_
  intro p e s m args below meth c Q ls EE hin hl hret
  obtain ⟨hx, hb, hml, hown, hts, hG, hK⟩ := id EE
  have hS : sx_S g E E H0 H0 [] := sx_S.rf
  have hA : sx_AR g H0 [] := sx_AR.nil
  have hB : obs_ D H0 b [] := obs_.nil
  have ho : o < b := hsz ▸ (hO 0 _ rfl).lt
  have hsz0 := hsz
  have hsz : H0.size = b + 0 := hsz
  have hle : ∀ k, b ≤ b + k := fun k => Nat.le_add_right b k
  have hl : lv_has ls 2 [(0, .ref o), (1, .ref a0)] := hl
  refine lv_aload_n hx hb d_Si_init_0 rfl (lv_at hl 0 rfl) ?_
  refine W.objInit hx hb hown (hts (.methodLink R_Si 3 objectInit) (by decide +kernel)) (hts (.instanceMethod objectInit) (by decide +kernel)) (hts (.code objectInit ⟨#[0xb1]⟩ 1 none) (by decide +kernel)) rfl (by rw [hml]; exact hl.1) rfl d_Si_init_1 (Nat.le_of_ble_eq_true rfl) (Nat.le_of_ble_eq_true rfl) ?_
  refine W.eq (g2 := F0 m 4 ls []) rfl ?_
  refine lv_aload_n hx hb d_Si_init_4 rfl (lv_at hl 0 rfl) ?_
  refine sx_newo (ci := 7) (fs := [.null, .null, .null, .int 0, .int 0]) (cells' := 1) (slots' := 5) EE rfl i_Ha t_Ha tok_Ha nw_Si_9 (by decide) rfl rfl (Nat.le_of_ble_eq_true rfl) (Nat.le_of_ble_eq_true rfl) d_Si_init_5 (fun q H5 e0 hN s0 k1 => ?_)
  have e_ : b = q := hsz.symm.trans e0
  subst e_
  have hV := mm_newo hG hK.1 k1 hN e0 s0 hV
  refine lv_dup hx hb d_Si_init_8 rfl ?_
  refine sx_gI (E' := (fun z => z = b + 0 ∨ b + 1 ≤ z)) (P := up_Ha D g (b + 1) (b + 0) X) (F := E) (mc := 3) (ms := 216) (cells' := 4) (slots' := 221) (sx_runIN (As := []) (rest := [.ref (b + 0), .ref o]) EE (u_Ha_init (E := (fun z => z = b + 0 ∨ b + 1 ≤ z)) (b := b + 1) (X := X) (Or.inl rfl) (fun z h => Or.inr h) hN s0 hV) il_Si_11 iw_Si_11 rfl rfl ⟨rfl, rfl⟩ ⟨Nat.le_of_ble_eq_true rfl, Nat.le_of_ble_eq_true rfl⟩ ⟨Nat.le_of_ble_eq_true rfl, Nat.le_of_ble_eq_true rfl⟩ hl.1 rfl (Nat.le_of_ble_eq_true rfl) d_Si_init_9) (nE_en hEn (hle 0)) hS.2.2 rfl rfl (fun H9 locs hJc hPc hlo => ?_)
  have hk := sx_J.news e0 k1 (le_1 e0 s0) hJc (nE_to s0)
  have hJ : sx_J g E H0 H9 := (sx_J.grow (le_1 e0 s0) k1).tr (hJc.mono (nE_en hEn (hle 0)))
  have hS : sx_S g E E H0 H9 locs := ⟨hS.1.tr hJ, fun _ h => h, hlo⟩
  have hA := hA.kept hJ
  have hO := hO.grown hk
  have hB := hB.grown hk
  obtain ⟨hsz_, hN_, hB_, hA_, hV⟩ := hPc
  have hsz : H9.size = b + 4 := hsz_
  have hB : obs_ D H9 b [((b + 0), 7, [.ref (b + 1), .ref (b + 2), .ref (b + 3), .int 0, .int 0])] := (hB.app hB_ (hle 1)).cons hN_ (hle 0)
  have hA : sx_AR g H9 [((b + 3), .byte, 128), ((b + 2), .long, 80), ((b + 1), .long, 8)] := hA.app hA_
  have hV : mm g H9 = X := hV
  have hO0 := hO
  refine sx_putF EE hin hO rfl i_Si t_Si tok_Si n_Si 1 (by decide) rfl fl_Si_12 (ty := t_Si 1) (by decide +kernel) rfl rfl (Nat.le_of_ble_eq_true rfl) hEo hS d_Si_init_12 (fun H12 locs hO hJ hs hS => ?_)
  have hO : va_P D classes [(o, .inr (11, [.null, .ref (b + 0), .null, .null, .null, .null, .null, .null, .null]))] H12 := hO
  have hV := (vx_obj hG hK.1 hO0 hO hs).trans hV
  have hA := hA.kept hJ
  have hB := hB.one hs ho
  have hsz := (sz_one hJ.1 hs (lt_sz ho hsz)).trans hsz
  refine lv_aload_n hx hb d_Si_init_15 rfl (lv_at hl 0 rfl) ?_
  refine sx_newo (ci := 8) (fs := [.null]) (cells' := 5) (slots' := 222) EE rfl i_Or t_Or tok_Or nw_Si_18 (by decide) rfl rfl (Nat.le_of_ble_eq_true rfl) (Nat.le_of_ble_eq_true rfl) d_Si_init_16 (fun q H16 e0 hN s0 k1 => ?_)
  have e_ : q = b + 4 := e0.symm.trans hsz
  subst e_
  have hV := mm_newo hG hK.1 k1 hN e0 s0 hV
  refine lv_dup hx hb d_Si_init_19 rfl ?_
  refine sx_gI (E' := (fun z => z = b + 4 ∨ b + 5 ≤ z)) (P := up_Or D g (b + 5) (b + 4) X) (F := E) (mc := 1) (ms := 64) (cells' := 6) (slots' := 286) (sx_runIN (As := []) (rest := [.ref (b + 4), .ref o]) EE (u_Or_init (E := (fun z => z = b + 4 ∨ b + 5 ≤ z)) (b := b + 5) (X := X) (Or.inl rfl) (fun z h => Or.inr h) hN s0 hV) il_Si_20 iw_Si_20 rfl rfl ⟨rfl, rfl⟩ ⟨Nat.le_of_ble_eq_true rfl, Nat.le_of_ble_eq_true rfl⟩ ⟨Nat.le_of_ble_eq_true rfl, Nat.le_of_ble_eq_true rfl⟩ hl.1 rfl (Nat.le_of_ble_eq_true rfl) d_Si_init_20) (nE_en hEn (hle 4)) hS.2.2 rfl rfl (fun H20 locs hJc hPc hlo => ?_)
  have hk := sx_J.news e0 k1 (le_1 e0 s0) hJc (nE_to s0)
  have hJ : sx_J g E H12 H20 := (sx_J.grow (le_1 e0 s0) k1).tr (hJc.mono (nE_en hEn (hle 4)))
  have hS : sx_S g E E H0 H20 locs := ⟨hS.1.tr hJ, fun _ h => h, hlo⟩
  have hA := hA.kept hJ
  have hO := hO.grown hk
  have hB := hB.grown hk
  obtain ⟨hsz_, hN_, hB_, hA_, hV⟩ := hPc
  have hsz : H20.size = b + 6 := hsz_
  have hB : obs_ D H20 b [((b + 4), 8, [.ref (b + 5)]), ((b + 0), 7, [.ref (b + 1), .ref (b + 2), .ref (b + 3), .int 0, .int 0])] := (hB.app hB_ (hle 5)).cons hN_ (hle 4)
  have hA : sx_AR g H20 [((b + 5), .long, 64), ((b + 3), .byte, 128), ((b + 2), .long, 80), ((b + 1), .long, 8)] := hA.app hA_
  have hV : mm g H20 = X := hV
  have hO0 := hO
  refine sx_putF EE hin hO rfl i_Si t_Si tok_Si n_Si 2 (by decide) rfl fl_Si_21 (ty := t_Si 2) (by decide +kernel) rfl rfl (Nat.le_of_ble_eq_true rfl) hEo hS d_Si_init_23 (fun H23 locs hO hJ hs hS => ?_)
  have hO : va_P D classes [(o, .inr (11, [.null, .ref (b + 0), .ref (b + 4), .null, .null, .null, .null, .null, .null]))] H23 := hO
  have hV := (vx_obj hG hK.1 hO0 hO hs).trans hV
  have hA := hA.kept hJ
  have hB := hB.one hs ho
  have hsz := (sz_one hJ.1 hs (lt_sz ho hsz)).trans hsz
  refine lv_aload_n hx hb d_Si_init_26 rfl (lv_at hl 0 rfl) ?_
  refine lv_bipush (v := nI 64) hx hb d_Si_init_27 (by decide +kernel) ?_
  refine vx_newa (cells' := 7) (slots' := 350) hx hb hG hts rfl (Or.inr (Or.inl rfl)) (by decide +kernel) (by decide) (by decide) rfl rfl (Nat.le_of_ble_eq_true rfl) (Nat.le_of_ble_eq_true rfl) hS hV d_Si_init_29 (fun q H29 eq hz a_ l_ hJ hk hS hV => ?_)
  have e_ : q = b + 6 := eq.symm.trans hsz
  subst e_
  have hsz : H29.size = b + 7 := hz
  have hA := hA.kept hJ
  have hO := hO.grown hk
  have hB := hB.grown hk
  have hA := hA.cons a_ l_
  have hO0 := hO
  refine sx_putF EE hin hO rfl i_Si t_Si tok_Si n_Si 3 (by decide) rfl fl_Si_25 (ty := t_Si 3) (by decide +kernel) rfl rfl (Nat.le_of_ble_eq_true rfl) hEo hS d_Si_init_31 (fun H31 locs hO hJ hs hS => ?_)
  have hO : va_P D classes [(o, .inr (11, [.null, .ref (b + 0), .ref (b + 4), .ref (b + 6), .null, .null, .null, .null, .null]))] H31 := hO
  have hV := (vx_obj hG hK.1 hO0 hO hs).trans hV
  have hA := hA.kept hJ
  have hB := hB.one hs ho
  have hsz := (sz_one hJ.1 hs (lt_sz ho hsz)).trans hsz
  refine lv_aload_n hx hb d_Si_init_34 rfl (lv_at hl 0 rfl) ?_
  refine lv_bipush (v := nI 32) hx hb d_Si_init_35 (by decide +kernel) ?_
  refine vx_newa (cells' := 8) (slots' := 382) hx hb hG hts rfl (Or.inr (Or.inl rfl)) (by decide +kernel) (by decide) (by decide) rfl rfl (Nat.le_of_ble_eq_true rfl) (Nat.le_of_ble_eq_true rfl) hS hV d_Si_init_37 (fun q H37 eq hz a_ l_ hJ hk hS hV => ?_)
  have e_ : q = b + 7 := eq.symm.trans hsz
  subst e_
  have hsz : H37.size = b + 8 := hz
  have hA := hA.kept hJ
  have hO := hO.grown hk
  have hB := hB.grown hk
  have hA := hA.cons a_ l_
  have hO0 := hO
  refine sx_putF EE hin hO rfl i_Si t_Si tok_Si n_Si 4 (by decide) rfl fl_Si_29 (ty := t_Si 4) (by decide +kernel) rfl rfl (Nat.le_of_ble_eq_true rfl) hEo hS d_Si_init_39 (fun H39 locs hO hJ hs hS => ?_)
  have hO : va_P D classes [(o, .inr (11, [.null, .ref (b + 0), .ref (b + 4), .ref (b + 6), .ref (b + 7), .null, .null, .null, .null]))] H39 := hO
  have hV := (vx_obj hG hK.1 hO0 hO hs).trans hV
  have hA := hA.kept hJ
  have hB := hB.one hs ho
  have hsz := (sz_one hJ.1 hs (lt_sz ho hsz)).trans hsz
  refine lv_aload_n hx hb d_Si_init_42 rfl (lv_at hl 0 rfl) ?_
  refine lv_bipush (v := nI 32) hx hb d_Si_init_43 (by decide +kernel) ?_
  refine vx_newa (cells' := 9) (slots' := 414) hx hb hG hts rfl (Or.inr (Or.inl rfl)) (by decide +kernel) (by decide) (by decide) rfl rfl (Nat.le_of_ble_eq_true rfl) (Nat.le_of_ble_eq_true rfl) hS hV d_Si_init_45 (fun q H45 eq hz a_ l_ hJ hk hS hV => ?_)
  have e_ : q = b + 8 := eq.symm.trans hsz
  subst e_
  have hsz : H45.size = b + 9 := hz
  have hA := hA.kept hJ
  have hO := hO.grown hk
  have hB := hB.grown hk
  have hA := hA.cons a_ l_
  have hO0 := hO
  refine sx_putF EE hin hO rfl i_Si t_Si tok_Si n_Si 5 (by decide) rfl fl_Si_32 (ty := t_Si 5) (by decide +kernel) rfl rfl (Nat.le_of_ble_eq_true rfl) hEo hS d_Si_init_47 (fun H47 locs hO hJ hs hS => ?_)
  have hO : va_P D classes [(o, .inr (11, [.null, .ref (b + 0), .ref (b + 4), .ref (b + 6), .ref (b + 7), .ref (b + 8), .null, .null, .null]))] H47 := hO
  have hV := (vx_obj hG hK.1 hO0 hO hs).trans hV
  have hA := hA.kept hJ
  have hB := hB.one hs ho
  have hsz := (sz_one hJ.1 hs (lt_sz ho hsz)).trans hsz
  refine lv_aload_n hx hb d_Si_init_50 rfl (lv_at hl 0 rfl) ?_
  refine lv_bipush (v := nI 32) hx hb d_Si_init_51 (by decide +kernel) ?_
  refine vx_newa (cells' := 10) (slots' := 446) hx hb hG hts rfl (Or.inr (Or.inl rfl)) (by decide +kernel) (by decide) (by decide) rfl rfl (Nat.le_of_ble_eq_true rfl) (Nat.le_of_ble_eq_true rfl) hS hV d_Si_init_53 (fun q H53 eq hz a_ l_ hJ hk hS hV => ?_)
  have e_ : q = b + 9 := eq.symm.trans hsz
  subst e_
  have hsz : H53.size = b + 10 := hz
  have hA := hA.kept hJ
  have hO := hO.grown hk
  have hB := hB.grown hk
  have hA := hA.cons a_ l_
  have hO0 := hO
  refine sx_putF EE hin hO rfl i_Si t_Si tok_Si n_Si 6 (by decide) rfl fl_Si_35 (ty := t_Si 6) (by decide +kernel) rfl rfl (Nat.le_of_ble_eq_true rfl) hEo hS d_Si_init_55 (fun H55 locs hO hJ hs hS => ?_)
  have hO : va_P D classes [(o, .inr (11, [.null, .ref (b + 0), .ref (b + 4), .ref (b + 6), .ref (b + 7), .ref (b + 8), .ref (b + 9), .null, .null]))] H55 := hO
  have hV := (vx_obj hG hK.1 hO0 hO hs).trans hV
  have hA := hA.kept hJ
  have hB := hB.one hs ho
  have hsz := (sz_one hJ.1 hs (lt_sz ho hsz)).trans hsz
  refine lv_aload_n hx hb d_Si_init_58 rfl (lv_at hl 0 rfl) ?_
  refine lv_bipush (v := nI 32) hx hb d_Si_init_59 (by decide +kernel) ?_
  refine vx_newa (cells' := 11) (slots' := 478) hx hb hG hts rfl (Or.inr (Or.inl rfl)) (by decide +kernel) (by decide) (by decide) rfl rfl (Nat.le_of_ble_eq_true rfl) (Nat.le_of_ble_eq_true rfl) hS hV d_Si_init_61 (fun q H61 eq hz a_ l_ hJ hk hS hV => ?_)
  have e_ : q = b + 10 := eq.symm.trans hsz
  subst e_
  have hsz : H61.size = b + 11 := hz
  have hA := hA.kept hJ
  have hO := hO.grown hk
  have hB := hB.grown hk
  have hA := hA.cons a_ l_
  have hO0 := hO
  refine sx_putF EE hin hO rfl i_Si t_Si tok_Si n_Si 7 (by decide) rfl fl_Si_38 (ty := t_Si 7) (by decide +kernel) rfl rfl (Nat.le_of_ble_eq_true rfl) hEo hS d_Si_init_63 (fun H63 locs hO hJ hs hS => ?_)
  have hO : va_P D classes [(o, .inr (11, [.null, .ref (b + 0), .ref (b + 4), .ref (b + 6), .ref (b + 7), .ref (b + 8), .ref (b + 9), .ref (b + 10), .null]))] H63 := hO
  have hV := (vx_obj hG hK.1 hO0 hO hs).trans hV
  have hA := hA.kept hJ
  have hB := hB.one hs ho
  have hsz := (sz_one hJ.1 hs (lt_sz ho hsz)).trans hsz
  refine lv_aload_n hx hb d_Si_init_66 rfl (lv_at hl 0 rfl) ?_
  refine lv_bipush (v := nI 32) hx hb d_Si_init_67 (by decide +kernel) ?_
  refine vx_newa (cells' := 12) (slots' := 510) hx hb hG hts rfl (Or.inr (Or.inl rfl)) (by decide +kernel) (by decide) (by decide) rfl rfl (Nat.le_of_ble_eq_true rfl) (Nat.le_of_ble_eq_true rfl) hS hV d_Si_init_69 (fun q H69 eq hz a_ l_ hJ hk hS hV => ?_)
  have e_ : q = b + 11 := eq.symm.trans hsz
  subst e_
  have hsz : H69.size = b + 12 := hz
  have hA := hA.kept hJ
  have hO := hO.grown hk
  have hB := hB.grown hk
  have hA := hA.cons a_ l_
  have hO0 := hO
  refine sx_putF EE hin hO rfl i_Si t_Si tok_Si n_Si 8 (by decide) rfl fl_Si_41 (ty := t_Si 8) (by decide +kernel) rfl rfl (Nat.le_of_ble_eq_true rfl) hEo hS d_Si_init_71 (fun H71 locs hO hJ hs hS => ?_)
  have hO : va_P D classes [(o, .inr (11, [.null, .ref (b + 0), .ref (b + 4), .ref (b + 6), .ref (b + 7), .ref (b + 8), .ref (b + 9), .ref (b + 10), .ref (b + 11)]))] H71 := hO
  have hV := (vx_obj hG hK.1 hO0 hO hs).trans hV
  have hA := hA.kept hJ
  have hB := hB.one hs ho
  have hsz := (sz_one hJ.1 hs (lt_sz ho hsz)).trans hsz
  refine lv_aload_n hx hb d_Si_init_74 rfl (lv_at hl 0 rfl) ?_
  refine lv_aload_n hx hb d_Si_init_75 rfl (lv_at hl 1 rfl) ?_
  have hO0 := hO
  refine sx_putF EE hin hO rfl i_Si t_Si tok_Si n_Si 0 (by decide) rfl fl_Si_44 (ty := t_Si 0) (by decide +kernel) rfl rfl (Nat.le_of_ble_eq_true rfl) hEo hS d_Si_init_76 (fun H76 locs hO hJ hs hS => ?_)
  have hO : va_P D classes [(o, .inr (11, [.ref a0, .ref (b + 0), .ref (b + 4), .ref (b + 6), .ref (b + 7), .ref (b + 8), .ref (b + 9), .ref (b + 10), .ref (b + 11)]))] H76 := hO
  have hV := (vx_obj hG hK.1 hO0 hO hs).trans hV
  have hA := hA.kept hJ
  have hB := hB.one hs ho
  have hsz := (sz_one hJ.1 hs (lt_sz ho hsz)).trans hsz
  exact hret _ _ _ _ ⟨hsz, hO, hB, hA, hV⟩ hS.1 hS.2.2 d_Si_init_79
