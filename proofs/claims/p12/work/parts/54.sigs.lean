def LF_Si_makeReady (X : vM) (kq : Nat → Nat → Nat) (ts : Nat → Nat) (r0 : Nat → Nat) (rd0 : Bool) : vM := if rd0 = true then X else (let X2 : vM := (LF_Ha_begin X kq ts); let X3 : vM := (LF_Ha_take X2 kq ts (r0 0) 32 0 0).1; let X4 : vM := (LF_Ha_finish X3 kq ts (kq 7 3) ((LF_Ha_take X2 kq ts (r0 0) 32 0 0).2.1) ((LF_Ha_take X2 kq ts (r0 0) 32 0 0).2.2)); let X5 : vM := cpI X4 (kq 7 3) 0 (r0 1) 0 32; let X6 : vM := cpI X5 (kq 7 3) 32 (r0 2) 0 32; let X7 : vM := (LF_K_clamp X6 (r0 1)); let X8 : vM := (LF_Ed_multiplyBase X7 kq ts (r0 1)); let X9 : vM := (LF_Ed_writeSum X8 kq ts (r0 3)); X9)
abbrev rm_Si_makeReady : Room := { frames := 6, cells := 0, slots := 0, locals := 210 }
set_option maxHeartbeats 4000000 in
set_option maxRecDepth 100000 in
theorem v_Si_makeReady {l : Launch} {D : va_G} {g : ClassId → FieldType → Prop} {E : Nat → Prop} {H0 : Heap} {X : vM} {kq : Nat → Nat → Nat} {ts : Nat → Nat} {a0 : Nat} {r0 : Nat → Nat} {rd0 : Bool} (hC : kc_ D g E H0 kq ts) (hO : ho_ D kq H0) (eH : E (kq 5 99)) (h0 : va_P D classes [(a0, .inr (10, [.ref (r0 0), .ref (r0 1), .ref (r0 2), .ref (r0 3), .int (nI rd0.toNat)]))] H0) (e0 : E a0) (hap : a0 ≠ kq 5 99) (k0 : ∀ k, k < 4 → sx_A g .byte H0 (r0 k) 32 ∧ E (r0 k)) (hV : mm g H0 = X) : Met l y_Si_makeReady (.code y_Si_makeReady b_Si_makeReady 2 none :: G_) rm_Si_makeReady (sx_Pc [.ref (kq 7 99), .ref a0] H0 D g) (vx_QvP g E H0 (LF_Si_makeReady X kq ts r0 rd0) (fun H => ho_ D kq H ∧ va_P D classes [(a0, .inr (10, [.ref (r0 0), .ref (r0 1), .ref (r0 2), .ref (r0 3), .int (nI 1)]))] H)) 0 0 E := by
  obtain ⟨hd, tt, hH⟩ := hO
  refine vx_mvP (own := R_Si) (by decide) rfl rfl rfl (Nat.le_of_ble_eq_true rfl) ?_
  intro p e s m args below meth c Q ls EE hl hret
  obtain ⟨hx, hb, hml, hown, hts, hG, hK⟩ := id EE
  have hS : sx_S g E E H0 H0 [] := sx_S.rf
  have hz := hC.2.2.2.2
  have hl : lv_has ls 2 [(0, .ref (kq 7 99)), (1, .ref a0)] := hl
  refine lv_aload_n hx hb d_Si_makeReady_0 rfl (lv_at hl 1 rfl) ?_
  refine sx_getN EE h0 rfl i_Ke 4 (by decide) rfl fn_Si_48 rfl d_Si_makeReady_1 ?_
  refine lv_if_eq (tgt := 8) hx hb d_Si_makeReady_4 (by decide) (fun q4_0 => ?_) (fun q4_0 => ?_)
  · skip
    have q4_0 := vx_bf (vx_b0 q4_0)
    refine lv_aload_n hx hb d_Si_makeReady_8 rfl (lv_at hl 0 rfl) ?_
    refine sx_get EE (hS.1.ob (kc_n7 hC) (kc_o7 hC)) rfl i_Si 1 (by decide) rfl fl_Si_12 rfl d_Si_makeReady_9 ?_
    refine vx_gvP (sx_runV (As := []) (rest := []) EE hH rfl rfl (v_Ha_begin (E := (cutE E a0)) (X := X) (kc_.cut (hC.kept hS.1) (fun _ _ _ h_ => vx_ne hG hK.1 h0 h_)) hH ⟨eH, hap.symm⟩ hV) w_Si_54 rfl ⟨rfl, rfl⟩ ⟨Nat.le_of_ble_eq_true rfl, Nat.le_of_ble_eq_true rfl⟩ ⟨Nat.zero_le _, Nat.zero_le _⟩ hl.1 rfl (Nat.le_of_ble_eq_true rfl) d_Si_makeReady_12) (fun z_ h_ => h_.1) hS (fun H locs X2 eX2 hP_ hS hV hJ_ => ?_)
    have h0 := hJ_.ob (fun z_ => z_.2 rfl) h0
    have hH := hP_
    refine lv_aload_n hx hb d_Si_makeReady_15 rfl (lv_at hl 0 rfl) ?_
    refine sx_get EE (hS.1.ob (kc_n7 hC) (kc_o7 hC)) rfl i_Si 1 (by decide) rfl fl_Si_12 rfl d_Si_makeReady_16 ?_
    refine lv_aload_n hx hb d_Si_makeReady_19 rfl (lv_at hl 1 rfl) ?_
    refine sx_getN EE h0 rfl i_Ke 0 (by decide) rfl fn_Si_57 rfl d_Si_makeReady_20 ?_
    refine lv_bipush (v := nI 32) hx hb d_Si_makeReady_23 (by decide +kernel) ?_
    refine vx_gvP (sx_runV (As := [.ref (r0 0), .int (nI (32))]) (rest := []) EE hH rfl rfl (v_Ha_take (E := (cutE E a0)) (X := X2) (kc_.cut (hC.kept hS.1) (fun _ _ _ h_ => vx_ne hG hK.1 h0 h_)) hH ⟨eH, hap.symm⟩ (by omega) (hS.a (k0 0 (by decide)).1) (by omega) (by omega) hV) w_Si_60 rfl ⟨rfl, rfl⟩ ⟨Nat.le_of_ble_eq_true rfl, Nat.le_of_ble_eq_true rfl⟩ ⟨Nat.zero_le _, Nat.zero_le _⟩ hl.1 rfl (Nat.le_of_ble_eq_true rfl) d_Si_makeReady_25) (fun z_ h_ => h_.1) hS (fun H locs X3 eX3 hP_ hS hV hJ_ => ?_)
    have h0 := hJ_.ob (fun z_ => z_.2 rfl) h0
    obtain ⟨hb25_, hH⟩ := hP_
    refine lv_aload_n hx hb d_Si_makeReady_28 rfl (lv_at hl 0 rfl) ?_
    refine sx_get EE (hS.1.ob (kc_n7 hC) (kc_o7 hC)) rfl i_Si 1 (by decide) rfl fl_Si_12 rfl d_Si_makeReady_29 ?_
    refine lv_aload_n hx hb d_Si_makeReady_32 rfl (lv_at hl 0 rfl) ?_
    refine sx_get EE (hS.1.ob (kc_n7 hC) (kc_o7 hC)) rfl i_Si 3 (by decide) rfl fl_Si_25 rfl d_Si_makeReady_33 ?_
    refine vx_gvP (sx_runV (As := [.ref (kq 7 3)]) (rest := []) EE hH rfl rfl (v_Ha_finish (E := (cutE E a0)) (X := X3) (kc_.cut (hC.kept hS.1) (fun _ _ _ h_ => vx_ne hG hK.1 h0 h_)) hH ⟨eH, hap.symm⟩ (by omega) (hS.a (kc_a7_3 hC)) ⟨(kc_e7_3 hC), vx_ne hG hK.1 h0 (hS.a (kc_a7_3 hC))⟩ hV) w_Si_64 rfl ⟨rfl, rfl⟩ ⟨Nat.le_of_ble_eq_true rfl, Nat.le_of_ble_eq_true rfl⟩ ⟨Nat.zero_le _, Nat.zero_le _⟩ hl.1 rfl (Nat.le_of_ble_eq_true rfl) d_Si_makeReady_36) (fun z_ h_ => h_.1) hS (fun H locs X4 eX4 hP_ hS hV hJ_ => ?_)
    have h0 := hJ_.ob (fun z_ => z_.2 rfl) h0
    obtain ⟨hd36, tt36, hH⟩ := hP_
    refine lv_aload_n hx hb d_Si_makeReady_39 rfl (lv_at hl 0 rfl) ?_
    refine sx_get EE (hS.1.ob (kc_n7 hC) (kc_o7 hC)) rfl i_Si 3 (by decide) rfl fl_Si_25 rfl d_Si_makeReady_40 ?_
    refine lv_iconst (v := nI 0) hx hb d_Si_makeReady_43 (by decide +kernel) ?_
    refine lv_aload_n hx hb d_Si_makeReady_44 rfl (lv_at hl 1 rfl) ?_
    refine sx_getN EE h0 rfl i_Ke 1 (by decide) rfl fn_Si_68 rfl d_Si_makeReady_45 ?_
    refine lv_iconst (v := nI 0) hx hb d_Si_makeReady_48 (by decide +kernel) ?_
    refine lv_bipush (v := nI 32) hx hb d_Si_makeReady_49 (by decide +kernel) ?_
    refine vx_cpyBJ hx hb (by rw [hml]; exact hl.1.symm) hown (hts (.methodLink R_Si 71 arraycopyName) (by decide +kernel)) (hts (.native arraycopyName) (by decide +kernel)) (hts (.static arraycopyName) (by decide +kernel)) (hts (.initialized "java/lang/System") (by decide +kernel)) hG hK.1 hS hV (kc_a7_3 hC) (k0 1 (by decide)).1 (k0 1 (by decide)).2 (by omega) (by omega) (by omega) (by omega) (Nat.le_of_ble_eq_true rfl) (Nat.le_of_ble_eq_true rfl) d_Si_makeReady_51 (fun H locs X5 eX5 hS hV hO => ?_)
    have hH := hO _ _ hH
    have h0 := hO _ _ h0
    refine lv_aload_n hx hb d_Si_makeReady_54 rfl (lv_at hl 0 rfl) ?_
    refine sx_get EE (hS.1.ob (kc_n7 hC) (kc_o7 hC)) rfl i_Si 3 (by decide) rfl fl_Si_25 rfl d_Si_makeReady_55 ?_
    refine lv_bipush (v := nI 32) hx hb d_Si_makeReady_58 (by decide +kernel) ?_
    refine lv_aload_n hx hb d_Si_makeReady_60 rfl (lv_at hl 1 rfl) ?_
    refine sx_getN EE h0 rfl i_Ke 2 (by decide) rfl fn_Si_77 rfl d_Si_makeReady_61 ?_
    refine lv_iconst (v := nI 0) hx hb d_Si_makeReady_64 (by decide +kernel) ?_
    refine lv_bipush (v := nI 32) hx hb d_Si_makeReady_65 (by decide +kernel) ?_
    refine vx_cpyBJ hx hb (by rw [hml]; exact hl.1.symm) hown (hts (.methodLink R_Si 71 arraycopyName) (by decide +kernel)) (hts (.native arraycopyName) (by decide +kernel)) (hts (.static arraycopyName) (by decide +kernel)) (hts (.initialized "java/lang/System") (by decide +kernel)) hG hK.1 hS hV (kc_a7_3 hC) (k0 2 (by decide)).1 (k0 2 (by decide)).2 (by omega) (by omega) (by omega) (by omega) (Nat.le_of_ble_eq_true rfl) (Nat.le_of_ble_eq_true rfl) d_Si_makeReady_67 (fun H locs X6 eX6 hS hV hO => ?_)
    have hH := hO _ _ hH
    have h0 := hO _ _ h0
    refine lv_aload_n hx hb d_Si_makeReady_70 rfl (lv_at hl 1 rfl) ?_
    refine sx_getN EE h0 rfl i_Ke 1 (by decide) rfl fn_Si_68 rfl d_Si_makeReady_71 ?_
    refine vx_gvJ (sx_runSN (As := [.ref (r0 1)]) (rest := []) EE (v_K_clamp (E := (cutE (cutE E (kq 5 99)) a0)) (X := X6) (hS.a (k0 1 (by decide)).1) ⟨⟨(k0 1 (by decide)).2, vx_ne hG hK.1 hH (hS.a (k0 1 (by decide)).1)⟩, vx_ne hG hK.1 h0 (hS.a (k0 1 (by decide)).1)⟩ hV) ln_Si_80 wn_Si_80 rfl ⟨rfl, rfl⟩ ⟨Nat.le_of_ble_eq_true rfl, Nat.le_of_ble_eq_true rfl⟩ ⟨Nat.zero_le _, Nat.zero_le _⟩ hl.1 rfl (Nat.le_of_ble_eq_true rfl) d_Si_makeReady_74) (fun z_ h_ => h_.1.1) hS (fun H locs X7 eX7 hS hV hJ_ => ?_)
    have hH := hJ_.ob (fun z_ => z_.1.2 rfl) hH
    have h0 := hJ_.ob (fun z_ => z_.2 rfl) h0
    refine lv_aload_n hx hb d_Si_makeReady_77 rfl (lv_at hl 0 rfl) ?_
    refine sx_get EE (hS.1.ob (kc_n7 hC) (kc_o7 hC)) rfl i_Si 0 (by decide) rfl fl_Si_44 rfl d_Si_makeReady_78 ?_
    refine lv_aload_n hx hb d_Si_makeReady_81 rfl (lv_at hl 1 rfl) ?_
    refine sx_getN EE h0 rfl i_Ke 1 (by decide) rfl fn_Si_68 rfl d_Si_makeReady_82 ?_
    refine vx_gvJ (sx_runV (As := [.ref (r0 1)]) (rest := []) EE (hS.1.ob (kc_n2 hC) (kc_o2 hC)) rfl rfl (v_Ed_multiplyBase (E := (cutE (cutE E (kq 5 99)) a0)) (X := X7) (kc_.cut (kc_.cut (hC.kept hS.1) (fun _ _ _ h_ => vx_ne hG hK.1 hH h_)) (fun _ _ _ h_ => vx_ne hG hK.1 h0 h_)) (hS.a (k0 1 (by decide)).1) hV) w_Si_83 rfl ⟨rfl, rfl⟩ ⟨Nat.le_of_ble_eq_true rfl, Nat.le_of_ble_eq_true rfl⟩ ⟨Nat.zero_le _, Nat.zero_le _⟩ hl.1 rfl (Nat.le_of_ble_eq_true rfl) d_Si_makeReady_85) (fun z_ h_ => h_.1.1) hS (fun H locs X8 eX8 hS hV hJ_ => ?_)
    have hH := hJ_.ob (fun z_ => z_.1.2 rfl) hH
    have h0 := hJ_.ob (fun z_ => z_.2 rfl) h0
    refine lv_aload_n hx hb d_Si_makeReady_88 rfl (lv_at hl 0 rfl) ?_
    refine sx_get EE (hS.1.ob (kc_n7 hC) (kc_o7 hC)) rfl i_Si 0 (by decide) rfl fl_Si_44 rfl d_Si_makeReady_89 ?_
    refine lv_aload_n hx hb d_Si_makeReady_92 rfl (lv_at hl 1 rfl) ?_
    refine sx_getN EE h0 rfl i_Ke 3 (by decide) rfl fn_Si_88 rfl d_Si_makeReady_93 ?_
    refine vx_gvJ (sx_runV (As := [.ref (r0 3)]) (rest := []) EE (hS.1.ob (kc_n2 hC) (kc_o2 hC)) rfl rfl (v_Ed_writeSum (E := (cutE (cutE E (kq 5 99)) a0)) (X := X8) (kc_.cut (kc_.cut (hC.kept hS.1) (fun _ _ _ h_ => vx_ne hG hK.1 hH h_)) (fun _ _ _ h_ => vx_ne hG hK.1 h0 h_)) (hS.a (k0 3 (by decide)).1) ⟨⟨(k0 3 (by decide)).2, vx_ne hG hK.1 hH (hS.a (k0 3 (by decide)).1)⟩, vx_ne hG hK.1 h0 (hS.a (k0 3 (by decide)).1)⟩ hV) w_Si_91 rfl ⟨rfl, rfl⟩ ⟨Nat.le_of_ble_eq_true rfl, Nat.le_of_ble_eq_true rfl⟩ ⟨Nat.zero_le _, Nat.zero_le _⟩ hl.1 rfl (Nat.le_of_ble_eq_true rfl) d_Si_makeReady_96) (fun z_ h_ => h_.1.1) hS (fun H locs X9 eX9 hS hV hJ_ => ?_)
    have hH := hJ_.ob (fun z_ => z_.1.2 rfl) hH
    have h0 := hJ_.ob (fun z_ => z_.2 rfl) h0
    refine lv_aload_n hx hb d_Si_makeReady_99 rfl (lv_at hl 1 rfl) ?_
    refine lv_iconst (v := nI 1) hx hb d_Si_makeReady_100 (by decide +kernel) ?_
    have h0_ := h0
    refine sx_putN EE h0 rfl i_Ke t_Ke tok_Ke n_Ke 4 (by decide) rfl fn_Si_48 (ty := .boolean) (by decide +kernel) rfl rfl (Nat.le_of_ble_eq_true rfl) e0 hS d_Si_makeReady_101 (fun H locs h0 hJ_ hs_ hS => ?_)
    have h0 : va_P D classes [(a0, .inr (10, [.ref (r0 0), .ref (r0 1), .ref (r0 2), .ref (r0 3), .int (nI (1))]))] H := h0
    have hV := (vx_obj hG hK.1 h0_ h0 hs_).trans hV
    have hH := hH.kept (fun k_ q_ hk_ => by match k_, hk_ with | 0, hk_ => cases hk_; exact hs_ _ (hap.symm))
    have hK1 := h0
    exact hret _ _ _ _ _ (by subst eX2 eX3 eX4 eX5 eX6 eX7 eX8 eX9; exact (vx_n q4_0 rfl)) ⟨⟨_, _, hH⟩, hK1⟩ hS hV d_Si_makeReady_104
  · skip
    have q4_0 := vx_b1 q4_0
    have hK1 := h0
    rw [show rd0 = true from q4_0] at hK1
    exact hret _ _ _ _ _ (vx_p q4_0 rfl) ⟨⟨_, _, hH⟩, hK1⟩ hS hV d_Si_makeReady_7
def LF_Si_hashChallenge (X : vM) (kq : Nat → Nat → Nat) (ts : Nat → Nat) (a0 : Nat) (b1 m1 : Nat) : vM := (let X1 : vM := (LF_Ha_begin X kq ts); let X2 : vM := (LF_Ha_take X1 kq ts (kq 7 7) 32 0 0).1; let X3 : vM := (LF_Ha_take X2 kq ts a0 32 ((LF_Ha_take X1 kq ts (kq 7 7) 32 0 0).2.1) ((LF_Ha_take X1 kq ts (kq 7 7) 32 0 0).2.2)).1; let X4 : vM := (LF_Ha_take X3 kq ts b1 m1 ((LF_Ha_take X2 kq ts a0 32 ((LF_Ha_take X1 kq ts (kq 7 7) 32 0 0).2.1) ((LF_Ha_take X1 kq ts (kq 7 7) 32 0 0).2.2)).2.1) ((LF_Ha_take X2 kq ts a0 32 ((LF_Ha_take X1 kq ts (kq 7 7) 32 0 0).2.1) ((LF_Ha_take X1 kq ts (kq 7 7) 32 0 0).2.2)).2.2)).1; let X5 : vM := (LF_Ha_finish X4 kq ts (kq 7 3) ((LF_Ha_take X3 kq ts b1 m1 ((LF_Ha_take X2 kq ts a0 32 ((LF_Ha_take X1 kq ts (kq 7 7) 32 0 0).2.1) ((LF_Ha_take X1 kq ts (kq 7 7) 32 0 0).2.2)).2.1) ((LF_Ha_take X2 kq ts a0 32 ((LF_Ha_take X1 kq ts (kq 7 7) 32 0 0).2.1) ((LF_Ha_take X1 kq ts (kq 7 7) 32 0 0).2.2)).2.2)).2.1) ((LF_Ha_take X3 kq ts b1 m1 ((LF_Ha_take X2 kq ts a0 32 ((LF_Ha_take X1 kq ts (kq 7 7) 32 0 0).2.1) ((LF_Ha_take X1 kq ts (kq 7 7) 32 0 0).2.2)).2.1) ((LF_Ha_take X2 kq ts a0 32 ((LF_Ha_take X1 kq ts (kq 7 7) 32 0 0).2.1) ((LF_Ha_take X1 kq ts (kq 7 7) 32 0 0).2.2)).2.2)).2.2)); X5)
abbrev rm_Si_hashChallenge : Room := { frames := 3, cells := 0, slots := 0, locals := 120 }
set_option maxHeartbeats 4000000 in
set_option maxRecDepth 100000 in
theorem v_Si_hashChallenge {l : Launch} {D : va_G} {g : ClassId → FieldType → Prop} {E : Nat → Prop} {H0 : Heap} {X : vM} {kq : Nat → Nat → Nat} {ts : Nat → Nat} {a0 : Nat} {a1 b1 m1 N1 : Nat} (hC : kc_ D g E H0 kq ts) (hO : ho_ D kq H0) (eH : E (kq 5 99)) (f0 : sx_A g .byte H0 a0 32) (h1 : va_P D classes [(a1, .inr (9, [.ref b1, .int (nI m1)]))] H0) (n1 : ¬ E a1) (f1 : sx_A g .byte H0 b1 N1) (l1 : m1 ≤ N1) (u1 : N1 ≤ 65536) (hV : mm g H0 = X) : Met l y_Si_hashChallenge (.code y_Si_hashChallenge b_Si_hashChallenge 3 none :: G_) rm_Si_hashChallenge (sx_Pc [.ref (kq 7 99), .ref a0, .ref a1] H0 D g) (vx_QvP g E H0 (LF_Si_hashChallenge X kq ts a0 b1 m1) (fun H => ho_ D kq H)) 0 0 E := by
  obtain ⟨hd, tt, hH⟩ := hO
  refine vx_mvP (own := R_Si) (by decide) rfl rfl rfl (Nat.le_of_ble_eq_true rfl) ?_
  intro p e s m args below meth c Q ls EE hl hret
  obtain ⟨hx, hb, hml, hown, hts, hG, hK⟩ := id EE
  have hS : sx_S g E E H0 H0 [] := sx_S.rf
  have hz := hC.2.2.2.2
  have hl : lv_has ls 3 [(0, .ref (kq 7 99)), (1, .ref a0), (2, .ref a1)] := hl
  refine lv_aload_n hx hb d_Si_hashChallenge_0 rfl (lv_at hl 0 rfl) ?_
  refine sx_get EE (hS.1.ob (kc_n7 hC) (kc_o7 hC)) rfl i_Si 1 (by decide) rfl fl_Si_12 rfl d_Si_hashChallenge_1 ?_
  refine vx_gvP (sx_runV (As := []) (rest := []) EE hH rfl rfl (v_Ha_begin (X := X) (hC.kept hS.1) hH eH hV) w_Si_54 rfl ⟨rfl, rfl⟩ ⟨Nat.le_of_ble_eq_true rfl, Nat.le_of_ble_eq_true rfl⟩ ⟨Nat.zero_le _, Nat.zero_le _⟩ hl.1 rfl (Nat.le_of_ble_eq_true rfl) d_Si_hashChallenge_4) (fun z_ h_ => h_) hS (fun H locs X1 eX1 hP_ hS hV hJ_ => ?_)
  have hH := hP_
  refine lv_aload_n hx hb d_Si_hashChallenge_7 rfl (lv_at hl 0 rfl) ?_
  refine sx_get EE (hS.1.ob (kc_n7 hC) (kc_o7 hC)) rfl i_Si 1 (by decide) rfl fl_Si_12 rfl d_Si_hashChallenge_8 ?_
  refine lv_aload_n hx hb d_Si_hashChallenge_11 rfl (lv_at hl 0 rfl) ?_
  refine sx_get EE (hS.1.ob (kc_n7 hC) (kc_o7 hC)) rfl i_Si 7 (by decide) rfl fl_Si_38 rfl d_Si_hashChallenge_12 ?_
  refine lv_bipush (v := nI 32) hx hb d_Si_hashChallenge_15 (by decide +kernel) ?_
  refine vx_gvP (sx_runV (As := [.ref (kq 7 7), .int (nI (32))]) (rest := []) EE hH rfl rfl (v_Ha_take (X := X1) (hC.kept hS.1) hH eH (by omega) (hS.a (kc_a7_7 hC)) (by omega) (by omega) hV) w_Si_60 rfl ⟨rfl, rfl⟩ ⟨Nat.le_of_ble_eq_true rfl, Nat.le_of_ble_eq_true rfl⟩ ⟨Nat.zero_le _, Nat.zero_le _⟩ hl.1 rfl (Nat.le_of_ble_eq_true rfl) d_Si_hashChallenge_17) (fun z_ h_ => h_) hS (fun H locs X2 eX2 hP_ hS hV hJ_ => ?_)
  obtain ⟨hb17_, hH⟩ := hP_
  refine lv_aload_n hx hb d_Si_hashChallenge_20 rfl (lv_at hl 0 rfl) ?_
  refine sx_get EE (hS.1.ob (kc_n7 hC) (kc_o7 hC)) rfl i_Si 1 (by decide) rfl fl_Si_12 rfl d_Si_hashChallenge_21 ?_
  refine lv_aload_n hx hb d_Si_hashChallenge_24 rfl (lv_at hl 1 rfl) ?_
  refine lv_bipush (v := nI 32) hx hb d_Si_hashChallenge_25 (by decide +kernel) ?_
  refine vx_gvP (sx_runV (As := [.ref a0, .int (nI (32))]) (rest := []) EE hH rfl rfl (v_Ha_take (X := X2) (hC.kept hS.1) hH eH (by omega) (hS.a f0) (by omega) (by omega) hV) w_Si_60 rfl ⟨rfl, rfl⟩ ⟨Nat.le_of_ble_eq_true rfl, Nat.le_of_ble_eq_true rfl⟩ ⟨Nat.zero_le _, Nat.zero_le _⟩ hl.1 rfl (Nat.le_of_ble_eq_true rfl) d_Si_hashChallenge_27) (fun z_ h_ => h_) hS (fun H locs X3 eX3 hP_ hS hV hJ_ => ?_)
  obtain ⟨hb27_, hH⟩ := hP_
  refine lv_aload_n hx hb d_Si_hashChallenge_30 rfl (lv_at hl 0 rfl) ?_
  refine sx_get EE (hS.1.ob (kc_n7 hC) (kc_o7 hC)) rfl i_Si 1 (by decide) rfl fl_Si_12 rfl d_Si_hashChallenge_31 ?_
  refine lv_aload_n hx hb d_Si_hashChallenge_34 rfl (lv_at hl 2 rfl) ?_
  refine sx_getN EE (hS.1.ob n1 h1) rfl i_Ro 0 (by decide) rfl fn_Si_94 rfl d_Si_hashChallenge_35 ?_
  refine lv_aload_n hx hb d_Si_hashChallenge_38 rfl (lv_at hl 2 rfl) ?_
  refine sx_getN EE (hS.1.ob n1 h1) rfl i_Ro 1 (by decide) rfl fn_Si_99 rfl d_Si_hashChallenge_39 ?_
  refine vx_gvP (sx_runV (As := [.ref b1, .int (nI (m1))]) (rest := []) EE hH rfl rfl (v_Ha_take (X := X3) (hC.kept hS.1) hH eH (by omega) (hS.a f1) (by omega) (by omega) hV) w_Si_60 rfl ⟨rfl, rfl⟩ ⟨Nat.le_of_ble_eq_true rfl, Nat.le_of_ble_eq_true rfl⟩ ⟨Nat.zero_le _, Nat.zero_le _⟩ hl.1 rfl (Nat.le_of_ble_eq_true rfl) d_Si_hashChallenge_42) (fun z_ h_ => h_) hS (fun H locs X4 eX4 hP_ hS hV hJ_ => ?_)
  obtain ⟨hb42_, hH⟩ := hP_
  refine lv_aload_n hx hb d_Si_hashChallenge_45 rfl (lv_at hl 0 rfl) ?_
  refine sx_get EE (hS.1.ob (kc_n7 hC) (kc_o7 hC)) rfl i_Si 1 (by decide) rfl fl_Si_12 rfl d_Si_hashChallenge_46 ?_
  refine lv_aload_n hx hb d_Si_hashChallenge_49 rfl (lv_at hl 0 rfl) ?_
  refine sx_get EE (hS.1.ob (kc_n7 hC) (kc_o7 hC)) rfl i_Si 3 (by decide) rfl fl_Si_25 rfl d_Si_hashChallenge_50 ?_
  refine vx_gvP (sx_runV (As := [.ref (kq 7 3)]) (rest := []) EE hH rfl rfl (v_Ha_finish (X := X4) (hC.kept hS.1) hH eH (by omega) (hS.a (kc_a7_3 hC)) (kc_e7_3 hC) hV) w_Si_64 rfl ⟨rfl, rfl⟩ ⟨Nat.le_of_ble_eq_true rfl, Nat.le_of_ble_eq_true rfl⟩ ⟨Nat.zero_le _, Nat.zero_le _⟩ hl.1 rfl (Nat.le_of_ble_eq_true rfl) d_Si_hashChallenge_53) (fun z_ h_ => h_) hS (fun H locs X5 eX5 hP_ hS hV hJ_ => ?_)
  obtain ⟨hd53, tt53, hH⟩ := hP_
  exact hret _ _ _ _ _ (by subst eX1 eX2 eX3 eX4 eX5; exact rfl) ⟨_, _, hH⟩ hS hV d_Si_hashChallenge_56
def LF_Si_writeSignature (X : vM) (kq : Nat → Nat → Nat) (ts : Nat → Nat) (a0 : Nat) (r1 : Nat → Nat) (b2 m2 : Nat) : vM := (let X1 : vM := (LF_Ha_begin X kq ts); let X2 : vM := (LF_Ha_take X1 kq ts (r1 2) 32 0 0).1; let X3 : vM := (LF_Ha_take X2 kq ts b2 m2 ((LF_Ha_take X1 kq ts (r1 2) 32 0 0).2.1) ((LF_Ha_take X1 kq ts (r1 2) 32 0 0).2.2)).1; let X4 : vM := (LF_Ha_finish X3 kq ts (kq 7 3) ((LF_Ha_take X2 kq ts b2 m2 ((LF_Ha_take X1 kq ts (r1 2) 32 0 0).2.1) ((LF_Ha_take X1 kq ts (r1 2) 32 0 0).2.2)).2.1) ((LF_Ha_take X2 kq ts b2 m2 ((LF_Ha_take X1 kq ts (r1 2) 32 0 0).2.1) ((LF_Ha_take X1 kq ts (r1 2) 32 0 0).2.2)).2.2)); let X5 : vM := (LF_Or_reduce X4 kq ts (kq 7 4) (kq 7 3)); let X6 : vM := (LF_Ed_multiplyBase X5 kq ts (kq 7 4)); let X7 : vM := (LF_Ed_writeSum X6 kq ts (kq 7 7)); let X8 : vM := (LF_Si_hashChallenge X7 kq ts (r1 3) b2 m2); let X9 : vM := (LF_Or_reduce X8 kq ts (kq 7 5) (kq 7 3)); let X10 : vM := (LF_Or_multiplyAndAdd X9 kq ts (kq 7 6) (kq 7 5) (r1 1) (kq 7 4)); let X11 : vM := cpI X10 (kq 7 7) 0 a0 0 32; let X12 : vM := cpI X11 (kq 7 6) 0 a0 32 32; X12)
abbrev rm_Si_writeSignature : Room := { frames := 6, cells := 0, slots := 0, locals := 210 }
set_option maxHeartbeats 4000000 in
set_option maxRecDepth 100000 in
theorem v_Si_writeSignature {l : Launch} {D : va_G} {g : ClassId → FieldType → Prop} {E : Nat → Prop} {H0 : Heap} {X : vM} {kq : Nat → Nat → Nat} {ts : Nat → Nat} {a0 : Nat} {a1 : Nat} {r1 : Nat → Nat} {rd1 : Bool} {a2 b2 m2 N2 : Nat} (hC : kc_ D g E H0 kq ts) (hO : ho_ D kq H0) (eH : E (kq 5 99)) (f0 : sx_A g .byte H0 a0 64) (o0 : E a0) (h1 : va_P D classes [(a1, .inr (10, [.ref (r1 0), .ref (r1 1), .ref (r1 2), .ref (r1 3), .int (nI rd1.toNat)]))] H0) (n1 : ¬ E a1) (k1 : ∀ k, k < 4 → sx_A g .byte H0 (r1 k) 32 ∧ E (r1 k)) (h2 : va_P D classes [(a2, .inr (9, [.ref b2, .int (nI m2)]))] H0) (n2 : ¬ E a2) (f2 : sx_A g .byte H0 b2 N2) (l2 : m2 ≤ N2) (u2 : N2 ≤ 65536) (hV : mm g H0 = X) : Met l y_Si_writeSignature (.code y_Si_writeSignature b_Si_writeSignature 4 none :: G_) rm_Si_writeSignature (sx_Pc [.ref (kq 7 99), .ref a0, .ref a1, .ref a2] H0 D g) (vx_QvP g E H0 (LF_Si_writeSignature X kq ts a0 r1 b2 m2) (fun H => ho_ D kq H)) 0 0 E := by
  obtain ⟨hd, tt, hH⟩ := hO
  refine vx_mvP (own := R_Si) (by decide) rfl rfl rfl (Nat.le_of_ble_eq_true rfl) ?_
  intro p e s m args below meth c Q ls EE hl hret
  obtain ⟨hx, hb, hml, hown, hts, hG, hK⟩ := id EE
  have hS : sx_S g E E H0 H0 [] := sx_S.rf
  have hz := hC.2.2.2.2
  have hl : lv_has ls 4 [(0, .ref (kq 7 99)), (1, .ref a0), (2, .ref a1), (3, .ref a2)] := hl
  refine lv_aload_n hx hb d_Si_writeSignature_0 rfl (lv_at hl 0 rfl) ?_
  refine sx_get EE (hS.1.ob (kc_n7 hC) (kc_o7 hC)) rfl i_Si 1 (by decide) rfl fl_Si_12 rfl d_Si_writeSignature_1 ?_
  refine vx_gvP (sx_runV (As := []) (rest := []) EE hH rfl rfl (v_Ha_begin (X := X) (hC.kept hS.1) hH eH hV) w_Si_54 rfl ⟨rfl, rfl⟩ ⟨Nat.le_of_ble_eq_true rfl, Nat.le_of_ble_eq_true rfl⟩ ⟨Nat.zero_le _, Nat.zero_le _⟩ hl.1 rfl (Nat.le_of_ble_eq_true rfl) d_Si_writeSignature_4) (fun z_ h_ => h_) hS (fun H locs X1 eX1 hP_ hS hV hJ_ => ?_)
  have hH := hP_
  refine lv_aload_n hx hb d_Si_writeSignature_7 rfl (lv_at hl 0 rfl) ?_
  refine sx_get EE (hS.1.ob (kc_n7 hC) (kc_o7 hC)) rfl i_Si 1 (by decide) rfl fl_Si_12 rfl d_Si_writeSignature_8 ?_
  refine lv_aload_n hx hb d_Si_writeSignature_11 rfl (lv_at hl 2 rfl) ?_
  refine sx_getN EE (hS.1.ob n1 h1) rfl i_Ke 2 (by decide) rfl fn_Si_77 rfl d_Si_writeSignature_12 ?_
  refine lv_bipush (v := nI 32) hx hb d_Si_writeSignature_15 (by decide +kernel) ?_
  refine vx_gvP (sx_runV (As := [.ref (r1 2), .int (nI (32))]) (rest := []) EE hH rfl rfl (v_Ha_take (X := X1) (hC.kept hS.1) hH eH (by omega) (hS.a (k1 2 (by decide)).1) (by omega) (by omega) hV) w_Si_60 rfl ⟨rfl, rfl⟩ ⟨Nat.le_of_ble_eq_true rfl, Nat.le_of_ble_eq_true rfl⟩ ⟨Nat.zero_le _, Nat.zero_le _⟩ hl.1 rfl (Nat.le_of_ble_eq_true rfl) d_Si_writeSignature_17) (fun z_ h_ => h_) hS (fun H locs X2 eX2 hP_ hS hV hJ_ => ?_)
  obtain ⟨hb17_, hH⟩ := hP_
  refine lv_aload_n hx hb d_Si_writeSignature_20 rfl (lv_at hl 0 rfl) ?_
  refine sx_get EE (hS.1.ob (kc_n7 hC) (kc_o7 hC)) rfl i_Si 1 (by decide) rfl fl_Si_12 rfl d_Si_writeSignature_21 ?_
  refine lv_aload_n hx hb d_Si_writeSignature_24 rfl (lv_at hl 3 rfl) ?_
  refine sx_getN EE (hS.1.ob n2 h2) rfl i_Ro 0 (by decide) rfl fn_Si_94 rfl d_Si_writeSignature_25 ?_
  refine lv_aload_n hx hb d_Si_writeSignature_28 rfl (lv_at hl 3 rfl) ?_
  refine sx_getN EE (hS.1.ob n2 h2) rfl i_Ro 1 (by decide) rfl fn_Si_99 rfl d_Si_writeSignature_29 ?_
  refine vx_gvP (sx_runV (As := [.ref b2, .int (nI (m2))]) (rest := []) EE hH rfl rfl (v_Ha_take (X := X2) (hC.kept hS.1) hH eH (by omega) (hS.a f2) (by omega) (by omega) hV) w_Si_60 rfl ⟨rfl, rfl⟩ ⟨Nat.le_of_ble_eq_true rfl, Nat.le_of_ble_eq_true rfl⟩ ⟨Nat.zero_le _, Nat.zero_le _⟩ hl.1 rfl (Nat.le_of_ble_eq_true rfl) d_Si_writeSignature_32) (fun z_ h_ => h_) hS (fun H locs X3 eX3 hP_ hS hV hJ_ => ?_)
  obtain ⟨hb32_, hH⟩ := hP_
  refine lv_aload_n hx hb d_Si_writeSignature_35 rfl (lv_at hl 0 rfl) ?_
  refine sx_get EE (hS.1.ob (kc_n7 hC) (kc_o7 hC)) rfl i_Si 1 (by decide) rfl fl_Si_12 rfl d_Si_writeSignature_36 ?_
  refine lv_aload_n hx hb d_Si_writeSignature_39 rfl (lv_at hl 0 rfl) ?_
  refine sx_get EE (hS.1.ob (kc_n7 hC) (kc_o7 hC)) rfl i_Si 3 (by decide) rfl fl_Si_25 rfl d_Si_writeSignature_40 ?_
  refine vx_gvP (sx_runV (As := [.ref (kq 7 3)]) (rest := []) EE hH rfl rfl (v_Ha_finish (X := X3) (hC.kept hS.1) hH eH (by omega) (hS.a (kc_a7_3 hC)) (kc_e7_3 hC) hV) w_Si_64 rfl ⟨rfl, rfl⟩ ⟨Nat.le_of_ble_eq_true rfl, Nat.le_of_ble_eq_true rfl⟩ ⟨Nat.zero_le _, Nat.zero_le _⟩ hl.1 rfl (Nat.le_of_ble_eq_true rfl) d_Si_writeSignature_43) (fun z_ h_ => h_) hS (fun H locs X4 eX4 hP_ hS hV hJ_ => ?_)
  obtain ⟨hd43, tt43, hH⟩ := hP_
  refine lv_aload_n hx hb d_Si_writeSignature_46 rfl (lv_at hl 0 rfl) ?_
  refine sx_get EE (hS.1.ob (kc_n7 hC) (kc_o7 hC)) rfl i_Si 2 (by decide) rfl fl_Si_21 rfl d_Si_writeSignature_47 ?_
  refine lv_aload_n hx hb d_Si_writeSignature_50 rfl (lv_at hl 0 rfl) ?_
  refine sx_get EE (hS.1.ob (kc_n7 hC) (kc_o7 hC)) rfl i_Si 4 (by decide) rfl fl_Si_29 rfl d_Si_writeSignature_51 ?_
  refine lv_aload_n hx hb d_Si_writeSignature_54 rfl (lv_at hl 0 rfl) ?_
  refine sx_get EE (hS.1.ob (kc_n7 hC) (kc_o7 hC)) rfl i_Si 3 (by decide) rfl fl_Si_25 rfl d_Si_writeSignature_55 ?_
  refine vx_gvJ (sx_runV (As := [.ref (kq 7 4), .ref (kq 7 3)]) (rest := []) EE (hS.1.ob (kc_n6 hC) (kc_o6 hC)) rfl rfl (v_Or_reduce (E := (cutE E (kq 5 99))) (X := X4) (kc_.cut (hC.kept hS.1) (fun _ _ _ h_ => vx_ne hG hK.1 hH h_)) (hS.a (kc_a7_4 hC)) ⟨(kc_e7_4 hC), vx_ne hG hK.1 hH (hS.a (kc_a7_4 hC))⟩ (hS.a (kc_a7_3 hC)) hV) w_Si_103 rfl ⟨rfl, rfl⟩ ⟨Nat.le_of_ble_eq_true rfl, Nat.le_of_ble_eq_true rfl⟩ ⟨Nat.zero_le _, Nat.zero_le _⟩ hl.1 rfl (Nat.le_of_ble_eq_true rfl) d_Si_writeSignature_58) (fun z_ h_ => h_.1) hS (fun H locs X5 eX5 hS hV hJ_ => ?_)
  have hH := hJ_.ob (fun z_ => z_.2 rfl) hH
  refine lv_aload_n hx hb d_Si_writeSignature_61 rfl (lv_at hl 0 rfl) ?_
  refine sx_get EE (hS.1.ob (kc_n7 hC) (kc_o7 hC)) rfl i_Si 0 (by decide) rfl fl_Si_44 rfl d_Si_writeSignature_62 ?_
  refine lv_aload_n hx hb d_Si_writeSignature_65 rfl (lv_at hl 0 rfl) ?_
  refine sx_get EE (hS.1.ob (kc_n7 hC) (kc_o7 hC)) rfl i_Si 4 (by decide) rfl fl_Si_29 rfl d_Si_writeSignature_66 ?_
  refine vx_gvJ (sx_runV (As := [.ref (kq 7 4)]) (rest := []) EE (hS.1.ob (kc_n2 hC) (kc_o2 hC)) rfl rfl (v_Ed_multiplyBase (E := (cutE E (kq 5 99))) (X := X5) (kc_.cut (hC.kept hS.1) (fun _ _ _ h_ => vx_ne hG hK.1 hH h_)) (hS.a (kc_a7_4 hC)) hV) w_Si_83 rfl ⟨rfl, rfl⟩ ⟨Nat.le_of_ble_eq_true rfl, Nat.le_of_ble_eq_true rfl⟩ ⟨Nat.zero_le _, Nat.zero_le _⟩ hl.1 rfl (Nat.le_of_ble_eq_true rfl) d_Si_writeSignature_69) (fun z_ h_ => h_.1) hS (fun H locs X6 eX6 hS hV hJ_ => ?_)
  have hH := hJ_.ob (fun z_ => z_.2 rfl) hH
  refine lv_aload_n hx hb d_Si_writeSignature_72 rfl (lv_at hl 0 rfl) ?_
  refine sx_get EE (hS.1.ob (kc_n7 hC) (kc_o7 hC)) rfl i_Si 0 (by decide) rfl fl_Si_44 rfl d_Si_writeSignature_73 ?_
  refine lv_aload_n hx hb d_Si_writeSignature_76 rfl (lv_at hl 0 rfl) ?_
  refine sx_get EE (hS.1.ob (kc_n7 hC) (kc_o7 hC)) rfl i_Si 7 (by decide) rfl fl_Si_38 rfl d_Si_writeSignature_77 ?_
  refine vx_gvJ (sx_runV (As := [.ref (kq 7 7)]) (rest := []) EE (hS.1.ob (kc_n2 hC) (kc_o2 hC)) rfl rfl (v_Ed_writeSum (E := (cutE E (kq 5 99))) (X := X6) (kc_.cut (hC.kept hS.1) (fun _ _ _ h_ => vx_ne hG hK.1 hH h_)) (hS.a (kc_a7_7 hC)) ⟨(kc_e7_7 hC), vx_ne hG hK.1 hH (hS.a (kc_a7_7 hC))⟩ hV) w_Si_91 rfl ⟨rfl, rfl⟩ ⟨Nat.le_of_ble_eq_true rfl, Nat.le_of_ble_eq_true rfl⟩ ⟨Nat.zero_le _, Nat.zero_le _⟩ hl.1 rfl (Nat.le_of_ble_eq_true rfl) d_Si_writeSignature_80) (fun z_ h_ => h_.1) hS (fun H locs X7 eX7 hS hV hJ_ => ?_)
  have hH := hJ_.ob (fun z_ => z_.2 rfl) hH
  refine lv_aload_n hx hb d_Si_writeSignature_83 rfl (lv_at hl 0 rfl) ?_
  refine lv_aload_n hx hb d_Si_writeSignature_84 rfl (lv_at hl 2 rfl) ?_
  refine sx_getN EE (hS.1.ob n1 h1) rfl i_Ke 3 (by decide) rfl fn_Si_88 rfl d_Si_writeSignature_85 ?_
  refine lv_aload_n hx hb d_Si_writeSignature_88 rfl (lv_at hl 3 rfl) ?_
  refine vx_gvP (sx_runV (As := [.ref (r1 3), .ref a2]) (rest := []) EE (hS.1.ob (kc_n7 hC) (kc_o7 hC)) rfl rfl (v_Si_hashChallenge (X := X7) (hC.kept hS.1) ⟨_, _, hH⟩ eH (hS.a (k1 3 (by decide)).1) (hS.1.ob n2 h2) (fun z_ => n2 z_) (hS.a f2) (by omega) (by omega) hV) w_Si_107 rfl ⟨rfl, rfl⟩ ⟨Nat.le_of_ble_eq_true rfl, Nat.le_of_ble_eq_true rfl⟩ ⟨Nat.zero_le _, Nat.zero_le _⟩ hl.1 rfl (Nat.le_of_ble_eq_true rfl) d_Si_writeSignature_89) (fun z_ h_ => h_) hS (fun H locs X8 eX8 hP_ hS hV hJ_ => ?_)
  obtain ⟨hd89, tt89, hH⟩ := hP_
  refine lv_aload_n hx hb d_Si_writeSignature_92 rfl (lv_at hl 0 rfl) ?_
  refine sx_get EE (hS.1.ob (kc_n7 hC) (kc_o7 hC)) rfl i_Si 2 (by decide) rfl fl_Si_21 rfl d_Si_writeSignature_93 ?_
  refine lv_aload_n hx hb d_Si_writeSignature_96 rfl (lv_at hl 0 rfl) ?_
  refine sx_get EE (hS.1.ob (kc_n7 hC) (kc_o7 hC)) rfl i_Si 5 (by decide) rfl fl_Si_32 rfl d_Si_writeSignature_97 ?_
  refine lv_aload_n hx hb d_Si_writeSignature_100 rfl (lv_at hl 0 rfl) ?_
  refine sx_get EE (hS.1.ob (kc_n7 hC) (kc_o7 hC)) rfl i_Si 3 (by decide) rfl fl_Si_25 rfl d_Si_writeSignature_101 ?_
  refine vx_gvJ (sx_runV (As := [.ref (kq 7 5), .ref (kq 7 3)]) (rest := []) EE (hS.1.ob (kc_n6 hC) (kc_o6 hC)) rfl rfl (v_Or_reduce (E := (cutE E (kq 5 99))) (X := X8) (kc_.cut (hC.kept hS.1) (fun _ _ _ h_ => vx_ne hG hK.1 hH h_)) (hS.a (kc_a7_5 hC)) ⟨(kc_e7_5 hC), vx_ne hG hK.1 hH (hS.a (kc_a7_5 hC))⟩ (hS.a (kc_a7_3 hC)) hV) w_Si_103 rfl ⟨rfl, rfl⟩ ⟨Nat.le_of_ble_eq_true rfl, Nat.le_of_ble_eq_true rfl⟩ ⟨Nat.zero_le _, Nat.zero_le _⟩ hl.1 rfl (Nat.le_of_ble_eq_true rfl) d_Si_writeSignature_104) (fun z_ h_ => h_.1) hS (fun H locs X9 eX9 hS hV hJ_ => ?_)
  have hH := hJ_.ob (fun z_ => z_.2 rfl) hH
  refine lv_aload_n hx hb d_Si_writeSignature_107 rfl (lv_at hl 0 rfl) ?_
  refine sx_get EE (hS.1.ob (kc_n7 hC) (kc_o7 hC)) rfl i_Si 2 (by decide) rfl fl_Si_21 rfl d_Si_writeSignature_108 ?_
  refine lv_aload_n hx hb d_Si_writeSignature_111 rfl (lv_at hl 0 rfl) ?_
  refine sx_get EE (hS.1.ob (kc_n7 hC) (kc_o7 hC)) rfl i_Si 6 (by decide) rfl fl_Si_35 rfl d_Si_writeSignature_112 ?_
  refine lv_aload_n hx hb d_Si_writeSignature_115 rfl (lv_at hl 0 rfl) ?_
  refine sx_get EE (hS.1.ob (kc_n7 hC) (kc_o7 hC)) rfl i_Si 5 (by decide) rfl fl_Si_32 rfl d_Si_writeSignature_116 ?_
  refine lv_aload_n hx hb d_Si_writeSignature_119 rfl (lv_at hl 2 rfl) ?_
  refine sx_getN EE (hS.1.ob n1 h1) rfl i_Ke 1 (by decide) rfl fn_Si_68 rfl d_Si_writeSignature_120 ?_
  refine lv_aload_n hx hb d_Si_writeSignature_123 rfl (lv_at hl 0 rfl) ?_
  refine sx_get EE (hS.1.ob (kc_n7 hC) (kc_o7 hC)) rfl i_Si 4 (by decide) rfl fl_Si_29 rfl d_Si_writeSignature_124 ?_
  refine vx_gvJ (sx_runV (As := [.ref (kq 7 6), .ref (kq 7 5), .ref (r1 1), .ref (kq 7 4)]) (rest := []) EE (hS.1.ob (kc_n6 hC) (kc_o6 hC)) rfl rfl (v_Or_multiplyAndAdd (E := (cutE E (kq 5 99))) (X := X9) (kc_.cut (hC.kept hS.1) (fun _ _ _ h_ => vx_ne hG hK.1 hH h_)) (hS.a (kc_a7_6 hC)) ⟨(kc_e7_6 hC), vx_ne hG hK.1 hH (hS.a (kc_a7_6 hC))⟩ (hS.a (kc_a7_5 hC)) (hS.a (k1 1 (by decide)).1) (hS.a (kc_a7_4 hC)) hV) w_Si_111 rfl ⟨rfl, rfl⟩ ⟨Nat.le_of_ble_eq_true rfl, Nat.le_of_ble_eq_true rfl⟩ ⟨Nat.zero_le _, Nat.zero_le _⟩ hl.1 rfl (Nat.le_of_ble_eq_true rfl) d_Si_writeSignature_127) (fun z_ h_ => h_.1) hS (fun H locs X10 eX10 hS hV hJ_ => ?_)
  have hH := hJ_.ob (fun z_ => z_.2 rfl) hH
  refine lv_aload_n hx hb d_Si_writeSignature_130 rfl (lv_at hl 0 rfl) ?_
  refine sx_get EE (hS.1.ob (kc_n7 hC) (kc_o7 hC)) rfl i_Si 7 (by decide) rfl fl_Si_38 rfl d_Si_writeSignature_131 ?_
  refine lv_iconst (v := nI 0) hx hb d_Si_writeSignature_134 (by decide +kernel) ?_
  refine lv_aload_n hx hb d_Si_writeSignature_135 rfl (lv_at hl 1 rfl) ?_
  refine lv_iconst (v := nI 0) hx hb d_Si_writeSignature_136 (by decide +kernel) ?_
  refine lv_bipush (v := nI 32) hx hb d_Si_writeSignature_137 (by decide +kernel) ?_
  refine vx_cpyBJ hx hb (by rw [hml]; exact hl.1.symm) hown (hts (.methodLink R_Si 71 arraycopyName) (by decide +kernel)) (hts (.native arraycopyName) (by decide +kernel)) (hts (.static arraycopyName) (by decide +kernel)) (hts (.initialized "java/lang/System") (by decide +kernel)) hG hK.1 hS hV (kc_a7_7 hC) f0 o0 (by omega) (by omega) (by omega) (by omega) (Nat.le_of_ble_eq_true rfl) (Nat.le_of_ble_eq_true rfl) d_Si_writeSignature_139 (fun H locs X11 eX11 hS hV hO => ?_)
  have hH := hO _ _ hH
  refine lv_aload_n hx hb d_Si_writeSignature_142 rfl (lv_at hl 0 rfl) ?_
  refine sx_get EE (hS.1.ob (kc_n7 hC) (kc_o7 hC)) rfl i_Si 6 (by decide) rfl fl_Si_35 rfl d_Si_writeSignature_143 ?_
  refine lv_iconst (v := nI 0) hx hb d_Si_writeSignature_146 (by decide +kernel) ?_
  refine lv_aload_n hx hb d_Si_writeSignature_147 rfl (lv_at hl 1 rfl) ?_
  refine lv_bipush (v := nI 32) hx hb d_Si_writeSignature_148 (by decide +kernel) ?_
  refine lv_bipush (v := nI 32) hx hb d_Si_writeSignature_150 (by decide +kernel) ?_
  refine vx_cpyBJ hx hb (by rw [hml]; exact hl.1.symm) hown (hts (.methodLink R_Si 71 arraycopyName) (by decide +kernel)) (hts (.native arraycopyName) (by decide +kernel)) (hts (.static arraycopyName) (by decide +kernel)) (hts (.initialized "java/lang/System") (by decide +kernel)) hG hK.1 hS hV (kc_a7_6 hC) f0 o0 (by omega) (by omega) (by omega) (by omega) (Nat.le_of_ble_eq_true rfl) (Nat.le_of_ble_eq_true rfl) d_Si_writeSignature_152 (fun H locs X12 eX12 hS hV hO => ?_)
  have hH := hO _ _ hH
  exact hret _ _ _ _ _ (by subst eX1 eX2 eX3 eX4 eX5 eX6 eX7 eX8 eX9 eX10 eX11 eX12; exact rfl) ⟨_, _, hH⟩ hS hV d_Si_writeSignature_155
def LF_Si_judge (X : vM) (kq : Nat → Nat → Nat) (ts : Nat → Nat) (a0 : Nat) (b1 m1 : Nat) : vM × Int32 := (let X1 : vM := cpI X a0 32 (kq 7 7) 0 32; let X2 : vM := cpI X1 a0 64 (kq 7 6) 0 32; if (LF_Or_isBelow X2 (kq 7 6) ts) = true then (let X4 : vM := (LF_Ed_find X2 kq ts a0).1; if ((LF_Ed_find X2 kq ts a0).2) = true then (let X6 : vM := (LF_Si_hashChallenge X4 kq ts a0 b1 m1); let X7 : vM := (LF_Or_reduceForAnyPoint X6 kq ts (kq 7 5) (kq 7 3)); let X8 : vM := (LF_Ed_subtractFromBase X7 kq ts (kq 7 6) (kq 7 5)); let X9 : vM := (LF_Ed_writeSum X8 kq ts (kq 7 8)); let J11 : Int32 := if (LF_K_isSameStart X9 (kq 7 8) (kq 7 7)) = true then (nI 0) else (nI 3); (X9, J11)) else (X4, (nI 2))) else (X2, (nI 1)))
abbrev rm_Si_judge : Room := { frames := 6, cells := 0, slots := 0, locals := 217 }
set_option maxHeartbeats 4000000 in
set_option maxRecDepth 100000 in
theorem v_Si_judge {l : Launch} {D : va_G} {g : ClassId → FieldType → Prop} {E : Nat → Prop} {H0 : Heap} {X : vM} {kq : Nat → Nat → Nat} {ts : Nat → Nat} {a0 : Nat} {a1 b1 m1 N1 : Nat} (hC : kc_ D g E H0 kq ts) (hO : ho_ D kq H0) (eH : E (kq 5 99)) (f0 : sx_A g .byte H0 a0 96) (h1 : va_P D classes [(a1, .inr (9, [.ref b1, .int (nI m1)]))] H0) (n1 : ¬ E a1) (f1 : sx_A g .byte H0 b1 N1) (l1 : m1 ≤ N1) (u1 : N1 ≤ 65536) (hV : mm g H0 = X) : Met l y_Si_judge (.code y_Si_judge b_Si_judge 3 (some .int) :: G_) rm_Si_judge (sx_Pc [.ref (kq 7 99), .ref a0, .ref a1] H0 D g) (vx_QiP g E H0 (LF_Si_judge X kq ts a0 b1 m1).1 (LF_Si_judge X kq ts a0 b1 m1).2 (fun H => ho_ D kq H)) 0 0 E := by
  obtain ⟨hd, tt, hH⟩ := hO
  refine vx_miP (own := R_Si) (by decide) rfl rfl rfl (Nat.le_of_ble_eq_true rfl) ?_
  intro p e s m args below meth c Q ls EE hl hret
  obtain ⟨hx, hb, hml, hown, hts, hG, hK⟩ := id EE
  have hS : sx_S g E E H0 H0 [] := sx_S.rf
  have hz := hC.2.2.2.2
  have hl : lv_has ls 3 [(0, .ref (kq 7 99)), (1, .ref a0), (2, .ref a1)] := hl
  refine lv_aload_n hx hb d_Si_judge_0 rfl (lv_at hl 1 rfl) ?_
  refine lv_bipush (v := nI 32) hx hb d_Si_judge_1 (by decide +kernel) ?_
  refine lv_aload_n hx hb d_Si_judge_3 rfl (lv_at hl 0 rfl) ?_
  refine sx_get EE (hS.1.ob (kc_n7 hC) (kc_o7 hC)) rfl i_Si 7 (by decide) rfl fl_Si_38 rfl d_Si_judge_4 ?_
  refine lv_iconst (v := nI 0) hx hb d_Si_judge_7 (by decide +kernel) ?_
  refine lv_bipush (v := nI 32) hx hb d_Si_judge_8 (by decide +kernel) ?_
  refine vx_cpyBJ hx hb (by rw [hml]; exact hl.1.symm) hown (hts (.methodLink R_Si 71 arraycopyName) (by decide +kernel)) (hts (.native arraycopyName) (by decide +kernel)) (hts (.static arraycopyName) (by decide +kernel)) (hts (.initialized "java/lang/System") (by decide +kernel)) hG hK.1 hS hV f0 (kc_a7_7 hC) (kc_e7_7 hC) (by omega) (by omega) (by omega) (by omega) (Nat.le_of_ble_eq_true rfl) (Nat.le_of_ble_eq_true rfl) d_Si_judge_10 (fun H locs X1 eX1 hS hV hO => ?_)
  have hH := hO _ _ hH
  refine lv_aload_n hx hb d_Si_judge_13 rfl (lv_at hl 1 rfl) ?_
  refine lv_bipush (v := nI 64) hx hb d_Si_judge_14 (by decide +kernel) ?_
  refine lv_aload_n hx hb d_Si_judge_16 rfl (lv_at hl 0 rfl) ?_
  refine sx_get EE (hS.1.ob (kc_n7 hC) (kc_o7 hC)) rfl i_Si 6 (by decide) rfl fl_Si_35 rfl d_Si_judge_17 ?_
  refine lv_iconst (v := nI 0) hx hb d_Si_judge_20 (by decide +kernel) ?_
  refine lv_bipush (v := nI 32) hx hb d_Si_judge_21 (by decide +kernel) ?_
  refine vx_cpyBJ hx hb (by rw [hml]; exact hl.1.symm) hown (hts (.methodLink R_Si 71 arraycopyName) (by decide +kernel)) (hts (.native arraycopyName) (by decide +kernel)) (hts (.static arraycopyName) (by decide +kernel)) (hts (.initialized "java/lang/System") (by decide +kernel)) hG hK.1 hS hV f0 (kc_a7_6 hC) (kc_e7_6 hC) (by omega) (by omega) (by omega) (by omega) (Nat.le_of_ble_eq_true rfl) (Nat.le_of_ble_eq_true rfl) d_Si_judge_23 (fun H locs X2 eX2 hS hV hO => ?_)
  have hH := hO _ _ hH
  refine lv_aload_n hx hb d_Si_judge_26 rfl (lv_at hl 0 rfl) ?_
  refine sx_get EE (hS.1.ob (kc_n7 hC) (kc_o7 hC)) rfl i_Si 6 (by decide) rfl fl_Si_35 rfl d_Si_judge_27 ?_
  refine vx_giJ (sx_runS (As := [.ref (kq 7 6)]) (rest := []) EE (v_Or_isBelow (E := (cutE E (kq 5 99))) (X := X2) (hS.a (kc_a7_6 hC)) ((hz.kept hS.1).mono (fun z_ h_ => h_.1)) hV) w_Si_115 rfl ⟨rfl, rfl⟩ ⟨Nat.le_of_ble_eq_true rfl, Nat.le_of_ble_eq_true rfl⟩ ⟨Nat.zero_le _, Nat.zero_le _⟩ hl.1 rfl (Nat.le_of_ble_eq_true rfl) d_Si_judge_30) (fun z_ h_ => h_.1) hS (fun H locs X_ eX_ hS hV hJ_ => ?_)
  have hH := hJ_.ob (fun z_ => z_.2 rfl) hH
  subst eX_
  refine lv_if_ne (tgt := 38) hx hb d_Si_judge_33 (by decide) (fun q33_2 => ?_) (fun q33_2 => ?_)
  · skip
    have q33_2 := vx_b1 q33_2
    refine lv_aload_n hx hb d_Si_judge_38 rfl (lv_at hl 0 rfl) ?_
    refine sx_get EE (hS.1.ob (kc_n7 hC) (kc_o7 hC)) rfl i_Si 0 (by decide) rfl fl_Si_44 rfl d_Si_judge_39 ?_
    refine lv_aload_n hx hb d_Si_judge_42 rfl (lv_at hl 1 rfl) ?_
    refine vx_giJ (sx_runV (As := [.ref a0]) (rest := []) EE (hS.1.ob (kc_n2 hC) (kc_o2 hC)) rfl rfl (v_Ed_find (E := (cutE E (kq 5 99))) (X := X2) (kc_.cut (hC.kept hS.1) (fun _ _ _ h_ => vx_ne hG hK.1 hH h_)) ((hS.a f0).le (by omega)) hV) w_Si_119 rfl ⟨rfl, rfl⟩ ⟨Nat.le_of_ble_eq_true rfl, Nat.le_of_ble_eq_true rfl⟩ ⟨Nat.zero_le _, Nat.zero_le _⟩ hl.1 rfl (Nat.le_of_ble_eq_true rfl) d_Si_judge_43) (fun z_ h_ => h_.1) hS (fun H locs X4 eX4 hS hV hJ_ => ?_)
    have hH := hJ_.ob (fun z_ => z_.2 rfl) hH
    refine lv_if_ne (tgt := 51) hx hb d_Si_judge_46 (by decide) (fun q46_4 => ?_) (fun q46_4 => ?_)
    · skip
      have q46_4 := vx_b1 q46_4
      refine lv_aload_n hx hb d_Si_judge_51 rfl (lv_at hl 0 rfl) ?_
      refine lv_aload_n hx hb d_Si_judge_52 rfl (lv_at hl 1 rfl) ?_
      refine lv_aload_n hx hb d_Si_judge_53 rfl (lv_at hl 2 rfl) ?_
      refine vx_gvP (sx_runV (As := [.ref a0, .ref a1]) (rest := []) EE (hS.1.ob (kc_n7 hC) (kc_o7 hC)) rfl rfl (v_Si_hashChallenge (X := X4) (hC.kept hS.1) ⟨_, _, hH⟩ eH ((hS.a f0).le (by omega)) (hS.1.ob n1 h1) (fun z_ => n1 z_) (hS.a f1) (by omega) (by omega) hV) w_Si_107 rfl ⟨rfl, rfl⟩ ⟨Nat.le_of_ble_eq_true rfl, Nat.le_of_ble_eq_true rfl⟩ ⟨Nat.zero_le _, Nat.zero_le _⟩ hl.1 rfl (Nat.le_of_ble_eq_true rfl) d_Si_judge_54) (fun z_ h_ => h_) hS (fun H locs X6 eX6 hP_ hS hV hJ_ => ?_)
      obtain ⟨hd54, tt54, hH⟩ := hP_
      refine lv_aload_n hx hb d_Si_judge_57 rfl (lv_at hl 0 rfl) ?_
      refine sx_get EE (hS.1.ob (kc_n7 hC) (kc_o7 hC)) rfl i_Si 2 (by decide) rfl fl_Si_21 rfl d_Si_judge_58 ?_
      refine lv_aload_n hx hb d_Si_judge_61 rfl (lv_at hl 0 rfl) ?_
      refine sx_get EE (hS.1.ob (kc_n7 hC) (kc_o7 hC)) rfl i_Si 5 (by decide) rfl fl_Si_32 rfl d_Si_judge_62 ?_
      refine lv_aload_n hx hb d_Si_judge_65 rfl (lv_at hl 0 rfl) ?_
      refine sx_get EE (hS.1.ob (kc_n7 hC) (kc_o7 hC)) rfl i_Si 3 (by decide) rfl fl_Si_25 rfl d_Si_judge_66 ?_
      refine vx_gvJ (sx_runV (As := [.ref (kq 7 5), .ref (kq 7 3)]) (rest := []) EE (hS.1.ob (kc_n6 hC) (kc_o6 hC)) rfl rfl (v_Or_reduceForAnyPoint (E := (cutE E (kq 5 99))) (X := X6) (kc_.cut (hC.kept hS.1) (fun _ _ _ h_ => vx_ne hG hK.1 hH h_)) (hS.a (kc_a7_5 hC)) ⟨(kc_e7_5 hC), vx_ne hG hK.1 hH (hS.a (kc_a7_5 hC))⟩ (hS.a (kc_a7_3 hC)) hV) w_Si_122 rfl ⟨rfl, rfl⟩ ⟨Nat.le_of_ble_eq_true rfl, Nat.le_of_ble_eq_true rfl⟩ ⟨Nat.zero_le _, Nat.zero_le _⟩ hl.1 rfl (Nat.le_of_ble_eq_true rfl) d_Si_judge_69) (fun z_ h_ => h_.1) hS (fun H locs X7 eX7 hS hV hJ_ => ?_)
      have hH := hJ_.ob (fun z_ => z_.2 rfl) hH
      refine lv_aload_n hx hb d_Si_judge_72 rfl (lv_at hl 0 rfl) ?_
      refine sx_get EE (hS.1.ob (kc_n7 hC) (kc_o7 hC)) rfl i_Si 0 (by decide) rfl fl_Si_44 rfl d_Si_judge_73 ?_
      refine lv_aload_n hx hb d_Si_judge_76 rfl (lv_at hl 0 rfl) ?_
      refine sx_get EE (hS.1.ob (kc_n7 hC) (kc_o7 hC)) rfl i_Si 6 (by decide) rfl fl_Si_35 rfl d_Si_judge_77 ?_
      refine lv_aload_n hx hb d_Si_judge_80 rfl (lv_at hl 0 rfl) ?_
      refine sx_get EE (hS.1.ob (kc_n7 hC) (kc_o7 hC)) rfl i_Si 5 (by decide) rfl fl_Si_32 rfl d_Si_judge_81 ?_
      refine vx_gvJ (sx_runV (As := [.ref (kq 7 6), .ref (kq 7 5)]) (rest := []) EE (hS.1.ob (kc_n2 hC) (kc_o2 hC)) rfl rfl (v_Ed_subtractFromBase (E := (cutE E (kq 5 99))) (X := X7) (kc_.cut (hC.kept hS.1) (fun _ _ _ h_ => vx_ne hG hK.1 hH h_)) (hS.a (kc_a7_6 hC)) (hS.a (kc_a7_5 hC)) hV) w_Si_125 rfl ⟨rfl, rfl⟩ ⟨Nat.le_of_ble_eq_true rfl, Nat.le_of_ble_eq_true rfl⟩ ⟨Nat.zero_le _, Nat.zero_le _⟩ hl.1 rfl (Nat.le_of_ble_eq_true rfl) d_Si_judge_84) (fun z_ h_ => h_.1) hS (fun H locs X8 eX8 hS hV hJ_ => ?_)
      have hH := hJ_.ob (fun z_ => z_.2 rfl) hH
      refine lv_aload_n hx hb d_Si_judge_87 rfl (lv_at hl 0 rfl) ?_
      refine sx_get EE (hS.1.ob (kc_n7 hC) (kc_o7 hC)) rfl i_Si 0 (by decide) rfl fl_Si_44 rfl d_Si_judge_88 ?_
      refine lv_aload_n hx hb d_Si_judge_91 rfl (lv_at hl 0 rfl) ?_
      refine sx_get EE (hS.1.ob (kc_n7 hC) (kc_o7 hC)) rfl i_Si 8 (by decide) rfl fl_Si_41 rfl d_Si_judge_92 ?_
      refine vx_gvJ (sx_runV (As := [.ref (kq 7 8)]) (rest := []) EE (hS.1.ob (kc_n2 hC) (kc_o2 hC)) rfl rfl (v_Ed_writeSum (E := (cutE E (kq 5 99))) (X := X8) (kc_.cut (hC.kept hS.1) (fun _ _ _ h_ => vx_ne hG hK.1 hH h_)) (hS.a (kc_a7_8 hC)) ⟨(kc_e7_8 hC), vx_ne hG hK.1 hH (hS.a (kc_a7_8 hC))⟩ hV) w_Si_91 rfl ⟨rfl, rfl⟩ ⟨Nat.le_of_ble_eq_true rfl, Nat.le_of_ble_eq_true rfl⟩ ⟨Nat.zero_le _, Nat.zero_le _⟩ hl.1 rfl (Nat.le_of_ble_eq_true rfl) d_Si_judge_95) (fun z_ h_ => h_.1) hS (fun H locs X9 eX9 hS hV hJ_ => ?_)
      have hH := hJ_.ob (fun z_ => z_.2 rfl) hH
      refine lv_aload_n hx hb d_Si_judge_98 rfl (lv_at hl 0 rfl) ?_
      refine sx_get EE (hS.1.ob (kc_n7 hC) (kc_o7 hC)) rfl i_Si 8 (by decide) rfl fl_Si_41 rfl d_Si_judge_99 ?_
      refine lv_aload_n hx hb d_Si_judge_102 rfl (lv_at hl 0 rfl) ?_
      refine sx_get EE (hS.1.ob (kc_n7 hC) (kc_o7 hC)) rfl i_Si 7 (by decide) rfl fl_Si_38 rfl d_Si_judge_103 ?_
      refine vx_giJ (sx_runSN (As := [.ref (kq 7 8), .ref (kq 7 7)]) (rest := []) EE (v_K_isSameStart (E := (cutE E (kq 5 99))) (X := X9) (hS.a (kc_a7_8 hC)) (hS.a (kc_a7_7 hC)) hV) ln_Si_128 wn_Si_128 rfl ⟨rfl, rfl⟩ ⟨Nat.le_of_ble_eq_true rfl, Nat.le_of_ble_eq_true rfl⟩ ⟨Nat.zero_le _, Nat.zero_le _⟩ hl.1 rfl (Nat.le_of_ble_eq_true rfl) d_Si_judge_106) (fun z_ h_ => h_.1) hS (fun H locs X_ eX_ hS hV hJ_ => ?_)
      have hH := hJ_.ob (fun z_ => z_.2 rfl) hH
      subst eX_
      have jn117_11 : ∀ (J11 : Int32) (H : Heap) (locs : List Loc) (ls : Array Slot), (if (LF_K_isSameStart X9 (kq 7 8) (kq 7 7)) = true then (nI 0) else (nI 3)) = J11 → sx_S g E E H0 H locs → mm g H = X9 → va_P D classes [((kq 5 99), .inr (7, [.ref (kq 5 0), .ref (kq 5 1), .ref (kq 5 2), .int hd54, .int tt54]))] H → lv_has ls 3 [(0, .ref (kq 7 99)), (1, .ref a0), (2, .ref a1)] → W p l e rm_Si_judge s m args below meth c H locs 0 0 Q (F0 m 117 ls [.int J11]) := by
        intro J11 H locs ls eJ11 hS hV hH hl
        have hp : LF_Si_judge X kq ts a0 b1 m1 = (X9, J11) := (by subst eX1 eX2 eX4 eX6 eX7 eX8 eX9 eJ11; exact (vx_p q33_2 (vx_p q46_4 rfl)))
        exact hret _ _ _ _ _ _ (congrArg Prod.fst hp :) (congrArg Prod.snd hp :) ⟨_, _, hH⟩ hS hV d_Si_judge_117
      refine lv_if_eq (tgt := 116) hx hb d_Si_judge_109 (by decide) (fun q109_9 => ?_) (fun q109_9 => ?_)
      · skip
        have q109_9 := vx_bf (vx_b0 q109_9)
        refine lv_iconst (v := nI 3) hx hb d_Si_judge_116 (by decide +kernel) ?_
        exact jn117_11 (nI 3) _ _ _ (vx_n q109_9 rfl) hS hV hH (lv_sub hl [0, 1, 2] rfl)
      · skip
        have q109_9 := vx_b1 q109_9
        refine lv_iconst (v := nI 0) hx hb d_Si_judge_112 (by decide +kernel) ?_
        refine lv_goto (tgt := 117) hx hb d_Si_judge_113 (by decide) ?_
        exact jn117_11 (nI 0) _ _ _ (vx_p q109_9 rfl) hS hV hH (lv_sub hl [0, 1, 2] rfl)
    · skip
      have q46_4 := vx_bf (vx_b0 q46_4)
      refine lv_iconst (v := nI 2) hx hb d_Si_judge_49 (by decide +kernel) ?_
      have hp : LF_Si_judge X kq ts a0 b1 m1 = (X4, (nI 2)) := (by subst eX1 eX2 eX4; exact (vx_p q33_2 (vx_n q46_4 rfl)))
      exact hret _ _ _ _ _ _ (congrArg Prod.fst hp :) (congrArg Prod.snd hp :) ⟨_, _, hH⟩ hS hV d_Si_judge_50
  · skip
    have q33_2 := vx_bf (vx_b0 q33_2)
    refine lv_iconst (v := nI 1) hx hb d_Si_judge_36 (by decide +kernel) ?_
    have hp : LF_Si_judge X kq ts a0 b1 m1 = (X2, (nI 1)) := (by subst eX1 eX2; exact (vx_n q33_2 rfl))
    exact hret _ _ _ _ _ _ (congrArg Prod.fst hp :) (congrArg Prod.snd hp :) ⟨_, _, hH⟩ hS hV d_Si_judge_37
