def LL_M_inverse_51 (a1 : Nat) (r : Nat → Nat) (a2 : Nat) : Nat → vM → vM ⊕ vM := fun i_0 s_1 => if (LF_M_zero s_1 a1) = true then (Sum.inl s_1) else (if (LF_M_one s_1 (r 42)) = true then (Sum.inl s_1) else (if (LF_M_one s_1 (r 43)) = true then (Sum.inl s_1) else (let J_2 : vM := if ((s_1.1 (r 42) 0) &&& (1 : Int64)) = (0 : Int64) then (let X_3 : vM := (LF_M_halve s_1 (r 42)); let X_4 : vM := (LF_M_half X_3 (r 44) a2); X_4) else (if ((s_1.1 (r 43) 0) &&& (1 : Int64)) = (0 : Int64) then (let X_5 : vM := (LF_M_halve s_1 (r 43)); let X_6 : vM := (LF_M_half X_5 (r 45) a2); X_6) else (if (LF_M_below s_1 (r 42) (r 43)) = true then (let X_7 : vM := (LF_M_less s_1 (r 43) (r 43) (r 42)); let X_8 : vM := (LF_M_minus X_7 (r 45) (r 45) (r 44) a2); X_8) else (let X_9 : vM := (LF_M_less s_1 (r 42) (r 42) (r 43)); let X_10 : vM := (LF_M_minus X_9 (r 44) (r 44) (r 45) a2); X_10))); Sum.inr J_2)))
def LF_M_inverse (X : vM) (r : Nat → Nat) (a0 : Nat) (a1 : Nat) (a2 : Nat) : vM := (let X1 : vM := (LF_M_copy X (r 42) a1); let X2 : vM := (LF_M_copy X1 (r 43) a2); let X3 : vM := (LF_M_set X2 (r 44) (nI 1)); let X4 : vM := (LF_M_set X3 (r 45) (nI 0)); let X5 : vM := stL X4 (r 44) 16 (0 : Int64); let X6 : vM := stL X5 (r 45) 16 (0 : Int64); let R9 : vM := Sum.elim id id (lpE 1 (LL_M_inverse_51 a1 r a2) 1100 0 X6); (let J42 : vM := if (LF_M_zero R9 a1) = true then (let X41 : vM := (LF_M_set R9 a0 (nI 0)); X41) else (let J38 : Nat := if (LF_M_one R9 (r 42)) = true then (r 44) else (r 45); (let X40 : vM := (LF_M_copy R9 a0 J38); X40)); J42))
abbrev rm_M_inverse : Room := { frames := 1, cells := 0, slots := 0, locals := 28 }
set_option maxHeartbeats 4000000 in
set_option maxRecDepth 100000 in
theorem v_M_inverse {l : Launch} {D : va_G} {g : ClassId → FieldType → Prop} {E : Nat → Prop} {H0 : Heap} {X : vM} {o : Nat} {r : Nat → Nat} {i : Nat → Int32} {a0 : Nat} {a1 : Nat} {a2 : Nat} (hM : mo_ D g H0 o r i) (hE : ¬ E o) (hW : ∀ q ∈ mo_wr, E (r q.1)) (f0 : sx_A g .long H0 a0 16) (o0 : E a0) (f1 : sx_A g .long H0 a1 16) (f2 : sx_A g .long H0 a2 16) (hV : mm g H0 = X) : Met l y_M_inverse (.code y_M_inverse b_M_inverse 5 none :: G_) rm_M_inverse (sx_Pc [.ref o, .ref a0, .ref a1, .ref a2] H0 D g) (vx_Qv g E H0 (LF_M_inverse X r a0 a1 a2)) 0 0 E := by
  refine vx_mv (own := R_M) (by decide) rfl rfl rfl (Nat.le_of_ble_eq_true rfl) ?_
  intro p e s m args below meth c Q ls EE hl hret
  obtain ⟨hx, hb, hml, hown, hts, hG, hK⟩ := id EE
  have hS : sx_S g E E H0 H0 [] := sx_S.rf
  have hl : lv_has ls 5 [(0, .ref o), (1, .ref a0), (2, .ref a1), (3, .ref a2)] := hl
  refine lv_aload_n hx hb d_M_inverse_0 rfl (lv_at hl 0 rfl) ?_
  refine sx_get EE (hS.1.ob hE hM.1) rfl i_M 42 (by decide) rfl fl_M_129 rfl d_M_inverse_1 ?_
  refine lv_aload_n hx hb d_M_inverse_4 rfl (lv_at hl 2 rfl) ?_
  refine vx_gv (sx_runS (As := [.ref (r 42), .ref a1]) (rest := []) EE (v_M_copy (X := X) (hS.a (mo_42 hM)) (mow_42 hW) (hS.a f1) hV) w_M_207 rfl ⟨rfl, rfl⟩ ⟨Nat.le_of_ble_eq_true rfl, Nat.le_of_ble_eq_true rfl⟩ ⟨Nat.zero_le _, Nat.zero_le _⟩ hl.1 rfl (Nat.le_of_ble_eq_true rfl) d_M_inverse_5) hS (fun H locs X1 eX1 hS hV => ?_)
  refine lv_aload_n hx hb d_M_inverse_8 rfl (lv_at hl 0 rfl) ?_
  refine sx_get EE (hS.1.ob hE hM.1) rfl i_M 43 (by decide) rfl fl_M_132 rfl d_M_inverse_9 ?_
  refine lv_aload_n hx hb d_M_inverse_12 rfl (lv_at hl 3 rfl) ?_
  refine vx_gv (sx_runS (As := [.ref (r 43), .ref a2]) (rest := []) EE (v_M_copy (X := X1) (hS.a (mo_43 hM)) (mow_43 hW) (hS.a f2) hV) w_M_207 rfl ⟨rfl, rfl⟩ ⟨Nat.le_of_ble_eq_true rfl, Nat.le_of_ble_eq_true rfl⟩ ⟨Nat.zero_le _, Nat.zero_le _⟩ hl.1 rfl (Nat.le_of_ble_eq_true rfl) d_M_inverse_13) hS (fun H locs X2 eX2 hS hV => ?_)
  refine lv_aload_n hx hb d_M_inverse_16 rfl (lv_at hl 0 rfl) ?_
  refine sx_get EE (hS.1.ob hE hM.1) rfl i_M 44 (by decide) rfl fl_M_135 rfl d_M_inverse_17 ?_
  refine lv_iconst (v := nI 1) hx hb d_M_inverse_20 (by decide +kernel) ?_
  refine vx_gv (sx_runS (As := [.ref (r 44), .int (nI (1))]) (rest := []) EE (v_M_set (X := X2) ((hS.a (mo_44 hM)).le (by omega)) (mow_44 hW) hV) w_M_177 rfl ⟨rfl, rfl⟩ ⟨Nat.le_of_ble_eq_true rfl, Nat.le_of_ble_eq_true rfl⟩ ⟨Nat.zero_le _, Nat.zero_le _⟩ hl.1 rfl (Nat.le_of_ble_eq_true rfl) d_M_inverse_21) hS (fun H locs X3 eX3 hS hV => ?_)
  refine lv_aload_n hx hb d_M_inverse_24 rfl (lv_at hl 0 rfl) ?_
  refine sx_get EE (hS.1.ob hE hM.1) rfl i_M 45 (by decide) rfl fl_M_138 rfl d_M_inverse_25 ?_
  refine lv_iconst (v := nI 0) hx hb d_M_inverse_28 (by decide +kernel) ?_
  refine vx_gv (sx_runS (As := [.ref (r 45), .int (nI (0))]) (rest := []) EE (v_M_set (X := X3) ((hS.a (mo_45 hM)).le (by omega)) (mow_45 hW) hV) w_M_177 rfl ⟨rfl, rfl⟩ ⟨Nat.le_of_ble_eq_true rfl, Nat.le_of_ble_eq_true rfl⟩ ⟨Nat.zero_le _, Nat.zero_le _⟩ hl.1 rfl (Nat.le_of_ble_eq_true rfl) d_M_inverse_29) hS (fun H locs X4 eX4 hS hV => ?_)
  refine lv_aload_n hx hb d_M_inverse_32 rfl (lv_at hl 0 rfl) ?_
  refine sx_get EE (hS.1.ob hE hM.1) rfl i_M 44 (by decide) rfl fl_M_135 rfl d_M_inverse_33 ?_
  refine lv_bipush (v := nI 16) hx hb d_M_inverse_36 (by decide +kernel) ?_
  refine lv_lconst (v := 0) hx hb d_M_inverse_38 (by decide +kernel) ?_
  refine vx_last hx hb hG hS hV (mo_44 hM) (mow_44 hW) (by omega) (by decide) d_M_inverse_39 (fun H locs X5 eX5 hS hV => ?_)
  refine lv_aload_n hx hb d_M_inverse_40 rfl (lv_at hl 0 rfl) ?_
  refine sx_get EE (hS.1.ob hE hM.1) rfl i_M 45 (by decide) rfl fl_M_138 rfl d_M_inverse_41 ?_
  refine lv_bipush (v := nI 16) hx hb d_M_inverse_44 (by decide +kernel) ?_
  refine lv_lconst (v := 0) hx hb d_M_inverse_46 (by decide +kernel) ?_
  refine vx_last hx hb hG hS hV (mo_45 hM) (mow_45 hW) (by omega) (by decide) d_M_inverse_47 (fun H locs X6 eX6 hS hV => ?_)
  refine lv_iconst (v := nI 0) hx hb d_M_inverse_48 (by decide +kernel) ?_
  refine lv_istore (lv' := [(4, .int (nI (0))), (0, .ref o), (1, .ref a0), (2, .ref a1), (3, .ref a2)]) hx hb d_M_inverse_49 hl (by decide) rfl (fun ls hl => ?_)
  obtain ⟨R9, eR9⟩ : ∃ t : vM, Sum.elim id id (lpE 1 (LL_M_inverse_51 a1 r a2) 1100 0 X6) = t := ⟨_, rfl⟩
  refine lpW_go (σ := vM) (P := fun i7 s8 H locs ls => sx_S g E E H0 H locs ∧ mm g H = s8 ∧ lv_has ls 5 [(4, .int (nI (i7))), (0, .ref o), (1, .ref a0), (2, .ref a1), (3, .ref a2)]) (Wd := fun H locs ls => W p l e rm_M_inverse s m args below meth c H locs 0 0 Q (F0 m 51 ls [])) (Px := fun s8 H locs ls => sx_S g E E H0 H locs ∧ mm g H = s8 ∧ lv_has ls 5 [(0, .ref o), (1, .ref a0), (2, .ref a1), (3, .ref a2)]) (Wx := fun H locs ls => W p l e rm_M_inverse s m args below meth c H locs 0 0 Q (F0 m 233 ls [])) (N := 1100) (d := 1) (by decide) ?_ ?_ ?_ 1100 0 _ (by omega) eR9 _ _ _ ⟨hS, hV, lv_sub hl [0, 1, 2, 3, 4] rfl⟩
  · intro H locs ls hP
    obtain ⟨hS, hV, hl⟩ := hP
    refine lv_aload_n hx hb d_M_inverse_233 rfl (lv_at hl 2 rfl) ?_
    refine vx_gi (sx_runS (As := [.ref a1]) (rest := []) EE (v_M_zero (X := R9) (hS.a f1) hV) w_M_228 rfl ⟨rfl, rfl⟩ ⟨Nat.le_of_ble_eq_true rfl, Nat.le_of_ble_eq_true rfl⟩ ⟨Nat.zero_le _, Nat.zero_le _⟩ hl.1 rfl (Nat.le_of_ble_eq_true rfl) d_M_inverse_234) hS (fun H locs X_ eX_ hS hV => ?_)
    subst eX_
    have jn273_42 : ∀ (J42 : vM) (H : Heap) (locs : List Loc) (ls : Array Slot), (if (LF_M_zero R9 a1) = true then (let X41 : vM := (LF_M_set R9 a0 (nI 0)); X41) else (let J38 : Nat := if (LF_M_one R9 (r 42)) = true then (r 44) else (r 45); (let X40 : vM := (LF_M_copy R9 a0 J38); X40))) = J42 → sx_S g E E H0 H locs → mm g H = J42 → lv_has ls 5 [(0, .ref o), (1, .ref a0), (2, .ref a1), (3, .ref a2)] → W p l e rm_M_inverse s m args below meth c H locs 0 0 Q (F0 m 273 ls []) := by
      intro J42 H locs ls eJ42 hS hV hl
      exact hret _ _ _ _ _ (by subst eX1 eX2 eX3 eX4 eX5 eX6 eR9 eJ42; exact rfl) hS hV d_M_inverse_273
    refine lv_if_eq (tgt := 248) hx hb d_M_inverse_237 (by decide) (fun q237_35 => ?_) (fun q237_35 => ?_)
    · skip
      have q237_35 := vx_bf (vx_b0 q237_35)
      refine lv_aload_n hx hb d_M_inverse_248 rfl (lv_at hl 1 rfl) ?_
      refine lv_aload_n hx hb d_M_inverse_249 rfl (lv_at hl 0 rfl) ?_
      refine sx_get EE (hS.1.ob hE hM.1) rfl i_M 42 (by decide) rfl fl_M_129 rfl d_M_inverse_250 ?_
      refine vx_gi (sx_runS (As := [.ref (r 42)]) (rest := [.ref a0]) EE (v_M_one (X := R9) (hS.a (mo_42 hM)) hV) w_M_232 rfl ⟨rfl, rfl⟩ ⟨Nat.le_of_ble_eq_true rfl, Nat.le_of_ble_eq_true rfl⟩ ⟨Nat.zero_le _, Nat.zero_le _⟩ hl.1 rfl (Nat.le_of_ble_eq_true rfl) d_M_inverse_253) hS (fun H locs X_ eX_ hS hV => ?_)
      subst eX_
      have jn270_45 : ∀ (J45 : Nat) (H : Heap) (locs : List Loc) (ls : Array Slot), (if (LF_M_one R9 (r 42)) = true then (r 44) else (r 45)) = J45 → sx_A g .long H0 J45 17 → E J45 → sx_S g E E H0 H locs → mm g H = R9 → lv_has ls 5 [(0, .ref o), (1, .ref a0), (2, .ref a1), (3, .ref a2)] → W p l e rm_M_inverse s m args below meth c H locs 0 0 Q (F0 m 270 ls [.ref J45, .ref a0]) := by
        intro J45 H locs ls eJ45 fJ45_0 oJ45_0 hS hV hl
        refine vx_gv (sx_runS (As := [.ref a0, .ref J45]) (rest := []) EE (v_M_copy (X := R9) (hS.a f0) o0 ((hS.a fJ45_0).le (by omega)) hV) w_M_207 rfl ⟨rfl, rfl⟩ ⟨Nat.le_of_ble_eq_true rfl, Nat.le_of_ble_eq_true rfl⟩ ⟨Nat.zero_le _, Nat.zero_le _⟩ hl.1 rfl (Nat.le_of_ble_eq_true rfl) d_M_inverse_270) hS (fun H locs X47 eX47 hS hV => ?_)
        exact jn273_42 X47 _ _ _ (by subst eJ45 eX47; exact (vx_n q237_35 rfl)) hS hV (lv_sub hl [0, 1, 2, 3] rfl)
      refine lv_if_eq (tgt := 266) hx hb d_M_inverse_256 (by decide) (fun q256_43 => ?_) (fun q256_43 => ?_)
      · skip
        have q256_43 := vx_bf (vx_b0 q256_43)
        refine lv_aload_n hx hb d_M_inverse_266 rfl (lv_at hl 0 rfl) ?_
        refine sx_get EE (hS.1.ob hE hM.1) rfl i_M 45 (by decide) rfl fl_M_138 rfl d_M_inverse_267 ?_
        exact jn270_45 (r 45) _ _ _ (vx_n q256_43 rfl) (mo_45 hM) (mow_45 hW) hS hV (lv_sub hl [0, 1, 2, 3] rfl)
      · skip
        have q256_43 := vx_b1 q256_43
        refine lv_aload_n hx hb d_M_inverse_259 rfl (lv_at hl 0 rfl) ?_
        refine sx_get EE (hS.1.ob hE hM.1) rfl i_M 44 (by decide) rfl fl_M_135 rfl d_M_inverse_260 ?_
        refine lv_goto (tgt := 270) hx hb d_M_inverse_263 (by decide) ?_
        exact jn270_45 (r 44) _ _ _ (vx_p q256_43 rfl) (mo_44 hM) (mow_44 hW) hS hV (lv_sub hl [0, 1, 2, 3] rfl)
    · skip
      have q237_35 := vx_b1 q237_35
      refine lv_aload_n hx hb d_M_inverse_240 rfl (lv_at hl 1 rfl) ?_
      refine lv_iconst (v := nI 0) hx hb d_M_inverse_241 (by decide +kernel) ?_
      refine vx_gv (sx_runS (As := [.ref a0, .int (nI (0))]) (rest := []) EE (v_M_set (X := R9) (hS.a f0) o0 hV) w_M_177 rfl ⟨rfl, rfl⟩ ⟨Nat.le_of_ble_eq_true rfl, Nat.le_of_ble_eq_true rfl⟩ ⟨Nat.zero_le _, Nat.zero_le _⟩ hl.1 rfl (Nat.le_of_ble_eq_true rfl) d_M_inverse_242) hS (fun H locs X48 eX48 hS hV => ?_)
      refine lv_goto (tgt := 273) hx hb d_M_inverse_245 (by decide) ?_
      exact jn273_42 X48 _ _ _ (by subst eX48; exact (vx_p q237_35 rfl)) hS hV (lv_sub hl [0, 1, 2, 3] rfl)
  · intro i7 s8 H locs ls hii7 hP ihi7 hxR9
    obtain ⟨hS, hV, hl⟩ := hP
    refine lv_iload hx hb d_M_inverse_51 (lv_at hl 0 rfl) ?_
    refine lv_sipush (v := nI 1100) hx hb d_M_inverse_53 (by decide +kernel) ?_
    refine lv_icmp_ge (tgt := 233) hx hb d_M_inverse_56 (by decide) (fun q => absurd q (nI_ge (by omega) (by omega))) (fun _ => ?_)
    refine lv_aload_n hx hb d_M_inverse_59 rfl (lv_at hl 3 rfl) ?_
    refine vx_gi (sx_runS (As := [.ref a1]) (rest := []) EE (v_M_zero (X := s8) (hS.a f1) hV) w_M_228 rfl ⟨rfl, rfl⟩ ⟨Nat.le_of_ble_eq_true rfl, Nat.le_of_ble_eq_true rfl⟩ ⟨Nat.zero_le _, Nat.zero_le _⟩ hl.1 rfl (Nat.le_of_ble_eq_true rfl) d_M_inverse_60) hS (fun H locs X_ eX_ hS hV => ?_)
    subst eX_
    refine lv_if_ne (tgt := 233) hx hb d_M_inverse_63 (by decide) (fun q63_9 => ?_) (fun q63_9 => ?_)
    · skip
      have q63_9 := vx_b1 q63_9
      exact hxR9 s8 _ _ _ (vx_p q63_9 rfl) ⟨hS, hV, lv_sub hl [1, 2, 3, 4] rfl⟩
    · skip
      have q63_9 := vx_bf (vx_b0 q63_9)
      refine lv_aload_n hx hb d_M_inverse_66 rfl (lv_at hl 1 rfl) ?_
      refine sx_get EE (hS.1.ob hE hM.1) rfl i_M 42 (by decide) rfl fl_M_129 rfl d_M_inverse_67 ?_
      refine vx_gi (sx_runS (As := [.ref (r 42)]) (rest := []) EE (v_M_one (X := s8) (hS.a (mo_42 hM)) hV) w_M_232 rfl ⟨rfl, rfl⟩ ⟨Nat.le_of_ble_eq_true rfl, Nat.le_of_ble_eq_true rfl⟩ ⟨Nat.zero_le _, Nat.zero_le _⟩ hl.1 rfl (Nat.le_of_ble_eq_true rfl) d_M_inverse_70) hS (fun H locs X_ eX_ hS hV => ?_)
      subst eX_
      refine lv_if_ne (tgt := 233) hx hb d_M_inverse_73 (by decide) (fun q73_10 => ?_) (fun q73_10 => ?_)
      · skip
        have q73_10 := vx_b1 q73_10
        exact hxR9 s8 _ _ _ (vx_n q63_9 (vx_p q73_10 rfl)) ⟨hS, hV, lv_sub hl [1, 2, 3, 4] rfl⟩
      · skip
        have q73_10 := vx_bf (vx_b0 q73_10)
        refine lv_aload_n hx hb d_M_inverse_76 rfl (lv_at hl 1 rfl) ?_
        refine sx_get EE (hS.1.ob hE hM.1) rfl i_M 43 (by decide) rfl fl_M_132 rfl d_M_inverse_77 ?_
        refine vx_gi (sx_runS (As := [.ref (r 43)]) (rest := []) EE (v_M_one (X := s8) (hS.a (mo_43 hM)) hV) w_M_232 rfl ⟨rfl, rfl⟩ ⟨Nat.le_of_ble_eq_true rfl, Nat.le_of_ble_eq_true rfl⟩ ⟨Nat.zero_le _, Nat.zero_le _⟩ hl.1 rfl (Nat.le_of_ble_eq_true rfl) d_M_inverse_80) hS (fun H locs X_ eX_ hS hV => ?_)
        subst eX_
        refine lv_if_ne (tgt := 233) hx hb d_M_inverse_83 (by decide) (fun q83_11 => ?_) (fun q83_11 => ?_)
        · skip
          have q83_11 := vx_b1 q83_11
          exact hxR9 s8 _ _ _ (vx_n q63_9 (vx_n q73_10 (vx_p q83_11 rfl))) ⟨hS, hV, lv_sub hl [1, 2, 3, 4] rfl⟩
        · skip
          have q83_11 := vx_bf (vx_b0 q83_11)
          refine lv_aload_n hx hb d_M_inverse_86 rfl (lv_at hl 1 rfl) ?_
          refine sx_get EE (hS.1.ob hE hM.1) rfl i_M 42 (by decide) rfl fl_M_129 rfl d_M_inverse_87 ?_
          refine lv_iconst (v := nI 0) hx hb d_M_inverse_90 (by decide +kernel) ?_
          refine vx_lald hx hb hG hS hV (mo_42 hM) (by omega) (by decide) d_M_inverse_91 ?_
          refine lv_lconst (v := 1) hx hb d_M_inverse_92 (by decide +kernel) ?_
          refine lv_land hx hb d_M_inverse_93 ?_
          refine lv_lconst (v := 0) hx hb d_M_inverse_94 (by decide +kernel) ?_
          refine W.lcmp hx hb d_M_inverse_95 ?_
          have jn227_24 : ∀ (J24 : vM) (H : Heap) (locs : List Loc) (ls : Array Slot), (if ((s8.1 (r 42) 0) &&& (1 : Int64)) = (0 : Int64) then (let X22 : vM := (LF_M_halve s8 (r 42)); let X23 : vM := (LF_M_half X22 (r 44) a2); X23) else (if ((s8.1 (r 43) 0) &&& (1 : Int64)) = (0 : Int64) then (let X20 : vM := (LF_M_halve s8 (r 43)); let X21 : vM := (LF_M_half X20 (r 45) a2); X21) else (if (LF_M_below s8 (r 42) (r 43)) = true then (let X18 : vM := (LF_M_less s8 (r 43) (r 43) (r 42)); let X19 : vM := (LF_M_minus X18 (r 45) (r 45) (r 44) a2); X19) else (let X16 : vM := (LF_M_less s8 (r 42) (r 42) (r 43)); let X17 : vM := (LF_M_minus X16 (r 44) (r 44) (r 45) a2); X17)))) = J24 → sx_S g E E H0 H locs → mm g H = J24 → lv_has ls 5 [(4, .int (nI (i7))), (0, .ref o), (1, .ref a0), (2, .ref a1), (3, .ref a2)] → W p l e rm_M_inverse s m args below meth c H locs 0 0 Q (F0 m 227 ls []) := by
            intro J24 H locs ls eJ24 hS hV hl
            refine lv_iinc (v := nI (i7 + 1)) (lv' := [(4, .int (nI (i7 + 1))), (0, .ref o), (1, .ref a0), (2, .ref a1), (3, .ref a2)]) hx hb d_M_inverse_227 hl (k := 0) rfl (sx_inc _ _) (by decide) rfl (fun ls hl => ?_)
            refine lv_goto (tgt := 51) hx hb d_M_inverse_230 (by decide) ?_
            exact ihi7 J24 _ _ _ (by subst eJ24; exact (vx_n q63_9 (vx_n q73_10 (vx_n q83_11 rfl)))) ⟨hS, hV, lv_sub hl [0, 1, 2, 3, 4] rfl⟩
          refine lv_if_ne (tgt := 117) hx hb d_M_inverse_96 (by decide) (fun q96_12 => ?_) (fun q96_12 => ?_)
          · skip
            have q96_12 : ¬ (((s8.1 (r 42) 0) &&& (1 : Int64)) = (0 : Int64)) := fun z => q96_12 ((lg_cmp_eq _ _).mpr z)
            refine lv_aload_n hx hb d_M_inverse_117 rfl (lv_at hl 1 rfl) ?_
            refine sx_get EE (hS.1.ob hE hM.1) rfl i_M 43 (by decide) rfl fl_M_132 rfl d_M_inverse_118 ?_
            refine lv_iconst (v := nI 0) hx hb d_M_inverse_121 (by decide +kernel) ?_
            refine vx_lald hx hb hG hS hV (mo_43 hM) (by omega) (by decide) d_M_inverse_122 ?_
            refine lv_lconst (v := 1) hx hb d_M_inverse_123 (by decide +kernel) ?_
            refine lv_land hx hb d_M_inverse_124 ?_
            refine lv_lconst (v := 0) hx hb d_M_inverse_125 (by decide +kernel) ?_
            refine W.lcmp hx hb d_M_inverse_126 ?_
            refine lv_if_ne (tgt := 148) hx hb d_M_inverse_127 (by decide) (fun q127_25 => ?_) (fun q127_25 => ?_)
            · skip
              have q127_25 : ¬ (((s8.1 (r 43) 0) &&& (1 : Int64)) = (0 : Int64)) := fun z => q127_25 ((lg_cmp_eq _ _).mpr z)
              refine lv_aload_n hx hb d_M_inverse_148 rfl (lv_at hl 1 rfl) ?_
              refine sx_get EE (hS.1.ob hE hM.1) rfl i_M 42 (by decide) rfl fl_M_129 rfl d_M_inverse_149 ?_
              refine lv_aload_n hx hb d_M_inverse_152 rfl (lv_at hl 1 rfl) ?_
              refine sx_get EE (hS.1.ob hE hM.1) rfl i_M 43 (by decide) rfl fl_M_132 rfl d_M_inverse_153 ?_
              refine vx_gi (sx_runS (As := [.ref (r 42), .ref (r 43)]) (rest := []) EE (v_M_below (X := s8) (hS.a (mo_42 hM)) (hS.a (mo_43 hM)) hV) w_M_215 rfl ⟨rfl, rfl⟩ ⟨Nat.le_of_ble_eq_true rfl, Nat.le_of_ble_eq_true rfl⟩ ⟨Nat.zero_le _, Nat.zero_le _⟩ hl.1 rfl (Nat.le_of_ble_eq_true rfl) d_M_inverse_156) hS (fun H locs X_ eX_ hS hV => ?_)
              subst eX_
              refine lv_if_eq (tgt := 196) hx hb d_M_inverse_159 (by decide) (fun q159_26 => ?_) (fun q159_26 => ?_)
              · skip
                have q159_26 := vx_bf (vx_b0 q159_26)
                refine lv_aload_n hx hb d_M_inverse_196 rfl (lv_at hl 1 rfl) ?_
                refine sx_get EE (hS.1.ob hE hM.1) rfl i_M 42 (by decide) rfl fl_M_129 rfl d_M_inverse_197 ?_
                refine lv_aload_n hx hb d_M_inverse_200 rfl (lv_at hl 1 rfl) ?_
                refine sx_get EE (hS.1.ob hE hM.1) rfl i_M 42 (by decide) rfl fl_M_129 rfl d_M_inverse_201 ?_
                refine lv_aload_n hx hb d_M_inverse_204 rfl (lv_at hl 1 rfl) ?_
                refine sx_get EE (hS.1.ob hE hM.1) rfl i_M 43 (by decide) rfl fl_M_132 rfl d_M_inverse_205 ?_
                refine vx_gv (sx_runS (As := [.ref (r 42), .ref (r 42), .ref (r 43)]) (rest := []) EE (v_M_less (X := s8) (hS.a (mo_42 hM)) (mow_42 hW) (hS.a (mo_42 hM)) (hS.a (mo_43 hM)) hV) w_M_219 rfl ⟨rfl, rfl⟩ ⟨Nat.le_of_ble_eq_true rfl, Nat.le_of_ble_eq_true rfl⟩ ⟨Nat.zero_le _, Nat.zero_le _⟩ hl.1 rfl (Nat.le_of_ble_eq_true rfl) d_M_inverse_208) hS (fun H locs X28 eX28 hS hV => ?_)
                refine lv_aload_n hx hb d_M_inverse_211 rfl (lv_at hl 1 rfl) ?_
                refine sx_get EE (hS.1.ob hE hM.1) rfl i_M 44 (by decide) rfl fl_M_135 rfl d_M_inverse_212 ?_
                refine lv_aload_n hx hb d_M_inverse_215 rfl (lv_at hl 1 rfl) ?_
                refine sx_get EE (hS.1.ob hE hM.1) rfl i_M 44 (by decide) rfl fl_M_135 rfl d_M_inverse_216 ?_
                refine lv_aload_n hx hb d_M_inverse_219 rfl (lv_at hl 1 rfl) ?_
                refine sx_get EE (hS.1.ob hE hM.1) rfl i_M 45 (by decide) rfl fl_M_138 rfl d_M_inverse_220 ?_
                refine lv_aload_n hx hb d_M_inverse_223 rfl (lv_at hl 4 rfl) ?_
                refine vx_gv (sx_runS (As := [.ref (r 44), .ref (r 44), .ref (r 45), .ref a2]) (rest := []) EE (v_M_minus (X := X28) ((hS.a (mo_44 hM)).le (by omega)) (mow_44 hW) ((hS.a (mo_44 hM)).le (by omega)) ((hS.a (mo_45 hM)).le (by omega)) (hS.a f2) hV) w_M_192 rfl ⟨rfl, rfl⟩ ⟨Nat.le_of_ble_eq_true rfl, Nat.le_of_ble_eq_true rfl⟩ ⟨Nat.zero_le _, Nat.zero_le _⟩ hl.1 rfl (Nat.le_of_ble_eq_true rfl) d_M_inverse_224) hS (fun H locs X29 eX29 hS hV => ?_)
                exact jn227_24 X29 _ _ _ (by subst eX28 eX29; exact (vx_n q96_12 (vx_n q127_25 (vx_n q159_26 rfl)))) hS hV (lv_sub hl [0, 1, 2, 3, 4] rfl)
              · skip
                have q159_26 := vx_b1 q159_26
                refine lv_aload_n hx hb d_M_inverse_162 rfl (lv_at hl 1 rfl) ?_
                refine sx_get EE (hS.1.ob hE hM.1) rfl i_M 43 (by decide) rfl fl_M_132 rfl d_M_inverse_163 ?_
                refine lv_aload_n hx hb d_M_inverse_166 rfl (lv_at hl 1 rfl) ?_
                refine sx_get EE (hS.1.ob hE hM.1) rfl i_M 43 (by decide) rfl fl_M_132 rfl d_M_inverse_167 ?_
                refine lv_aload_n hx hb d_M_inverse_170 rfl (lv_at hl 1 rfl) ?_
                refine sx_get EE (hS.1.ob hE hM.1) rfl i_M 42 (by decide) rfl fl_M_129 rfl d_M_inverse_171 ?_
                refine vx_gv (sx_runS (As := [.ref (r 43), .ref (r 43), .ref (r 42)]) (rest := []) EE (v_M_less (X := s8) (hS.a (mo_43 hM)) (mow_43 hW) (hS.a (mo_43 hM)) (hS.a (mo_42 hM)) hV) w_M_219 rfl ⟨rfl, rfl⟩ ⟨Nat.le_of_ble_eq_true rfl, Nat.le_of_ble_eq_true rfl⟩ ⟨Nat.zero_le _, Nat.zero_le _⟩ hl.1 rfl (Nat.le_of_ble_eq_true rfl) d_M_inverse_174) hS (fun H locs X30 eX30 hS hV => ?_)
                refine lv_aload_n hx hb d_M_inverse_177 rfl (lv_at hl 1 rfl) ?_
                refine sx_get EE (hS.1.ob hE hM.1) rfl i_M 45 (by decide) rfl fl_M_138 rfl d_M_inverse_178 ?_
                refine lv_aload_n hx hb d_M_inverse_181 rfl (lv_at hl 1 rfl) ?_
                refine sx_get EE (hS.1.ob hE hM.1) rfl i_M 45 (by decide) rfl fl_M_138 rfl d_M_inverse_182 ?_
                refine lv_aload_n hx hb d_M_inverse_185 rfl (lv_at hl 1 rfl) ?_
                refine sx_get EE (hS.1.ob hE hM.1) rfl i_M 44 (by decide) rfl fl_M_135 rfl d_M_inverse_186 ?_
                refine lv_aload_n hx hb d_M_inverse_189 rfl (lv_at hl 4 rfl) ?_
                refine vx_gv (sx_runS (As := [.ref (r 45), .ref (r 45), .ref (r 44), .ref a2]) (rest := []) EE (v_M_minus (X := X30) ((hS.a (mo_45 hM)).le (by omega)) (mow_45 hW) ((hS.a (mo_45 hM)).le (by omega)) ((hS.a (mo_44 hM)).le (by omega)) (hS.a f2) hV) w_M_192 rfl ⟨rfl, rfl⟩ ⟨Nat.le_of_ble_eq_true rfl, Nat.le_of_ble_eq_true rfl⟩ ⟨Nat.zero_le _, Nat.zero_le _⟩ hl.1 rfl (Nat.le_of_ble_eq_true rfl) d_M_inverse_190) hS (fun H locs X31 eX31 hS hV => ?_)
                refine lv_goto (tgt := 227) hx hb d_M_inverse_193 (by decide) ?_
                exact jn227_24 X31 _ _ _ (by subst eX30 eX31; exact (vx_n q96_12 (vx_n q127_25 (vx_p q159_26 rfl)))) hS hV (lv_sub hl [0, 1, 2, 3, 4] rfl)
            · skip
              have q127_25 := (lg_cmp_eq _ _).mp q127_25
              refine lv_aload_n hx hb d_M_inverse_130 rfl (lv_at hl 1 rfl) ?_
              refine sx_get EE (hS.1.ob hE hM.1) rfl i_M 43 (by decide) rfl fl_M_132 rfl d_M_inverse_131 ?_
              refine vx_gv (sx_runS (As := [.ref (r 43)]) (rest := []) EE (v_M_halve (X := s8) (hS.a (mo_43 hM)) (mow_43 hW) hV) w_M_234 rfl ⟨rfl, rfl⟩ ⟨Nat.le_of_ble_eq_true rfl, Nat.le_of_ble_eq_true rfl⟩ ⟨Nat.zero_le _, Nat.zero_le _⟩ hl.1 rfl (Nat.le_of_ble_eq_true rfl) d_M_inverse_134) hS (fun H locs X32 eX32 hS hV => ?_)
              refine lv_aload_n hx hb d_M_inverse_137 rfl (lv_at hl 1 rfl) ?_
              refine sx_get EE (hS.1.ob hE hM.1) rfl i_M 45 (by decide) rfl fl_M_138 rfl d_M_inverse_138 ?_
              refine lv_aload_n hx hb d_M_inverse_141 rfl (lv_at hl 4 rfl) ?_
              refine vx_gv (sx_runS (As := [.ref (r 45), .ref a2]) (rest := []) EE (v_M_half (X := X32) (hS.a (mo_45 hM)) (mow_45 hW) (hS.a f2) hV) w_M_238 rfl ⟨rfl, rfl⟩ ⟨Nat.le_of_ble_eq_true rfl, Nat.le_of_ble_eq_true rfl⟩ ⟨Nat.zero_le _, Nat.zero_le _⟩ hl.1 rfl (Nat.le_of_ble_eq_true rfl) d_M_inverse_142) hS (fun H locs X33 eX33 hS hV => ?_)
              refine lv_goto (tgt := 227) hx hb d_M_inverse_145 (by decide) ?_
              exact jn227_24 X33 _ _ _ (by subst eX32 eX33; exact (vx_n q96_12 (vx_p q127_25 rfl))) hS hV (lv_sub hl [0, 1, 2, 3, 4] rfl)
          · skip
            have q96_12 := (lg_cmp_eq _ _).mp q96_12
            refine lv_aload_n hx hb d_M_inverse_99 rfl (lv_at hl 1 rfl) ?_
            refine sx_get EE (hS.1.ob hE hM.1) rfl i_M 42 (by decide) rfl fl_M_129 rfl d_M_inverse_100 ?_
            refine vx_gv (sx_runS (As := [.ref (r 42)]) (rest := []) EE (v_M_halve (X := s8) (hS.a (mo_42 hM)) (mow_42 hW) hV) w_M_234 rfl ⟨rfl, rfl⟩ ⟨Nat.le_of_ble_eq_true rfl, Nat.le_of_ble_eq_true rfl⟩ ⟨Nat.zero_le _, Nat.zero_le _⟩ hl.1 rfl (Nat.le_of_ble_eq_true rfl) d_M_inverse_103) hS (fun H locs X34 eX34 hS hV => ?_)
            refine lv_aload_n hx hb d_M_inverse_106 rfl (lv_at hl 1 rfl) ?_
            refine sx_get EE (hS.1.ob hE hM.1) rfl i_M 44 (by decide) rfl fl_M_135 rfl d_M_inverse_107 ?_
            refine lv_aload_n hx hb d_M_inverse_110 rfl (lv_at hl 4 rfl) ?_
            refine vx_gv (sx_runS (As := [.ref (r 44), .ref a2]) (rest := []) EE (v_M_half (X := X34) (hS.a (mo_44 hM)) (mow_44 hW) (hS.a f2) hV) w_M_238 rfl ⟨rfl, rfl⟩ ⟨Nat.le_of_ble_eq_true rfl, Nat.le_of_ble_eq_true rfl⟩ ⟨Nat.zero_le _, Nat.zero_le _⟩ hl.1 rfl (Nat.le_of_ble_eq_true rfl) d_M_inverse_111) hS (fun H locs X35 eX35 hS hV => ?_)
            refine lv_goto (tgt := 227) hx hb d_M_inverse_114 (by decide) ?_
            exact jn227_24 X35 _ _ _ (by subst eX34 eX35; exact (vx_p q96_12 rfl)) hS hV (lv_sub hl [0, 1, 2, 3, 4] rfl)
  · intro H locs ls hP hxx
    obtain ⟨hS, hV, hl⟩ := hP
    refine lv_iload hx hb d_M_inverse_51 (lv_at hl 0 rfl) ?_
    refine lv_sipush (v := nI 1100) hx hb d_M_inverse_53 (by decide +kernel) ?_
    refine lv_icmp_ge (tgt := 233) hx hb d_M_inverse_56 (by decide) (fun _ => ?_) (fun q => absurd (nI_le (by omega) (by omega)) q)
    exact hxx _ _ _ ⟨hS, hV, lv_sub hl [1, 2, 3, 4] rfl⟩
def LL_M_power_13 (r : Nat → Nat) (a2 : Nat) (a1 : Nat) : Nat → vM → vM := fun i_0 s_1 => (let X_2 : vM := (LF_M_times s_1 r (r 28) (r 28) (r 28) (r 10) (r 11)); let J_3 : vM := if (LF_M_bit X_2 a2 i_0) = (nI 1) then (let X_4 : vM := (LF_M_times X_2 r (r 28) (r 28) a1 (r 10) (r 11)); X_4) else X_2; J_3)
def LF_M_power (X : vM) (r : Nat → Nat) (a0 : Nat) (a1 : Nat) (a2 : Nat) : vM := (let X1 : vM := (LF_M_set X (r 28) (nI 1)); let R4 : vM := lpD (LL_M_power_13 r a2 a1) 256 X1; (let X11 : vM := (LF_M_copy R4 a0 (r 28)); X11))
abbrev rm_M_power : Room := { frames := 3, cells := 0, slots := 0, locals := 85 }
set_option maxHeartbeats 4000000 in
set_option maxRecDepth 100000 in
theorem v_M_power {l : Launch} {D : va_G} {g : ClassId → FieldType → Prop} {E : Nat → Prop} {H0 : Heap} {X : vM} {o : Nat} {r : Nat → Nat} {i : Nat → Int32} {a0 : Nat} {a1 : Nat} {a2 : Nat} (hM : mo_ D g H0 o r i) (hE : ¬ E o) (hW : ∀ q ∈ mo_wr, E (r q.1)) (f0 : sx_A g .long H0 a0 16) (o0 : E a0) (f1 : sx_A g .long H0 a1 16) (f2 : sx_A g .long H0 a2 16) (hV : mm g H0 = X) : Met l y_M_power (.code y_M_power b_M_power 5 none :: G_) rm_M_power (sx_Pc [.ref o, .ref a0, .ref a1, .ref a2] H0 D g) (vx_Qv g E H0 (LF_M_power X r a0 a1 a2)) 0 0 E := by
  refine vx_mv (own := R_M) (by decide) rfl rfl rfl (Nat.le_of_ble_eq_true rfl) ?_
  intro p e s m args below meth c Q ls EE hl hret
  obtain ⟨hx, hb, hml, hown, hts, hG, hK⟩ := id EE
  have hS : sx_S g E E H0 H0 [] := sx_S.rf
  have hl : lv_has ls 5 [(0, .ref o), (1, .ref a0), (2, .ref a1), (3, .ref a2)] := hl
  refine lv_aload_n hx hb d_M_power_0 rfl (lv_at hl 0 rfl) ?_
  refine sx_get EE (hS.1.ob hE hM.1) rfl i_M 28 (by decide) rfl fl_M_82 rfl d_M_power_1 ?_
  refine lv_iconst (v := nI 1) hx hb d_M_power_4 (by decide +kernel) ?_
  refine vx_gv (sx_runS (As := [.ref (r 28), .int (nI (1))]) (rest := []) EE (v_M_set (X := X) (hS.a (mo_28 hM)) (mow_28 hW) hV) w_M_177 rfl ⟨rfl, rfl⟩ ⟨Nat.le_of_ble_eq_true rfl, Nat.le_of_ble_eq_true rfl⟩ ⟨Nat.zero_le _, Nat.zero_le _⟩ hl.1 rfl (Nat.le_of_ble_eq_true rfl) d_M_power_5) hS (fun H locs X1 eX1 hS hV => ?_)
  refine lv_sipush (v := nI 255) hx hb d_M_power_8 (by decide +kernel) ?_
  refine lv_istore (lv' := [(4, .int (nI (255))), (0, .ref o), (1, .ref a0), (2, .ref a1), (3, .ref a2)]) hx hb d_M_power_11 hl (by decide) rfl (fun ls hl => ?_)
  obtain ⟨R4, eR4⟩ : ∃ t : vM, lpD (LL_M_power_13 r a2 a1) 256 X1 = t := ⟨_, rfl⟩
  rw [show (nI (255)) = nI 256 - 1 from (nI_pred _).symm] at hl
  refine lpD_go (σ := vM) (P := fun i2 s3 H locs ls => sx_S g E E H0 H locs ∧ mm g H = s3 ∧ lv_has ls 5 [(4, .int (nI i2 - 1)), (0, .ref o), (1, .ref a0), (2, .ref a1), (3, .ref a2)]) (Wd := fun H locs ls => W p l e rm_M_power s m args below meth c H locs 0 0 Q (F0 m 13 ls [])) (N := 256) ?_ ?_ 256 _ (by omega) eR4 _ _ _ ⟨hS, hV, lv_sub hl [0, 1, 2, 3, 4] rfl⟩
  · intro i2 s3 H locs ls hii2 hP ihi2
    obtain ⟨hS, hV, hl⟩ := hP
    rw [nI_pred] at hl
    refine lv_iload hx hb d_M_power_13 (lv_at hl 0 rfl) ?_
    refine lv_if_lt (tgt := 79) hx hb d_M_power_15 (by decide) (fun q => absurd q (nI_pos (by omega))) (fun _ => ?_)
    refine lv_aload_n hx hb d_M_power_18 rfl (lv_at hl 1 rfl) ?_
    refine lv_aload_n hx hb d_M_power_19 rfl (lv_at hl 1 rfl) ?_
    refine sx_get EE (hS.1.ob hE hM.1) rfl i_M 28 (by decide) rfl fl_M_82 rfl d_M_power_20 ?_
    refine lv_aload_n hx hb d_M_power_23 rfl (lv_at hl 1 rfl) ?_
    refine sx_get EE (hS.1.ob hE hM.1) rfl i_M 28 (by decide) rfl fl_M_82 rfl d_M_power_24 ?_
    refine lv_aload_n hx hb d_M_power_27 rfl (lv_at hl 1 rfl) ?_
    refine sx_get EE (hS.1.ob hE hM.1) rfl i_M 28 (by decide) rfl fl_M_82 rfl d_M_power_28 ?_
    refine lv_aload_n hx hb d_M_power_31 rfl (lv_at hl 1 rfl) ?_
    refine sx_get EE (hS.1.ob hE hM.1) rfl i_M 10 (by decide) rfl fl_M_27 rfl d_M_power_32 ?_
    refine lv_aload_n hx hb d_M_power_35 rfl (lv_at hl 1 rfl) ?_
    refine sx_get EE (hS.1.ob hE hM.1) rfl i_M 11 (by decide) rfl fl_M_31 rfl d_M_power_36 ?_
    refine vx_gv (sx_runV (As := [.ref (r 28), .ref (r 28), .ref (r 28), .ref (r 10), .ref (r 11)]) (rest := []) EE (hS.1.ob hE hM.1) rfl rfl (v_M_times (X := s3) (hM.kept hS.1 hE) hE hW (hS.a (mo_28 hM)) (mow_28 hW) (hS.a (mo_28 hM)) (hS.a (mo_28 hM)) (hS.a (mo_10 hM)) (hS.a (mo_11 hM)) hV) w_M_188 rfl ⟨rfl, rfl⟩ ⟨Nat.le_of_ble_eq_true rfl, Nat.le_of_ble_eq_true rfl⟩ ⟨Nat.zero_le _, Nat.zero_le _⟩ hl.1 rfl (Nat.le_of_ble_eq_true rfl) d_M_power_39) hS (fun H locs X5 eX5 hS hV => ?_)
    refine lv_aload_n hx hb d_M_power_42 rfl (lv_at hl 4 rfl) ?_
    refine lv_iload hx hb d_M_power_43 (lv_at hl 0 rfl) ?_
    refine vx_gi (sx_runS (As := [.ref a2, .int (nI (i2))]) (rest := []) EE (v_M_bit (X := X5) (hS.a f2) (by omega) hV) w_M_273 rfl ⟨rfl, rfl⟩ ⟨Nat.le_of_ble_eq_true rfl, Nat.le_of_ble_eq_true rfl⟩ ⟨Nat.zero_le _, Nat.zero_le _⟩ hl.1 rfl (Nat.le_of_ble_eq_true rfl) d_M_power_45) hS (fun H locs X_ eX_ hS hV => ?_)
    subst eX_
    refine lv_iconst (v := nI 1) hx hb d_M_power_48 (by decide +kernel) ?_
    have jn73_8 : ∀ (J8 : vM) (H : Heap) (locs : List Loc) (ls : Array Slot), (if (LF_M_bit X5 a2 i2) = (nI 1) then (let X7 : vM := (LF_M_times X5 r (r 28) (r 28) a1 (r 10) (r 11)); X7) else X5) = J8 → sx_S g E E H0 H locs → mm g H = J8 → lv_has ls 5 [(4, .int (nI (i2))), (0, .ref o), (1, .ref a0), (2, .ref a1), (3, .ref a2)] → W p l e rm_M_power s m args below meth c H locs 0 0 Q (F0 m 73 ls []) := by
      intro J8 H locs ls eJ8 hS hV hl
      refine lv_iinc (v := nI i2 - 1) (lv' := [(4, .int (nI i2 - 1)), (0, .ref o), (1, .ref a0), (2, .ref a1), (3, .ref a2)]) hx hb d_M_power_73 hl (k := 0) rfl (sx_dn _) (by decide) rfl (fun ls hl => ?_)
      refine lv_goto (tgt := 13) hx hb d_M_power_76 (by decide) ?_
      exact ihi2 J8 _ _ _ (by subst eX5 eJ8; exact rfl) ⟨hS, hV, lv_sub hl [0, 1, 2, 3, 4] rfl⟩
    refine lv_icmp_ne (tgt := 73) hx hb d_M_power_49 (by decide) (fun q49_5 => ?_) (fun q49_5 => ?_)
    · skip
      exact jn73_8 X5 _ _ _ (vx_n q49_5 rfl) hS hV (lv_sub hl [0, 1, 2, 3, 4] rfl)
    · skip
      refine lv_aload_n hx hb d_M_power_52 rfl (lv_at hl 1 rfl) ?_
      refine lv_aload_n hx hb d_M_power_53 rfl (lv_at hl 1 rfl) ?_
      refine sx_get EE (hS.1.ob hE hM.1) rfl i_M 28 (by decide) rfl fl_M_82 rfl d_M_power_54 ?_
      refine lv_aload_n hx hb d_M_power_57 rfl (lv_at hl 1 rfl) ?_
      refine sx_get EE (hS.1.ob hE hM.1) rfl i_M 28 (by decide) rfl fl_M_82 rfl d_M_power_58 ?_
      refine lv_aload_n hx hb d_M_power_61 rfl (lv_at hl 3 rfl) ?_
      refine lv_aload_n hx hb d_M_power_62 rfl (lv_at hl 1 rfl) ?_
      refine sx_get EE (hS.1.ob hE hM.1) rfl i_M 10 (by decide) rfl fl_M_27 rfl d_M_power_63 ?_
      refine lv_aload_n hx hb d_M_power_66 rfl (lv_at hl 1 rfl) ?_
      refine sx_get EE (hS.1.ob hE hM.1) rfl i_M 11 (by decide) rfl fl_M_31 rfl d_M_power_67 ?_
      refine vx_gv (sx_runV (As := [.ref (r 28), .ref (r 28), .ref a1, .ref (r 10), .ref (r 11)]) (rest := []) EE (hS.1.ob hE hM.1) rfl rfl (v_M_times (X := X5) (hM.kept hS.1 hE) hE hW (hS.a (mo_28 hM)) (mow_28 hW) (hS.a (mo_28 hM)) (hS.a f1) (hS.a (mo_10 hM)) (hS.a (mo_11 hM)) hV) w_M_188 rfl ⟨rfl, rfl⟩ ⟨Nat.le_of_ble_eq_true rfl, Nat.le_of_ble_eq_true rfl⟩ ⟨Nat.zero_le _, Nat.zero_le _⟩ hl.1 rfl (Nat.le_of_ble_eq_true rfl) d_M_power_70) hS (fun H locs X10 eX10 hS hV => ?_)
      exact jn73_8 X10 _ _ _ (by subst eX10; exact (vx_p q49_5 rfl)) hS hV (lv_sub hl [0, 1, 2, 3, 4] rfl)
  · intro H locs ls hP
    obtain ⟨hS, hV, hl⟩ := hP
    refine lv_iload hx hb d_M_power_13 (lv_at hl 0 rfl) ?_
    refine lv_if_lt (tgt := 79) hx hb d_M_power_15 (by decide) (fun _ => ?_) (fun q => absurd (by decide +kernel) q)
    refine lv_aload_n hx hb d_M_power_79 rfl (lv_at hl 2 rfl) ?_
    refine lv_aload_n hx hb d_M_power_80 rfl (lv_at hl 1 rfl) ?_
    refine sx_get EE (hS.1.ob hE hM.1) rfl i_M 28 (by decide) rfl fl_M_82 rfl d_M_power_81 ?_
    refine vx_gv (sx_runS (As := [.ref a0, .ref (r 28)]) (rest := []) EE (v_M_copy (X := R4) (hS.a f0) o0 (hS.a (mo_28 hM)) hV) w_M_207 rfl ⟨rfl, rfl⟩ ⟨Nat.le_of_ble_eq_true rfl, Nat.le_of_ble_eq_true rfl⟩ ⟨Nat.zero_le _, Nat.zero_le _⟩ hl.1 rfl (Nat.le_of_ble_eq_true rfl) d_M_power_84) hS (fun H locs X11 eX11 hS hV => ?_)
    exact hret _ _ _ _ _ (by subst eX1 eR4 eX11; exact rfl) hS hV d_M_power_87
