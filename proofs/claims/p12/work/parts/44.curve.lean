def LL_Ed_addUp_10 (kq : Nat → Nat → Nat) (a0 : Nat) (a1 : Nat) : Nat → vM → vM := fun i_0 s_1 => (let X_2 : vM := (LF_Ed_twice s_1 (edr kq) (kq 3)); let X_3 : vM := (LF_Ed_twice X_2 (edr kq) (kq 3)); let X_4 : vM := (LF_Ed_twice X_3 (edr kq) (kq 3)); let X_5 : vM := (LF_Ed_twice X_4 (edr kq) (kq 3)); let J_6 : vM := if (LF_Ed_digitAt X_5 a0 i_0) = 0 then X_5 else (let X_7 : vM := (LF_Ed_add X_5 (edr kq) (kq 3) (kq (16 + (LF_Ed_digitAt X_5 a0 i_0)))); X_7); (let J_8 : vM := if (LF_Ed_digitAt J_6 a1 i_0) = 0 then J_6 else (let X_9 : vM := (LF_Ed_add J_6 (edr kq) (kq 3) (kq (32 + (LF_Ed_digitAt J_6 a1 i_0)))); X_9); J_8))
def LF_Ed_addUp (X : vM) (kq : Nat → Nat → Nat) (ts : Nat → Nat) (a0 : Nat) (a1 : Nat) : vM := (let X1 : vM := (LF_Pt_setNeutral X (kq 3)); let R4 : vM := lpD (LL_Ed_addUp_10 kq a0 a1) 64 X1; R4)
abbrev rm_Ed_addUp : Room := { frames := 4, cells := 0, slots := 0, locals := 142 }
set_option maxHeartbeats 4000000 in
set_option maxRecDepth 100000 in
theorem v_Ed_addUp {l : Launch} {D : va_G} {g : ClassId → FieldType → Prop} {E : Nat → Prop} {H0 : Heap} {X : vM} {kq : Nat → Nat → Nat} {ts : Nat → Nat} {a0 : Nat} {a1 : Nat} (hC : kc_ D g E H0 kq ts) (f0 : sx_A g .byte H0 a0 32) (f1 : sx_A g .byte H0 a1 32) (hV : mm g H0 = X) : Met l y_Ed_addUp (.code y_Ed_addUp b_Ed_addUp 6 none :: G_) rm_Ed_addUp (sx_Pc [.ref (kq 2 99), .ref a0, .ref a1] H0 D g) (vx_Qv g E H0 (LF_Ed_addUp X kq ts a0 a1)) 0 0 E := by
  refine vx_mv (own := R_Ed) (by decide) rfl rfl rfl (Nat.le_of_ble_eq_true rfl) ?_
  intro p e s m args below meth c Q ls EE hl hret
  obtain ⟨hx, hb, hml, hown, hts, hG, hK⟩ := id EE
  have hS : sx_S g E E H0 H0 [] := sx_S.rf
  have hz := hC.2.2.2.2
  have hl : lv_has ls 6 [(0, .ref (kq 2 99)), (1, .ref a0), (2, .ref a1)] := hl
  refine lv_aload_n hx hb d_Ed_addUp_0 rfl (lv_at hl 0 rfl) ?_
  refine sx_get EE (hS.1.ob (kc_n2 hC) (kc_o2 hC)) rfl i_Ed 1 (by decide) rfl fl_Ed_12 rfl d_Ed_addUp_1 ?_
  refine vx_gv (sx_runV (As := []) (rest := []) EE (hS.1.ob (kc_n3 hC) (kc_p3 hC).1) rfl rfl (v_Pt_setNeutral (X := X) ((kc_p3 hC).kept hS.1 (kc_n3 hC)) (kc_n3 hC) (kc_w3 hC) hV) w_Ed_137 rfl ⟨rfl, rfl⟩ ⟨Nat.le_of_ble_eq_true rfl, Nat.le_of_ble_eq_true rfl⟩ ⟨Nat.zero_le _, Nat.zero_le _⟩ hl.1 rfl (Nat.le_of_ble_eq_true rfl) d_Ed_addUp_4) hS (fun H locs X1 eX1 hS hV => ?_)
  refine lv_bipush (v := nI 63) hx hb d_Ed_addUp_7 (by decide +kernel) ?_
  refine lv_istore_n (lv' := [(3, .int (nI (63))), (0, .ref (kq 2 99)), (1, .ref a0), (2, .ref a1)]) hx hb d_Ed_addUp_9 rfl hl (by decide) rfl (fun ls hl => ?_)
  obtain ⟨R4, eR4⟩ : ∃ t : vM, lpD (LL_Ed_addUp_10 kq a0 a1) 64 X1 = t := ⟨_, rfl⟩
  rw [show (nI (63)) = nI 64 - 1 from (nI_pred _).symm] at hl
  refine lpD_go (σ := vM) (P := fun i2 s3 H locs ls => sx_S g E E H0 H locs ∧ mm g H = s3 ∧ lv_has ls 6 [(3, .int (nI i2 - 1)), (0, .ref (kq 2 99)), (1, .ref a0), (2, .ref a1)]) (Wd := fun H locs ls => W p l e rm_Ed_addUp s m args below meth c H locs 0 0 Q (F0 m 10 ls [])) (N := 64) ?_ ?_ 64 _ (by omega) eR4 _ _ _ ⟨hS, hV, lv_sub hl [0, 1, 2, 3] rfl⟩
  · intro i2 s3 H locs ls hii2 hP ihi2
    obtain ⟨hS, hV, hl⟩ := hP
    rw [nI_pred] at hl
    refine lv_iload_n hx hb d_Ed_addUp_10 rfl (lv_at hl 0 rfl) ?_
    refine lv_if_lt (tgt := 106) hx hb d_Ed_addUp_11 (by decide) (fun q => absurd q (nI_pos (by omega))) (fun _ => ?_)
    refine lv_aload_n hx hb d_Ed_addUp_14 rfl (lv_at hl 1 rfl) ?_
    refine lv_aload_n hx hb d_Ed_addUp_15 rfl (lv_at hl 1 rfl) ?_
    refine sx_get EE (hS.1.ob (kc_n2 hC) (kc_o2 hC)) rfl i_Ed 1 (by decide) rfl fl_Ed_12 rfl d_Ed_addUp_16 ?_
    refine vx_gv (sx_runV (As := [.ref (kq 3 99)]) (rest := []) EE (hS.1.ob (kc_n2 hC) (kc_o2 hC)) rfl rfl (v_Ed_twice (X := s3) ((kc_ed hC).kept hS.1 (kc_n2 hC)) (kc_n2 hC) (kc_edw hC) ((kc_p3 hC).kept hS.1 (kc_n3 hC)) (kc_n3 hC) (kc_w3 hC) hV) w_Ed_140 rfl ⟨rfl, rfl⟩ ⟨Nat.le_of_ble_eq_true rfl, Nat.le_of_ble_eq_true rfl⟩ ⟨Nat.zero_le _, Nat.zero_le _⟩ hl.1 rfl (Nat.le_of_ble_eq_true rfl) d_Ed_addUp_19) hS (fun H locs X5 eX5 hS hV => ?_)
    refine lv_aload_n hx hb d_Ed_addUp_22 rfl (lv_at hl 1 rfl) ?_
    refine lv_aload_n hx hb d_Ed_addUp_23 rfl (lv_at hl 1 rfl) ?_
    refine sx_get EE (hS.1.ob (kc_n2 hC) (kc_o2 hC)) rfl i_Ed 1 (by decide) rfl fl_Ed_12 rfl d_Ed_addUp_24 ?_
    refine vx_gv (sx_runV (As := [.ref (kq 3 99)]) (rest := []) EE (hS.1.ob (kc_n2 hC) (kc_o2 hC)) rfl rfl (v_Ed_twice (X := X5) ((kc_ed hC).kept hS.1 (kc_n2 hC)) (kc_n2 hC) (kc_edw hC) ((kc_p3 hC).kept hS.1 (kc_n3 hC)) (kc_n3 hC) (kc_w3 hC) hV) w_Ed_140 rfl ⟨rfl, rfl⟩ ⟨Nat.le_of_ble_eq_true rfl, Nat.le_of_ble_eq_true rfl⟩ ⟨Nat.zero_le _, Nat.zero_le _⟩ hl.1 rfl (Nat.le_of_ble_eq_true rfl) d_Ed_addUp_27) hS (fun H locs X6 eX6 hS hV => ?_)
    refine lv_aload_n hx hb d_Ed_addUp_30 rfl (lv_at hl 1 rfl) ?_
    refine lv_aload_n hx hb d_Ed_addUp_31 rfl (lv_at hl 1 rfl) ?_
    refine sx_get EE (hS.1.ob (kc_n2 hC) (kc_o2 hC)) rfl i_Ed 1 (by decide) rfl fl_Ed_12 rfl d_Ed_addUp_32 ?_
    refine vx_gv (sx_runV (As := [.ref (kq 3 99)]) (rest := []) EE (hS.1.ob (kc_n2 hC) (kc_o2 hC)) rfl rfl (v_Ed_twice (X := X6) ((kc_ed hC).kept hS.1 (kc_n2 hC)) (kc_n2 hC) (kc_edw hC) ((kc_p3 hC).kept hS.1 (kc_n3 hC)) (kc_n3 hC) (kc_w3 hC) hV) w_Ed_140 rfl ⟨rfl, rfl⟩ ⟨Nat.le_of_ble_eq_true rfl, Nat.le_of_ble_eq_true rfl⟩ ⟨Nat.zero_le _, Nat.zero_le _⟩ hl.1 rfl (Nat.le_of_ble_eq_true rfl) d_Ed_addUp_35) hS (fun H locs X7 eX7 hS hV => ?_)
    refine lv_aload_n hx hb d_Ed_addUp_38 rfl (lv_at hl 1 rfl) ?_
    refine lv_aload_n hx hb d_Ed_addUp_39 rfl (lv_at hl 1 rfl) ?_
    refine sx_get EE (hS.1.ob (kc_n2 hC) (kc_o2 hC)) rfl i_Ed 1 (by decide) rfl fl_Ed_12 rfl d_Ed_addUp_40 ?_
    refine vx_gv (sx_runV (As := [.ref (kq 3 99)]) (rest := []) EE (hS.1.ob (kc_n2 hC) (kc_o2 hC)) rfl rfl (v_Ed_twice (X := X7) ((kc_ed hC).kept hS.1 (kc_n2 hC)) (kc_n2 hC) (kc_edw hC) ((kc_p3 hC).kept hS.1 (kc_n3 hC)) (kc_n3 hC) (kc_w3 hC) hV) w_Ed_140 rfl ⟨rfl, rfl⟩ ⟨Nat.le_of_ble_eq_true rfl, Nat.le_of_ble_eq_true rfl⟩ ⟨Nat.zero_le _, Nat.zero_le _⟩ hl.1 rfl (Nat.le_of_ble_eq_true rfl) d_Ed_addUp_43) hS (fun H locs X8 eX8 hS hV => ?_)
    refine lv_aload_n hx hb d_Ed_addUp_46 rfl (lv_at hl 2 rfl) ?_
    refine lv_iload_n hx hb d_Ed_addUp_47 rfl (lv_at hl 0 rfl) ?_
    refine vx_gi (sx_runS (As := [.ref a0, .int (nI (i2))]) (rest := []) EE (v_Ed_digitAt (X := X8) (hS.a f0) (by omega) hV) w_Ed_143 rfl ⟨rfl, rfl⟩ ⟨Nat.le_of_ble_eq_true rfl, Nat.le_of_ble_eq_true rfl⟩ ⟨Nat.zero_le _, Nat.zero_le _⟩ hl.1 rfl (Nat.le_of_ble_eq_true rfl) d_Ed_addUp_48) hS (fun H locs X_ eX_ hS hV => ?_)
    subst eX_
    have hbd48 := (show (LF_Ed_digitAt X8 a0 i2) < 16 from vx_15b _)
    refine lv_istore (lv' := [(4, .int (nI ((LF_Ed_digitAt X8 a0 i2)))), (3, .int (nI (i2))), (0, .ref (kq 2 99)), (1, .ref a0), (2, .ref a1)]) hx hb d_Ed_addUp_51 hl (by decide) rfl (fun ls hl => ?_)
    refine lv_iload hx hb d_Ed_addUp_53 (lv_at hl 0 rfl) ?_
    have jn73_11 : ∀ (J11 : vM) (H : Heap) (locs : List Loc) (ls : Array Slot), (if (LF_Ed_digitAt X8 a0 i2) = 0 then X8 else (let X10 : vM := (LF_Ed_add X8 (edr kq) (kq 3) (kq (16 + (LF_Ed_digitAt X8 a0 i2)))); X10)) = J11 → sx_S g E E H0 H locs → mm g H = J11 → lv_has ls 6 [(4, .int (nI ((LF_Ed_digitAt X8 a0 i2)))), (3, .int (nI (i2))), (0, .ref (kq 2 99)), (1, .ref a0), (2, .ref a1)] → W p l e rm_Ed_addUp s m args below meth c H locs 0 0 Q (F0 m 73 ls []) := by
      intro J11 H locs ls eJ11 hS hV hl
      refine lv_aload_n hx hb d_Ed_addUp_73 rfl (lv_at hl 4 rfl) ?_
      refine lv_iload_n hx hb d_Ed_addUp_74 rfl (lv_at hl 1 rfl) ?_
      refine vx_gi (sx_runS (As := [.ref a1, .int (nI (i2))]) (rest := []) EE (v_Ed_digitAt (X := J11) (hS.a f1) (by omega) hV) w_Ed_143 rfl ⟨rfl, rfl⟩ ⟨Nat.le_of_ble_eq_true rfl, Nat.le_of_ble_eq_true rfl⟩ ⟨Nat.zero_le _, Nat.zero_le _⟩ hl.1 rfl (Nat.le_of_ble_eq_true rfl) d_Ed_addUp_75) hS (fun H locs X_ eX_ hS hV => ?_)
      subst eX_
      have hbd75 := (show (LF_Ed_digitAt J11 a1 i2) < 16 from vx_15b _)
      refine lv_istore (lv' := [(5, .int (nI ((LF_Ed_digitAt J11 a1 i2)))), (4, .int (nI ((LF_Ed_digitAt X8 a0 i2)))), (3, .int (nI (i2))), (0, .ref (kq 2 99)), (1, .ref a0), (2, .ref a1)]) hx hb d_Ed_addUp_78 hl (by decide) rfl (fun ls hl => ?_)
      refine lv_iload hx hb d_Ed_addUp_80 (lv_at hl 0 rfl) ?_
      have jn100_15 : ∀ (J15 : vM) (H : Heap) (locs : List Loc) (ls : Array Slot), (if (LF_Ed_digitAt J11 a1 i2) = 0 then J11 else (let X14 : vM := (LF_Ed_add J11 (edr kq) (kq 3) (kq (32 + (LF_Ed_digitAt J11 a1 i2)))); X14)) = J15 → sx_S g E E H0 H locs → mm g H = J15 → lv_has ls 6 [(5, .int (nI ((LF_Ed_digitAt J11 a1 i2)))), (4, .int (nI ((LF_Ed_digitAt X8 a0 i2)))), (3, .int (nI (i2))), (0, .ref (kq 2 99)), (1, .ref a0), (2, .ref a1)] → W p l e rm_Ed_addUp s m args below meth c H locs 0 0 Q (F0 m 100 ls []) := by
        intro J15 H locs ls eJ15 hS hV hl
        refine lv_iinc (v := nI i2 - 1) (lv' := [(3, .int (nI i2 - 1)), (5, .int (nI ((LF_Ed_digitAt J11 a1 i2)))), (4, .int (nI ((LF_Ed_digitAt X8 a0 i2)))), (0, .ref (kq 2 99)), (1, .ref a0), (2, .ref a1)]) hx hb d_Ed_addUp_100 hl (k := 2) rfl (sx_dn _) (by decide) rfl (fun ls hl => ?_)
        refine lv_goto (tgt := 10) hx hb d_Ed_addUp_103 (by decide) ?_
        exact ihi2 J15 _ _ _ (by subst eX5 eX6 eX7 eX8 eJ11 eJ15; exact rfl) ⟨hS, hV, lv_sub hl [0, 3, 4, 5] rfl⟩
      refine lv_if_eq (tgt := 100) hx hb d_Ed_addUp_82 (by decide) (fun q82_12 => ?_) (fun q82_12 => ?_)
      · skip
        have q82_12 : (LF_Ed_digitAt J11 a1 i2) = 0 := (nI_eq (a := (LF_Ed_digitAt J11 a1 i2)) (b := 0) (by omega) (by omega)).mp q82_12
        exact jn100_15 J11 _ _ _ (vx_p q82_12 rfl) hS hV (lv_sub hl [0, 1, 2, 3, 4, 5] rfl)
      · skip
        have q82_12 : ¬ ((LF_Ed_digitAt J11 a1 i2) = 0) := fun z => q82_12 ((nI_eq (a := (LF_Ed_digitAt J11 a1 i2)) (b := 0) (by omega) (by omega)).mpr z)
        refine lv_aload_n hx hb d_Ed_addUp_85 rfl (lv_at hl 3 rfl) ?_
        refine lv_aload_n hx hb d_Ed_addUp_86 rfl (lv_at hl 3 rfl) ?_
        refine sx_get EE (hS.1.ob (kc_n2 hC) (kc_o2 hC)) rfl i_Ed 1 (by decide) rfl fl_Ed_12 rfl d_Ed_addUp_87 ?_
        refine lv_aload_n hx hb d_Ed_addUp_90 rfl (lv_at hl 3 rfl) ?_
        refine sx_get EE (hS.1.ob (kc_n2 hC) (kc_o2 hC)) rfl i_Ed 4 (by decide) rfl fl_Ed_27 rfl d_Ed_addUp_91 ?_
        refine lv_iload hx hb d_Ed_addUp_94 (lv_at hl 0 rfl) ?_
        refine vx_aald hx hb hG hS hC.2.2.2.1 (by omega) d_Ed_addUp_96 ?_
        refine W.eq (g2 := F0 m 97 ls (.ref (kq (32 + (LF_Ed_digitAt J11 a1 i2)) 99) :: [.ref (kq 3 99), .ref (kq 2 99)])) rfl ?_
        refine vx_gv (sx_runV (As := [.ref (kq 3 99), .ref (kq (32 + (LF_Ed_digitAt J11 a1 i2)) 99)]) (rest := []) EE (hS.1.ob (kc_n2 hC) (kc_o2 hC)) rfl rfl (v_Ed_add (X := J11) ((kc_ed hC).kept hS.1 (kc_n2 hC)) (kc_n2 hC) (kc_edw hC) ((kc_p3 hC).kept hS.1 (kc_n3 hC)) (kc_n3 hC) (kc_w3 hC) ((rb_.el (j := (LF_Ed_digitAt J11 a1 i2)) hC.2.2.2.1 (by omega)).1.kept hS.1 (rb_.el (j := (LF_Ed_digitAt J11 a1 i2)) hC.2.2.2.1 (by omega)).2.1) (rb_.el (j := (LF_Ed_digitAt J11 a1 i2)) hC.2.2.2.1 (by omega)).2.1 hV) w_Ed_87 rfl ⟨rfl, rfl⟩ ⟨Nat.le_of_ble_eq_true rfl, Nat.le_of_ble_eq_true rfl⟩ ⟨Nat.zero_le _, Nat.zero_le _⟩ hl.1 rfl (Nat.le_of_ble_eq_true rfl) d_Ed_addUp_97) hS (fun H locs X17 eX17 hS hV => ?_)
        exact jn100_15 X17 _ _ _ (by subst eX17; exact (vx_n q82_12 rfl)) hS hV (lv_sub hl [0, 1, 2, 3, 4, 5] rfl)
    refine lv_if_eq (tgt := 73) hx hb d_Ed_addUp_55 (by decide) (fun q55_8 => ?_) (fun q55_8 => ?_)
    · skip
      have q55_8 : (LF_Ed_digitAt X8 a0 i2) = 0 := (nI_eq (a := (LF_Ed_digitAt X8 a0 i2)) (b := 0) (by omega) (by omega)).mp q55_8
      exact jn73_11 X8 _ _ _ (vx_p q55_8 rfl) hS hV (lv_sub hl [0, 1, 2, 3, 4] rfl)
    · skip
      have q55_8 : ¬ ((LF_Ed_digitAt X8 a0 i2) = 0) := fun z => q55_8 ((nI_eq (a := (LF_Ed_digitAt X8 a0 i2)) (b := 0) (by omega) (by omega)).mpr z)
      refine lv_aload_n hx hb d_Ed_addUp_58 rfl (lv_at hl 2 rfl) ?_
      refine lv_aload_n hx hb d_Ed_addUp_59 rfl (lv_at hl 2 rfl) ?_
      refine sx_get EE (hS.1.ob (kc_n2 hC) (kc_o2 hC)) rfl i_Ed 1 (by decide) rfl fl_Ed_12 rfl d_Ed_addUp_60 ?_
      refine lv_aload_n hx hb d_Ed_addUp_63 rfl (lv_at hl 2 rfl) ?_
      refine sx_get EE (hS.1.ob (kc_n2 hC) (kc_o2 hC)) rfl i_Ed 3 (by decide) rfl fl_Ed_23 rfl d_Ed_addUp_64 ?_
      refine lv_iload hx hb d_Ed_addUp_67 (lv_at hl 0 rfl) ?_
      refine vx_aald hx hb hG hS hC.2.2.1 (by omega) d_Ed_addUp_69 ?_
      refine W.eq (g2 := F0 m 70 ls (.ref (kq (16 + (LF_Ed_digitAt X8 a0 i2)) 99) :: [.ref (kq 3 99), .ref (kq 2 99)])) rfl ?_
      refine vx_gv (sx_runV (As := [.ref (kq 3 99), .ref (kq (16 + (LF_Ed_digitAt X8 a0 i2)) 99)]) (rest := []) EE (hS.1.ob (kc_n2 hC) (kc_o2 hC)) rfl rfl (v_Ed_add (X := X8) ((kc_ed hC).kept hS.1 (kc_n2 hC)) (kc_n2 hC) (kc_edw hC) ((kc_p3 hC).kept hS.1 (kc_n3 hC)) (kc_n3 hC) (kc_w3 hC) ((rb_.el (j := (LF_Ed_digitAt X8 a0 i2)) hC.2.2.1 (by omega)).1.kept hS.1 (rb_.el (j := (LF_Ed_digitAt X8 a0 i2)) hC.2.2.1 (by omega)).2.1) (rb_.el (j := (LF_Ed_digitAt X8 a0 i2)) hC.2.2.1 (by omega)).2.1 hV) w_Ed_87 rfl ⟨rfl, rfl⟩ ⟨Nat.le_of_ble_eq_true rfl, Nat.le_of_ble_eq_true rfl⟩ ⟨Nat.zero_le _, Nat.zero_le _⟩ hl.1 rfl (Nat.le_of_ble_eq_true rfl) d_Ed_addUp_70) hS (fun H locs X18 eX18 hS hV => ?_)
      exact jn73_11 X18 _ _ _ (by subst eX18; exact (vx_n q55_8 rfl)) hS hV (lv_sub hl [0, 1, 2, 3, 4] rfl)
  · intro H locs ls hP
    obtain ⟨hS, hV, hl⟩ := hP
    refine lv_iload_n hx hb d_Ed_addUp_10 rfl (lv_at hl 0 rfl) ?_
    refine lv_if_lt (tgt := 106) hx hb d_Ed_addUp_11 (by decide) (fun _ => ?_) (fun q => absurd (by decide +kernel) q)
    exact hret _ _ _ _ _ (by subst eX1 eR4; exact rfl) hS hV d_Ed_addUp_106
def LF_Ed_multiplyBase (X : vM) (kq : Nat → Nat → Nat) (ts : Nat → Nat) (a0 : Nat) : vM := (let X1 : vM := (LF_Ed_addUp X kq ts a0 (kq 2 5)); X1)
abbrev rm_Ed_multiplyBase : Room := { frames := 5, cells := 0, slots := 0, locals := 167 }
set_option maxHeartbeats 4000000 in
set_option maxRecDepth 100000 in
theorem v_Ed_multiplyBase {l : Launch} {D : va_G} {g : ClassId → FieldType → Prop} {E : Nat → Prop} {H0 : Heap} {X : vM} {kq : Nat → Nat → Nat} {ts : Nat → Nat} {a0 : Nat} (hC : kc_ D g E H0 kq ts) (f0 : sx_A g .byte H0 a0 32) (hV : mm g H0 = X) : Met l y_Ed_multiplyBase (.code y_Ed_multiplyBase b_Ed_multiplyBase 2 none :: G_) rm_Ed_multiplyBase (sx_Pc [.ref (kq 2 99), .ref a0] H0 D g) (vx_Qv g E H0 (LF_Ed_multiplyBase X kq ts a0)) 0 0 E := by
  refine vx_mv (own := R_Ed) (by decide) rfl rfl rfl (Nat.le_of_ble_eq_true rfl) ?_
  intro p e s m args below meth c Q ls EE hl hret
  obtain ⟨hx, hb, hml, hown, hts, hG, hK⟩ := id EE
  have hS : sx_S g E E H0 H0 [] := sx_S.rf
  have hz := hC.2.2.2.2
  have hl : lv_has ls 2 [(0, .ref (kq 2 99)), (1, .ref a0)] := hl
  refine lv_aload_n hx hb d_Ed_multiplyBase_0 rfl (lv_at hl 0 rfl) ?_
  refine lv_aload_n hx hb d_Ed_multiplyBase_1 rfl (lv_at hl 1 rfl) ?_
  refine lv_aload_n hx hb d_Ed_multiplyBase_2 rfl (lv_at hl 0 rfl) ?_
  refine sx_get EE (hS.1.ob (kc_n2 hC) (kc_o2 hC)) rfl i_Ed 5 (by decide) rfl fl_Ed_30 rfl d_Ed_multiplyBase_3 ?_
  refine vx_gv (sx_runV (As := [.ref a0, .ref (kq 2 5)]) (rest := []) EE (hS.1.ob (kc_n2 hC) (kc_o2 hC)) rfl rfl (v_Ed_addUp (X := X) (hC.kept hS.1) (hS.a f0) (hS.a (kc_a2_5 hC)) hV) w_Ed_130 rfl ⟨rfl, rfl⟩ ⟨Nat.le_of_ble_eq_true rfl, Nat.le_of_ble_eq_true rfl⟩ ⟨Nat.zero_le _, Nat.zero_le _⟩ hl.1 rfl (Nat.le_of_ble_eq_true rfl) d_Ed_multiplyBase_6) hS (fun H locs X1 eX1 hS hV => ?_)
  exact hret _ _ _ _ _ (by subst eX1; exact rfl) hS hV d_Ed_multiplyBase_9
def LF_Ed_subtractFromBase (X : vM) (kq : Nat → Nat → Nat) (ts : Nat → Nat) (a0 : Nat) (a1 : Nat) : vM := (let X1 : vM := (LF_Pt_negate X (kq 4)); let X2 : vM := (LF_Ed_fillMultiples X1 (edr kq) (fun j => kq (32 + j)) (kq 4) ts); let X3 : vM := (LF_Ed_addUp X2 kq ts a0 a1); X3)
abbrev rm_Ed_subtractFromBase : Room := { frames := 5, cells := 0, slots := 0, locals := 167 }
set_option maxHeartbeats 4000000 in
set_option maxRecDepth 100000 in
theorem v_Ed_subtractFromBase {l : Launch} {D : va_G} {g : ClassId → FieldType → Prop} {E : Nat → Prop} {H0 : Heap} {X : vM} {kq : Nat → Nat → Nat} {ts : Nat → Nat} {a0 : Nat} {a1 : Nat} (hC : kc_ D g E H0 kq ts) (f0 : sx_A g .byte H0 a0 32) (f1 : sx_A g .byte H0 a1 32) (hV : mm g H0 = X) : Met l y_Ed_subtractFromBase (.code y_Ed_subtractFromBase b_Ed_subtractFromBase 3 none :: G_) rm_Ed_subtractFromBase (sx_Pc [.ref (kq 2 99), .ref a0, .ref a1] H0 D g) (vx_Qv g E H0 (LF_Ed_subtractFromBase X kq ts a0 a1)) 0 0 E := by
  refine vx_mv (own := R_Ed) (by decide) rfl rfl rfl (Nat.le_of_ble_eq_true rfl) ?_
  intro p e s m args below meth c Q ls EE hl hret
  obtain ⟨hx, hb, hml, hown, hts, hG, hK⟩ := id EE
  have hS : sx_S g E E H0 H0 [] := sx_S.rf
  have hz := hC.2.2.2.2
  have hl : lv_has ls 3 [(0, .ref (kq 2 99)), (1, .ref a0), (2, .ref a1)] := hl
  refine lv_aload_n hx hb d_Ed_subtractFromBase_0 rfl (lv_at hl 0 rfl) ?_
  refine sx_get EE (hS.1.ob (kc_n2 hC) (kc_o2 hC)) rfl i_Ed 2 (by decide) rfl fl_Ed_18 rfl d_Ed_subtractFromBase_1 ?_
  refine vx_gv (sx_runV (As := []) (rest := []) EE (hS.1.ob (kc_n4 hC) (kc_p4 hC).1) rfl rfl (v_Pt_negate (X := X) ((kc_p4 hC).kept hS.1 (kc_n4 hC)) (kc_n4 hC) (kc_w4 hC) hV) w_Ed_134 rfl ⟨rfl, rfl⟩ ⟨Nat.le_of_ble_eq_true rfl, Nat.le_of_ble_eq_true rfl⟩ ⟨Nat.zero_le _, Nat.zero_le _⟩ hl.1 rfl (Nat.le_of_ble_eq_true rfl) d_Ed_subtractFromBase_4) hS (fun H locs X1 eX1 hS hV => ?_)
  refine lv_aload_n hx hb d_Ed_subtractFromBase_7 rfl (lv_at hl 0 rfl) ?_
  refine lv_aload_n hx hb d_Ed_subtractFromBase_8 rfl (lv_at hl 0 rfl) ?_
  refine sx_get EE (hS.1.ob (kc_n2 hC) (kc_o2 hC)) rfl i_Ed 4 (by decide) rfl fl_Ed_27 rfl d_Ed_subtractFromBase_9 ?_
  refine lv_aload_n hx hb d_Ed_subtractFromBase_12 rfl (lv_at hl 0 rfl) ?_
  refine sx_get EE (hS.1.ob (kc_n2 hC) (kc_o2 hC)) rfl i_Ed 2 (by decide) rfl fl_Ed_18 rfl d_Ed_subtractFromBase_13 ?_
  refine vx_gv (sx_runV (As := [.ref (kq 2 4), .ref (kq 4 99)]) (rest := []) EE (hS.1.ob (kc_n2 hC) (kc_o2 hC)) rfl rfl (v_Ed_fillMultiples (X := X1) ((kc_ed hC).kept hS.1 (kc_n2 hC)) (kc_n2 hC) (kc_edw hC) (hC.2.2.2.1.kept hS.1) ((kc_p4 hC).kept hS.1 (kc_n4 hC)) (kc_n4 hC) (kc_w4 hC) (hz.kept hS.1) hV) w_Ed_79 rfl ⟨rfl, rfl⟩ ⟨Nat.le_of_ble_eq_true rfl, Nat.le_of_ble_eq_true rfl⟩ ⟨Nat.zero_le _, Nat.zero_le _⟩ hl.1 rfl (Nat.le_of_ble_eq_true rfl) d_Ed_subtractFromBase_16) hS (fun H locs X2 eX2 hS hV => ?_)
  refine lv_aload_n hx hb d_Ed_subtractFromBase_19 rfl (lv_at hl 0 rfl) ?_
  refine lv_aload_n hx hb d_Ed_subtractFromBase_20 rfl (lv_at hl 1 rfl) ?_
  refine lv_aload_n hx hb d_Ed_subtractFromBase_21 rfl (lv_at hl 2 rfl) ?_
  refine vx_gv (sx_runV (As := [.ref a0, .ref a1]) (rest := []) EE (hS.1.ob (kc_n2 hC) (kc_o2 hC)) rfl rfl (v_Ed_addUp (X := X2) (hC.kept hS.1) (hS.a f0) (hS.a f1) hV) w_Ed_130 rfl ⟨rfl, rfl⟩ ⟨Nat.le_of_ble_eq_true rfl, Nat.le_of_ble_eq_true rfl⟩ ⟨Nat.zero_le _, Nat.zero_le _⟩ hl.1 rfl (Nat.le_of_ble_eq_true rfl) d_Ed_subtractFromBase_22) hS (fun H locs X3 eX3 hS hV => ?_)
  exact hret _ _ _ _ _ (by subst eX1 eX2 eX3; exact rfl) hS hV d_Ed_subtractFromBase_25
def LF_Ed_writeSum (X : vM) (kq : Nat → Nat → Nat) (ts : Nat → Nat) (a0 : Nat) : vM := (let X1 : vM := (LF_F_invert X kq ts (kq 2 7) (kq 3 2)); let X2 : vM := (LF_F_times X1 (kq 2 8) (kq 3 0) (kq 2 7)); let X3 : vM := (LF_F_times X2 (kq 2 9) (kq 3 1) (kq 2 7)); let X4 : vM := (LF_F_write X3 kq ts (kq 2 6) (kq 2 8)); let X5 : vM := (LF_F_write X4 kq ts a0 (kq 2 9)); let X6 : vM := stI X5 a0 31 ((((X5.2 a0 31) ||| (((X5.2 (kq 2 6) 0) <<< ((nI 7) &&& 31)).toInt8.toInt32)).toInt8.toInt32).toInt8.toInt32); X6)
abbrev rm_Ed_writeSum : Room := { frames := 5, cells := 0, slots := 0, locals := 189 }
set_option maxHeartbeats 4000000 in
set_option maxRecDepth 100000 in
theorem v_Ed_writeSum {l : Launch} {D : va_G} {g : ClassId → FieldType → Prop} {E : Nat → Prop} {H0 : Heap} {X : vM} {kq : Nat → Nat → Nat} {ts : Nat → Nat} {a0 : Nat} (hC : kc_ D g E H0 kq ts) (f0 : sx_A g .byte H0 a0 32) (o0 : E a0) (hV : mm g H0 = X) : Met l y_Ed_writeSum (.code y_Ed_writeSum b_Ed_writeSum 2 none :: G_) rm_Ed_writeSum (sx_Pc [.ref (kq 2 99), .ref a0] H0 D g) (vx_Qv g E H0 (LF_Ed_writeSum X kq ts a0)) 0 0 E := by
  refine vx_mv (own := R_Ed) (by decide) rfl rfl rfl (Nat.le_of_ble_eq_true rfl) ?_
  intro p e s m args below meth c Q ls EE hl hret
  obtain ⟨hx, hb, hml, hown, hts, hG, hK⟩ := id EE
  have hS : sx_S g E E H0 H0 [] := sx_S.rf
  have hz := hC.2.2.2.2
  have hl : lv_has ls 2 [(0, .ref (kq 2 99)), (1, .ref a0)] := hl
  refine lv_aload_n hx hb d_Ed_writeSum_0 rfl (lv_at hl 0 rfl) ?_
  refine sx_get EE (hS.1.ob (kc_n2 hC) (kc_o2 hC)) rfl i_Ed 0 (by decide) rfl fl_Ed_64 rfl d_Ed_writeSum_1 ?_
  refine lv_aload_n hx hb d_Ed_writeSum_4 rfl (lv_at hl 0 rfl) ?_
  refine sx_get EE (hS.1.ob (kc_n2 hC) (kc_o2 hC)) rfl i_Ed 7 (by decide) rfl fl_Ed_39 rfl d_Ed_writeSum_5 ?_
  refine lv_aload_n hx hb d_Ed_writeSum_8 rfl (lv_at hl 0 rfl) ?_
  refine sx_get EE (hS.1.ob (kc_n2 hC) (kc_o2 hC)) rfl i_Ed 1 (by decide) rfl fl_Ed_12 rfl d_Ed_writeSum_9 ?_
  refine sx_getN EE (hS.1.ob (kc_n3 hC) (kc_p3 hC).1) rfl i_Pt 2 (by decide) rfl fn_Ed_118 rfl d_Ed_writeSum_12 ?_
  refine vx_gv (sx_runV (As := [.ref (kq 2 7), .ref (kq 3 2)]) (rest := []) EE (hS.1.ob (kc_n0 hC) (kc_o0 hC)) rfl rfl (v_F_invert (X := X) (hC.kept hS.1) (hS.a (kc_a2_7 hC)) (kc_e2_7 hC) (hS.a ((kc_p3 hC).2 2 (by decide)).1) hV) w_Ed_147 rfl ⟨rfl, rfl⟩ ⟨Nat.le_of_ble_eq_true rfl, Nat.le_of_ble_eq_true rfl⟩ ⟨Nat.zero_le _, Nat.zero_le _⟩ hl.1 rfl (Nat.le_of_ble_eq_true rfl) d_Ed_writeSum_15) hS (fun H locs X1 eX1 hS hV => ?_)
  refine lv_aload_n hx hb d_Ed_writeSum_18 rfl (lv_at hl 0 rfl) ?_
  refine sx_get EE (hS.1.ob (kc_n2 hC) (kc_o2 hC)) rfl i_Ed 8 (by decide) rfl fl_Ed_43 rfl d_Ed_writeSum_19 ?_
  refine lv_aload_n hx hb d_Ed_writeSum_22 rfl (lv_at hl 0 rfl) ?_
  refine sx_get EE (hS.1.ob (kc_n2 hC) (kc_o2 hC)) rfl i_Ed 1 (by decide) rfl fl_Ed_12 rfl d_Ed_writeSum_23 ?_
  refine sx_getN EE (hS.1.ob (kc_n3 hC) (kc_p3 hC).1) rfl i_Pt 0 (by decide) rfl fn_Ed_94 rfl d_Ed_writeSum_26 ?_
  refine lv_aload_n hx hb d_Ed_writeSum_29 rfl (lv_at hl 0 rfl) ?_
  refine sx_get EE (hS.1.ob (kc_n2 hC) (kc_o2 hC)) rfl i_Ed 7 (by decide) rfl fl_Ed_39 rfl d_Ed_writeSum_30 ?_
  refine vx_gv (sx_runS (As := [.ref (kq 2 8), .ref (kq 3 0), .ref (kq 2 7)]) (rest := []) EE (v_F_times (X := X1) (hS.a (kc_a2_8 hC)) (kc_e2_8 hC) (hS.a ((kc_p3 hC).2 0 (by decide)).1) (hS.a (kc_a2_7 hC)) hV) w_Ed_104 rfl ⟨rfl, rfl⟩ ⟨Nat.le_of_ble_eq_true rfl, Nat.le_of_ble_eq_true rfl⟩ ⟨Nat.zero_le _, Nat.zero_le _⟩ hl.1 rfl (Nat.le_of_ble_eq_true rfl) d_Ed_writeSum_33) hS (fun H locs X2 eX2 hS hV => ?_)
  refine lv_aload_n hx hb d_Ed_writeSum_36 rfl (lv_at hl 0 rfl) ?_
  refine sx_get EE (hS.1.ob (kc_n2 hC) (kc_o2 hC)) rfl i_Ed 9 (by decide) rfl fl_Ed_46 rfl d_Ed_writeSum_37 ?_
  refine lv_aload_n hx hb d_Ed_writeSum_40 rfl (lv_at hl 0 rfl) ?_
  refine sx_get EE (hS.1.ob (kc_n2 hC) (kc_o2 hC)) rfl i_Ed 1 (by decide) rfl fl_Ed_12 rfl d_Ed_writeSum_41 ?_
  refine sx_getN EE (hS.1.ob (kc_n3 hC) (kc_p3 hC).1) rfl i_Pt 1 (by decide) rfl fn_Ed_91 rfl d_Ed_writeSum_44 ?_
  refine lv_aload_n hx hb d_Ed_writeSum_47 rfl (lv_at hl 0 rfl) ?_
  refine sx_get EE (hS.1.ob (kc_n2 hC) (kc_o2 hC)) rfl i_Ed 7 (by decide) rfl fl_Ed_39 rfl d_Ed_writeSum_48 ?_
  refine vx_gv (sx_runS (As := [.ref (kq 2 9), .ref (kq 3 1), .ref (kq 2 7)]) (rest := []) EE (v_F_times (X := X2) (hS.a (kc_a2_9 hC)) (kc_e2_9 hC) (hS.a ((kc_p3 hC).2 1 (by decide)).1) (hS.a (kc_a2_7 hC)) hV) w_Ed_104 rfl ⟨rfl, rfl⟩ ⟨Nat.le_of_ble_eq_true rfl, Nat.le_of_ble_eq_true rfl⟩ ⟨Nat.zero_le _, Nat.zero_le _⟩ hl.1 rfl (Nat.le_of_ble_eq_true rfl) d_Ed_writeSum_51) hS (fun H locs X3 eX3 hS hV => ?_)
  refine lv_aload_n hx hb d_Ed_writeSum_54 rfl (lv_at hl 0 rfl) ?_
  refine sx_get EE (hS.1.ob (kc_n2 hC) (kc_o2 hC)) rfl i_Ed 0 (by decide) rfl fl_Ed_64 rfl d_Ed_writeSum_55 ?_
  refine lv_aload_n hx hb d_Ed_writeSum_58 rfl (lv_at hl 0 rfl) ?_
  refine sx_get EE (hS.1.ob (kc_n2 hC) (kc_o2 hC)) rfl i_Ed 6 (by decide) rfl fl_Ed_34 rfl d_Ed_writeSum_59 ?_
  refine lv_aload_n hx hb d_Ed_writeSum_62 rfl (lv_at hl 0 rfl) ?_
  refine sx_get EE (hS.1.ob (kc_n2 hC) (kc_o2 hC)) rfl i_Ed 8 (by decide) rfl fl_Ed_43 rfl d_Ed_writeSum_63 ?_
  refine vx_gv (sx_runV (As := [.ref (kq 2 6), .ref (kq 2 8)]) (rest := []) EE (hS.1.ob (kc_n0 hC) (kc_o0 hC)) rfl rfl (v_F_write (X := X3) (hC.kept hS.1) (hS.a (kc_a2_6 hC)) (kc_e2_6 hC) (hS.a (kc_a2_8 hC)) hV) w_Ed_150 rfl ⟨rfl, rfl⟩ ⟨Nat.le_of_ble_eq_true rfl, Nat.le_of_ble_eq_true rfl⟩ ⟨Nat.zero_le _, Nat.zero_le _⟩ hl.1 rfl (Nat.le_of_ble_eq_true rfl) d_Ed_writeSum_66) hS (fun H locs X4 eX4 hS hV => ?_)
  refine lv_aload_n hx hb d_Ed_writeSum_69 rfl (lv_at hl 0 rfl) ?_
  refine sx_get EE (hS.1.ob (kc_n2 hC) (kc_o2 hC)) rfl i_Ed 0 (by decide) rfl fl_Ed_64 rfl d_Ed_writeSum_70 ?_
  refine lv_aload_n hx hb d_Ed_writeSum_73 rfl (lv_at hl 1 rfl) ?_
  refine lv_aload_n hx hb d_Ed_writeSum_74 rfl (lv_at hl 0 rfl) ?_
  refine sx_get EE (hS.1.ob (kc_n2 hC) (kc_o2 hC)) rfl i_Ed 9 (by decide) rfl fl_Ed_46 rfl d_Ed_writeSum_75 ?_
  refine vx_gv (sx_runV (As := [.ref a0, .ref (kq 2 9)]) (rest := []) EE (hS.1.ob (kc_n0 hC) (kc_o0 hC)) rfl rfl (v_F_write (X := X4) (hC.kept hS.1) (hS.a f0) o0 (hS.a (kc_a2_9 hC)) hV) w_Ed_150 rfl ⟨rfl, rfl⟩ ⟨Nat.le_of_ble_eq_true rfl, Nat.le_of_ble_eq_true rfl⟩ ⟨Nat.zero_le _, Nat.zero_le _⟩ hl.1 rfl (Nat.le_of_ble_eq_true rfl) d_Ed_writeSum_78) hS (fun H locs X5 eX5 hS hV => ?_)
  refine lv_aload_n hx hb d_Ed_writeSum_81 rfl (lv_at hl 1 rfl) ?_
  refine lv_bipush (v := nI 31) hx hb d_Ed_writeSum_82 (by decide +kernel) ?_
  refine lv_dup2_11 hx hb d_Ed_writeSum_84 rfl rfl ?_
  refine vx_bald hx hb hG hS hV f0 (by omega) (by decide) d_Ed_writeSum_85 ?_
  refine lv_aload_n hx hb d_Ed_writeSum_86 rfl (lv_at hl 0 rfl) ?_
  refine sx_get EE (hS.1.ob (kc_n2 hC) (kc_o2 hC)) rfl i_Ed 6 (by decide) rfl fl_Ed_34 rfl d_Ed_writeSum_87 ?_
  refine lv_iconst (v := nI 0) hx hb d_Ed_writeSum_90 (by decide +kernel) ?_
  refine vx_bald hx hb hG hS hV (kc_a2_6 hC) (by omega) (by decide) d_Ed_writeSum_91 ?_
  refine lv_bipush (v := nI 7) hx hb d_Ed_writeSum_92 (by decide +kernel) ?_
  refine lv_ishl hx hb d_Ed_writeSum_94 ?_
  refine lv_i2b hx hb d_Ed_writeSum_95 rfl ?_
  refine lv_ior hx hb d_Ed_writeSum_96 ?_
  refine lv_i2b hx hb d_Ed_writeSum_97 rfl ?_
  refine vx_bast hx hb hG hS hV f0 o0 (by omega) (by decide) d_Ed_writeSum_98 (fun H locs X6 eX6 hS hV => ?_)
  exact hret _ _ _ _ _ (by subst eX1 eX2 eX3 eX4 eX5 eX6; exact rfl) hS hV d_Ed_writeSum_99
def LF_Ed_writeFoundX (X : vM) (kq : Nat → Nat → Nat) (ts : Nat → Nat) (a0 : Nat) : vM := (let X1 : vM := (LF_F_write X kq ts a0 (kq 4 0)); X1)
abbrev rm_Ed_writeFoundX : Room := { frames := 3, cells := 0, slots := 0, locals := 155 }
set_option maxHeartbeats 4000000 in
set_option maxRecDepth 100000 in
theorem v_Ed_writeFoundX {l : Launch} {D : va_G} {g : ClassId → FieldType → Prop} {E : Nat → Prop} {H0 : Heap} {X : vM} {kq : Nat → Nat → Nat} {ts : Nat → Nat} {a0 : Nat} (hC : kc_ D g E H0 kq ts) (f0 : sx_A g .byte H0 a0 32) (o0 : E a0) (hV : mm g H0 = X) : Met l y_Ed_writeFoundX (.code y_Ed_writeFoundX b_Ed_writeFoundX 2 none :: G_) rm_Ed_writeFoundX (sx_Pc [.ref (kq 2 99), .ref a0] H0 D g) (vx_Qv g E H0 (LF_Ed_writeFoundX X kq ts a0)) 0 0 E := by
  refine vx_mv (own := R_Ed) (by decide) rfl rfl rfl (Nat.le_of_ble_eq_true rfl) ?_
  intro p e s m args below meth c Q ls EE hl hret
  obtain ⟨hx, hb, hml, hown, hts, hG, hK⟩ := id EE
  have hS : sx_S g E E H0 H0 [] := sx_S.rf
  have hz := hC.2.2.2.2
  have hl : lv_has ls 2 [(0, .ref (kq 2 99)), (1, .ref a0)] := hl
  refine lv_aload_n hx hb d_Ed_writeFoundX_0 rfl (lv_at hl 0 rfl) ?_
  refine sx_get EE (hS.1.ob (kc_n2 hC) (kc_o2 hC)) rfl i_Ed 0 (by decide) rfl fl_Ed_64 rfl d_Ed_writeFoundX_1 ?_
  refine lv_aload_n hx hb d_Ed_writeFoundX_4 rfl (lv_at hl 1 rfl) ?_
  refine lv_aload_n hx hb d_Ed_writeFoundX_5 rfl (lv_at hl 0 rfl) ?_
  refine sx_get EE (hS.1.ob (kc_n2 hC) (kc_o2 hC)) rfl i_Ed 2 (by decide) rfl fl_Ed_18 rfl d_Ed_writeFoundX_6 ?_
  refine sx_getN EE (hS.1.ob (kc_n4 hC) (kc_p4 hC).1) rfl i_Pt 0 (by decide) rfl fn_Ed_94 rfl d_Ed_writeFoundX_9 ?_
  refine vx_gv (sx_runV (As := [.ref a0, .ref (kq 4 0)]) (rest := []) EE (hS.1.ob (kc_n0 hC) (kc_o0 hC)) rfl rfl (v_F_write (X := X) (hC.kept hS.1) (hS.a f0) o0 (hS.a ((kc_p4 hC).2 0 (by decide)).1) hV) w_Ed_150 rfl ⟨rfl, rfl⟩ ⟨Nat.le_of_ble_eq_true rfl, Nat.le_of_ble_eq_true rfl⟩ ⟨Nat.zero_le _, Nat.zero_le _⟩ hl.1 rfl (Nat.le_of_ble_eq_true rfl) d_Ed_writeFoundX_12) hS (fun H locs X1 eX1 hS hV => ?_)
  exact hret _ _ _ _ _ (by subst eX1; exact rfl) hS hV d_Ed_writeFoundX_15
def LF_Ed_isBelowPrime (X : vM) (kq : Nat → Nat → Nat) (ts : Nat → Nat) (a0 : Nat) : vM × Bool := (let X1 : vM := (LF_F_write X kq ts (kq 2 6) (kq 2 13)); let X2 : vM := stI X1 (kq 2 6) 31 ((((X1.2 (kq 2 6) 31) ||| (((X1.2 a0 31) &&& (nI 128)).toInt8.toInt32)).toInt8.toInt32).toInt8.toInt32); (X2, (LF_K_isSameStart X2 a0 (kq 2 6))))
abbrev rm_Ed_isBelowPrime : Room := { frames := 3, cells := 0, slots := 0, locals := 155 }
set_option maxHeartbeats 4000000 in
set_option maxRecDepth 100000 in
theorem v_Ed_isBelowPrime {l : Launch} {D : va_G} {g : ClassId → FieldType → Prop} {E : Nat → Prop} {H0 : Heap} {X : vM} {kq : Nat → Nat → Nat} {ts : Nat → Nat} {a0 : Nat} (hC : kc_ D g E H0 kq ts) (f0 : sx_A g .byte H0 a0 32) (hV : mm g H0 = X) : Met l y_Ed_isBelowPrime (.code y_Ed_isBelowPrime b_Ed_isBelowPrime 2 (some .boolean) :: G_) rm_Ed_isBelowPrime (sx_Pc [.ref (kq 2 99), .ref a0] H0 D g) (vx_Qi g E H0 (LF_Ed_isBelowPrime X kq ts a0).1 (nI ((LF_Ed_isBelowPrime X kq ts a0).2).toNat)) 0 0 E := by
  refine vx_mz (own := R_Ed) (by decide) rfl rfl rfl (Nat.le_of_ble_eq_true rfl) ?_
  intro p e s m args below meth c Q ls EE hl hret
  obtain ⟨hx, hb, hml, hown, hts, hG, hK⟩ := id EE
  have hS : sx_S g E E H0 H0 [] := sx_S.rf
  have hz := hC.2.2.2.2
  have hl : lv_has ls 2 [(0, .ref (kq 2 99)), (1, .ref a0)] := hl
  refine lv_aload_n hx hb d_Ed_isBelowPrime_0 rfl (lv_at hl 0 rfl) ?_
  refine sx_get EE (hS.1.ob (kc_n2 hC) (kc_o2 hC)) rfl i_Ed 0 (by decide) rfl fl_Ed_64 rfl d_Ed_isBelowPrime_1 ?_
  refine lv_aload_n hx hb d_Ed_isBelowPrime_4 rfl (lv_at hl 0 rfl) ?_
  refine sx_get EE (hS.1.ob (kc_n2 hC) (kc_o2 hC)) rfl i_Ed 6 (by decide) rfl fl_Ed_34 rfl d_Ed_isBelowPrime_5 ?_
  refine lv_aload_n hx hb d_Ed_isBelowPrime_8 rfl (lv_at hl 0 rfl) ?_
  refine sx_get EE (hS.1.ob (kc_n2 hC) (kc_o2 hC)) rfl i_Ed 13 (by decide) rfl fl_Ed_58 rfl d_Ed_isBelowPrime_9 ?_
  refine vx_gv (sx_runV (As := [.ref (kq 2 6), .ref (kq 2 13)]) (rest := []) EE (hS.1.ob (kc_n0 hC) (kc_o0 hC)) rfl rfl (v_F_write (X := X) (hC.kept hS.1) (hS.a (kc_a2_6 hC)) (kc_e2_6 hC) (hS.a (kc_a2_13 hC)) hV) w_Ed_150 rfl ⟨rfl, rfl⟩ ⟨Nat.le_of_ble_eq_true rfl, Nat.le_of_ble_eq_true rfl⟩ ⟨Nat.zero_le _, Nat.zero_le _⟩ hl.1 rfl (Nat.le_of_ble_eq_true rfl) d_Ed_isBelowPrime_12) hS (fun H locs X1 eX1 hS hV => ?_)
  refine lv_aload_n hx hb d_Ed_isBelowPrime_15 rfl (lv_at hl 0 rfl) ?_
  refine sx_get EE (hS.1.ob (kc_n2 hC) (kc_o2 hC)) rfl i_Ed 6 (by decide) rfl fl_Ed_34 rfl d_Ed_isBelowPrime_16 ?_
  refine lv_bipush (v := nI 31) hx hb d_Ed_isBelowPrime_19 (by decide +kernel) ?_
  refine lv_dup2_11 hx hb d_Ed_isBelowPrime_21 rfl rfl ?_
  refine vx_bald hx hb hG hS hV (kc_a2_6 hC) (by omega) (by decide) d_Ed_isBelowPrime_22 ?_
  refine lv_aload_n hx hb d_Ed_isBelowPrime_23 rfl (lv_at hl 1 rfl) ?_
  refine lv_bipush (v := nI 31) hx hb d_Ed_isBelowPrime_24 (by decide +kernel) ?_
  refine vx_bald hx hb hG hS hV f0 (by omega) (by decide) d_Ed_isBelowPrime_26 ?_
  refine lv_sipush (v := nI 128) hx hb d_Ed_isBelowPrime_27 (by decide +kernel) ?_
  refine lv_iand hx hb d_Ed_isBelowPrime_30 ?_
  refine lv_i2b hx hb d_Ed_isBelowPrime_31 rfl ?_
  refine lv_ior hx hb d_Ed_isBelowPrime_32 ?_
  refine lv_i2b hx hb d_Ed_isBelowPrime_33 rfl ?_
  refine vx_bast hx hb hG hS hV (kc_a2_6 hC) (kc_e2_6 hC) (by omega) (by decide) d_Ed_isBelowPrime_34 (fun H locs X2 eX2 hS hV => ?_)
  refine lv_aload_n hx hb d_Ed_isBelowPrime_35 rfl (lv_at hl 1 rfl) ?_
  refine lv_aload_n hx hb d_Ed_isBelowPrime_36 rfl (lv_at hl 0 rfl) ?_
  refine sx_get EE (hS.1.ob (kc_n2 hC) (kc_o2 hC)) rfl i_Ed 6 (by decide) rfl fl_Ed_34 rfl d_Ed_isBelowPrime_37 ?_
  refine vx_gi (sx_runSN (As := [.ref a0, .ref (kq 2 6)]) (rest := []) EE (v_K_isSameStart (X := X2) (hS.a f0) (hS.a (kc_a2_6 hC)) hV) ln_Ed_176 wn_Ed_176 rfl ⟨rfl, rfl⟩ ⟨Nat.le_of_ble_eq_true rfl, Nat.le_of_ble_eq_true rfl⟩ ⟨Nat.zero_le _, Nat.zero_le _⟩ hl.1 rfl (Nat.le_of_ble_eq_true rfl) d_Ed_isBelowPrime_40) hS (fun H locs X_ eX_ hS hV => ?_)
  subst eX_
  have hp : LF_Ed_isBelowPrime X kq ts a0 = (X2, (LF_K_isSameStart X2 a0 (kq 2 6))) := (by subst eX1 eX2; exact rfl)
  exact hret _ _ _ _ _ (LF_K_isSameStart X2 a0 (kq 2 6)) _ (congrArg Prod.fst hp :) (congrArg Prod.snd hp :) rfl hS hV d_Ed_isBelowPrime_43
def LF_Ed_setRatio (X : vM) (kq : Nat → Nat → Nat) (ts : Nat → Nat) : vM := (let X1 : vM := (LF_F_set X (kq 2 10) (1 : Int64)); let X2 : vM := (LF_F_square X1 (kq 2 9) (kq 2 13)); let X3 : vM := (LF_F_times X2 (kq 2 8) (kq 2 9) (ts 3)); let X4 : vM := (LF_F_subtract X3 (kq 2 7) (kq 2 9) (kq 2 10)); let X5 : vM := (LF_F_add X4 (kq 2 8) (kq 2 8) (kq 2 10)); let X6 : vM := (LF_F_square X5 (kq 2 9) (kq 2 8)); let X7 : vM := (LF_F_times X6 (kq 2 9) (kq 2 9) (kq 2 8)); let X8 : vM := (LF_F_square X7 (kq 2 10) (kq 2 9)); let X9 : vM := (LF_F_times X8 (kq 2 10) (kq 2 10) (kq 2 8)); let X10 : vM := (LF_F_times X9 (kq 2 10) (kq 2 10) (kq 2 7)); X10)
abbrev rm_Ed_setRatio : Room := { frames := 2, cells := 0, slots := 0, locals := 99 }
set_option maxHeartbeats 4000000 in
set_option maxRecDepth 100000 in
theorem v_Ed_setRatio {l : Launch} {D : va_G} {g : ClassId → FieldType → Prop} {E : Nat → Prop} {H0 : Heap} {X : vM} {kq : Nat → Nat → Nat} {ts : Nat → Nat} (hC : kc_ D g E H0 kq ts) (hV : mm g H0 = X) : Met l y_Ed_setRatio (.code y_Ed_setRatio b_Ed_setRatio 1 none :: G_) rm_Ed_setRatio (sx_Pc [.ref (kq 2 99)] H0 D g) (vx_Qv g E H0 (LF_Ed_setRatio X kq ts)) 0 0 E := by
  refine vx_mv (own := R_Ed) (by decide) rfl rfl rfl (Nat.le_of_ble_eq_true rfl) ?_
  intro p e s m args below meth c Q ls EE hl hret
  obtain ⟨hx, hb, hml, hown, hts, hG, hK⟩ := id EE
  have hS : sx_S g E E H0 H0 [] := sx_S.rf
  have hz := hC.2.2.2.2
  have hl : lv_has ls 1 [(0, .ref (kq 2 99))] := hl
  refine lv_aload_n hx hb d_Ed_setRatio_0 rfl (lv_at hl 0 rfl) ?_
  refine sx_get EE (hS.1.ob (kc_n2 hC) (kc_o2 hC)) rfl i_Ed 10 (by decide) rfl fl_Ed_49 rfl d_Ed_setRatio_1 ?_
  refine lv_lconst (v := 1) hx hb d_Ed_setRatio_4 (by decide +kernel) ?_
  refine vx_gv (sx_runS (As := [.ref (kq 2 10), .long (1 : Int64)]) (rest := []) EE (v_F_set (X := X) (hS.a (kc_a2_10 hC)) (hS.1.2.2.2 _ _ (kc_l2_10 hC)) (kc_e2_10 hC) hV) w_Ed_180 rfl ⟨rfl, rfl⟩ ⟨Nat.le_of_ble_eq_true rfl, Nat.le_of_ble_eq_true rfl⟩ ⟨Nat.zero_le _, Nat.zero_le _⟩ hl.1 rfl (Nat.le_of_ble_eq_true rfl) d_Ed_setRatio_5) hS (fun H locs X1 eX1 hS hV => ?_)
  refine lv_aload_n hx hb d_Ed_setRatio_8 rfl (lv_at hl 0 rfl) ?_
  refine sx_get EE (hS.1.ob (kc_n2 hC) (kc_o2 hC)) rfl i_Ed 9 (by decide) rfl fl_Ed_46 rfl d_Ed_setRatio_9 ?_
  refine lv_aload_n hx hb d_Ed_setRatio_12 rfl (lv_at hl 0 rfl) ?_
  refine sx_get EE (hS.1.ob (kc_n2 hC) (kc_o2 hC)) rfl i_Ed 13 (by decide) rfl fl_Ed_58 rfl d_Ed_setRatio_13 ?_
  refine vx_gv (sx_runS (As := [.ref (kq 2 9), .ref (kq 2 13)]) (rest := []) EE (v_F_square (X := X1) (hS.a (kc_a2_9 hC)) (kc_e2_9 hC) (hS.a (kc_a2_13 hC)) hV) w_Ed_127 rfl ⟨rfl, rfl⟩ ⟨Nat.le_of_ble_eq_true rfl, Nat.le_of_ble_eq_true rfl⟩ ⟨Nat.zero_le _, Nat.zero_le _⟩ hl.1 rfl (Nat.le_of_ble_eq_true rfl) d_Ed_setRatio_16) hS (fun H locs X2 eX2 hS hV => ?_)
  refine lv_aload_n hx hb d_Ed_setRatio_19 rfl (lv_at hl 0 rfl) ?_
  refine sx_get EE (hS.1.ob (kc_n2 hC) (kc_o2 hC)) rfl i_Ed 8 (by decide) rfl fl_Ed_43 rfl d_Ed_setRatio_20 ?_
  refine lv_aload_n hx hb d_Ed_setRatio_23 rfl (lv_at hl 0 rfl) ?_
  refine sx_get EE (hS.1.ob (kc_n2 hC) (kc_o2 hC)) rfl i_Ed 9 (by decide) rfl fl_Ed_46 rfl d_Ed_setRatio_24 ?_
  obtain ⟨z0_, ⟨cz_, z1_, z2_, z3_⟩, z4_⟩ := (hz.kept hS.1) 3 (by decide)
  refine sx_gets EE (hK.2.2.1 3 (by decide)) z1_ z2_ z3_ fl_Ed_183 d_Ed_setRatio_27 ?_
  refine vx_gv (sx_runS (As := [.ref (kq 2 8), .ref (kq 2 9), .ref (ts 3)]) (rest := []) EE (v_F_times (X := X2) (hS.a (kc_a2_8 hC)) (kc_e2_8 hC) (hS.a (kc_a2_9 hC)) (hS.a (st_a3 hz)) hV) w_Ed_104 rfl ⟨rfl, rfl⟩ ⟨Nat.le_of_ble_eq_true rfl, Nat.le_of_ble_eq_true rfl⟩ ⟨Nat.zero_le _, Nat.zero_le _⟩ hl.1 rfl (Nat.le_of_ble_eq_true rfl) d_Ed_setRatio_30) hS (fun H locs X3 eX3 hS hV => ?_)
  refine lv_aload_n hx hb d_Ed_setRatio_33 rfl (lv_at hl 0 rfl) ?_
  refine sx_get EE (hS.1.ob (kc_n2 hC) (kc_o2 hC)) rfl i_Ed 7 (by decide) rfl fl_Ed_39 rfl d_Ed_setRatio_34 ?_
  refine lv_aload_n hx hb d_Ed_setRatio_37 rfl (lv_at hl 0 rfl) ?_
  refine sx_get EE (hS.1.ob (kc_n2 hC) (kc_o2 hC)) rfl i_Ed 9 (by decide) rfl fl_Ed_46 rfl d_Ed_setRatio_38 ?_
  refine lv_aload_n hx hb d_Ed_setRatio_41 rfl (lv_at hl 0 rfl) ?_
  refine sx_get EE (hS.1.ob (kc_n2 hC) (kc_o2 hC)) rfl i_Ed 10 (by decide) rfl fl_Ed_49 rfl d_Ed_setRatio_42 ?_
  refine vx_gv (sx_runS (As := [.ref (kq 2 7), .ref (kq 2 9), .ref (kq 2 10)]) (rest := []) EE (v_F_subtract (X := X3) (hS.a (kc_a2_7 hC)) (kc_e2_7 hC) (hS.a (kc_a2_9 hC)) (hS.a (kc_a2_10 hC)) hV) w_Ed_97 rfl ⟨rfl, rfl⟩ ⟨Nat.le_of_ble_eq_true rfl, Nat.le_of_ble_eq_true rfl⟩ ⟨Nat.zero_le _, Nat.zero_le _⟩ hl.1 rfl (Nat.le_of_ble_eq_true rfl) d_Ed_setRatio_45) hS (fun H locs X4 eX4 hS hV => ?_)
  refine lv_aload_n hx hb d_Ed_setRatio_48 rfl (lv_at hl 0 rfl) ?_
  refine sx_get EE (hS.1.ob (kc_n2 hC) (kc_o2 hC)) rfl i_Ed 8 (by decide) rfl fl_Ed_43 rfl d_Ed_setRatio_49 ?_
  refine lv_aload_n hx hb d_Ed_setRatio_52 rfl (lv_at hl 0 rfl) ?_
  refine sx_get EE (hS.1.ob (kc_n2 hC) (kc_o2 hC)) rfl i_Ed 8 (by decide) rfl fl_Ed_43 rfl d_Ed_setRatio_53 ?_
  refine lv_aload_n hx hb d_Ed_setRatio_56 rfl (lv_at hl 0 rfl) ?_
  refine sx_get EE (hS.1.ob (kc_n2 hC) (kc_o2 hC)) rfl i_Ed 10 (by decide) rfl fl_Ed_49 rfl d_Ed_setRatio_57 ?_
  refine vx_gv (sx_runS (As := [.ref (kq 2 8), .ref (kq 2 8), .ref (kq 2 10)]) (rest := []) EE (v_F_add (X := X4) (hS.a (kc_a2_8 hC)) (kc_e2_8 hC) (hS.a (kc_a2_8 hC)) (hS.a (kc_a2_10 hC)) hV) w_Ed_107 rfl ⟨rfl, rfl⟩ ⟨Nat.le_of_ble_eq_true rfl, Nat.le_of_ble_eq_true rfl⟩ ⟨Nat.zero_le _, Nat.zero_le _⟩ hl.1 rfl (Nat.le_of_ble_eq_true rfl) d_Ed_setRatio_60) hS (fun H locs X5 eX5 hS hV => ?_)
  refine lv_aload_n hx hb d_Ed_setRatio_63 rfl (lv_at hl 0 rfl) ?_
  refine sx_get EE (hS.1.ob (kc_n2 hC) (kc_o2 hC)) rfl i_Ed 9 (by decide) rfl fl_Ed_46 rfl d_Ed_setRatio_64 ?_
  refine lv_aload_n hx hb d_Ed_setRatio_67 rfl (lv_at hl 0 rfl) ?_
  refine sx_get EE (hS.1.ob (kc_n2 hC) (kc_o2 hC)) rfl i_Ed 8 (by decide) rfl fl_Ed_43 rfl d_Ed_setRatio_68 ?_
  refine vx_gv (sx_runS (As := [.ref (kq 2 9), .ref (kq 2 8)]) (rest := []) EE (v_F_square (X := X5) (hS.a (kc_a2_9 hC)) (kc_e2_9 hC) (hS.a (kc_a2_8 hC)) hV) w_Ed_127 rfl ⟨rfl, rfl⟩ ⟨Nat.le_of_ble_eq_true rfl, Nat.le_of_ble_eq_true rfl⟩ ⟨Nat.zero_le _, Nat.zero_le _⟩ hl.1 rfl (Nat.le_of_ble_eq_true rfl) d_Ed_setRatio_71) hS (fun H locs X6 eX6 hS hV => ?_)
  refine lv_aload_n hx hb d_Ed_setRatio_74 rfl (lv_at hl 0 rfl) ?_
  refine sx_get EE (hS.1.ob (kc_n2 hC) (kc_o2 hC)) rfl i_Ed 9 (by decide) rfl fl_Ed_46 rfl d_Ed_setRatio_75 ?_
  refine lv_aload_n hx hb d_Ed_setRatio_78 rfl (lv_at hl 0 rfl) ?_
  refine sx_get EE (hS.1.ob (kc_n2 hC) (kc_o2 hC)) rfl i_Ed 9 (by decide) rfl fl_Ed_46 rfl d_Ed_setRatio_79 ?_
  refine lv_aload_n hx hb d_Ed_setRatio_82 rfl (lv_at hl 0 rfl) ?_
  refine sx_get EE (hS.1.ob (kc_n2 hC) (kc_o2 hC)) rfl i_Ed 8 (by decide) rfl fl_Ed_43 rfl d_Ed_setRatio_83 ?_
  refine vx_gv (sx_runS (As := [.ref (kq 2 9), .ref (kq 2 9), .ref (kq 2 8)]) (rest := []) EE (v_F_times (X := X6) (hS.a (kc_a2_9 hC)) (kc_e2_9 hC) (hS.a (kc_a2_9 hC)) (hS.a (kc_a2_8 hC)) hV) w_Ed_104 rfl ⟨rfl, rfl⟩ ⟨Nat.le_of_ble_eq_true rfl, Nat.le_of_ble_eq_true rfl⟩ ⟨Nat.zero_le _, Nat.zero_le _⟩ hl.1 rfl (Nat.le_of_ble_eq_true rfl) d_Ed_setRatio_86) hS (fun H locs X7 eX7 hS hV => ?_)
  refine lv_aload_n hx hb d_Ed_setRatio_89 rfl (lv_at hl 0 rfl) ?_
  refine sx_get EE (hS.1.ob (kc_n2 hC) (kc_o2 hC)) rfl i_Ed 10 (by decide) rfl fl_Ed_49 rfl d_Ed_setRatio_90 ?_
  refine lv_aload_n hx hb d_Ed_setRatio_93 rfl (lv_at hl 0 rfl) ?_
  refine sx_get EE (hS.1.ob (kc_n2 hC) (kc_o2 hC)) rfl i_Ed 9 (by decide) rfl fl_Ed_46 rfl d_Ed_setRatio_94 ?_
  refine vx_gv (sx_runS (As := [.ref (kq 2 10), .ref (kq 2 9)]) (rest := []) EE (v_F_square (X := X7) (hS.a (kc_a2_10 hC)) (kc_e2_10 hC) (hS.a (kc_a2_9 hC)) hV) w_Ed_127 rfl ⟨rfl, rfl⟩ ⟨Nat.le_of_ble_eq_true rfl, Nat.le_of_ble_eq_true rfl⟩ ⟨Nat.zero_le _, Nat.zero_le _⟩ hl.1 rfl (Nat.le_of_ble_eq_true rfl) d_Ed_setRatio_97) hS (fun H locs X8 eX8 hS hV => ?_)
  refine lv_aload_n hx hb d_Ed_setRatio_100 rfl (lv_at hl 0 rfl) ?_
  refine sx_get EE (hS.1.ob (kc_n2 hC) (kc_o2 hC)) rfl i_Ed 10 (by decide) rfl fl_Ed_49 rfl d_Ed_setRatio_101 ?_
  refine lv_aload_n hx hb d_Ed_setRatio_104 rfl (lv_at hl 0 rfl) ?_
  refine sx_get EE (hS.1.ob (kc_n2 hC) (kc_o2 hC)) rfl i_Ed 10 (by decide) rfl fl_Ed_49 rfl d_Ed_setRatio_105 ?_
  refine lv_aload_n hx hb d_Ed_setRatio_108 rfl (lv_at hl 0 rfl) ?_
  refine sx_get EE (hS.1.ob (kc_n2 hC) (kc_o2 hC)) rfl i_Ed 8 (by decide) rfl fl_Ed_43 rfl d_Ed_setRatio_109 ?_
  refine vx_gv (sx_runS (As := [.ref (kq 2 10), .ref (kq 2 10), .ref (kq 2 8)]) (rest := []) EE (v_F_times (X := X8) (hS.a (kc_a2_10 hC)) (kc_e2_10 hC) (hS.a (kc_a2_10 hC)) (hS.a (kc_a2_8 hC)) hV) w_Ed_104 rfl ⟨rfl, rfl⟩ ⟨Nat.le_of_ble_eq_true rfl, Nat.le_of_ble_eq_true rfl⟩ ⟨Nat.zero_le _, Nat.zero_le _⟩ hl.1 rfl (Nat.le_of_ble_eq_true rfl) d_Ed_setRatio_112) hS (fun H locs X9 eX9 hS hV => ?_)
  refine lv_aload_n hx hb d_Ed_setRatio_115 rfl (lv_at hl 0 rfl) ?_
  refine sx_get EE (hS.1.ob (kc_n2 hC) (kc_o2 hC)) rfl i_Ed 10 (by decide) rfl fl_Ed_49 rfl d_Ed_setRatio_116 ?_
  refine lv_aload_n hx hb d_Ed_setRatio_119 rfl (lv_at hl 0 rfl) ?_
  refine sx_get EE (hS.1.ob (kc_n2 hC) (kc_o2 hC)) rfl i_Ed 10 (by decide) rfl fl_Ed_49 rfl d_Ed_setRatio_120 ?_
  refine lv_aload_n hx hb d_Ed_setRatio_123 rfl (lv_at hl 0 rfl) ?_
  refine sx_get EE (hS.1.ob (kc_n2 hC) (kc_o2 hC)) rfl i_Ed 7 (by decide) rfl fl_Ed_39 rfl d_Ed_setRatio_124 ?_
  refine vx_gv (sx_runS (As := [.ref (kq 2 10), .ref (kq 2 10), .ref (kq 2 7)]) (rest := []) EE (v_F_times (X := X9) (hS.a (kc_a2_10 hC)) (kc_e2_10 hC) (hS.a (kc_a2_10 hC)) (hS.a (kc_a2_7 hC)) hV) w_Ed_104 rfl ⟨rfl, rfl⟩ ⟨Nat.le_of_ble_eq_true rfl, Nat.le_of_ble_eq_true rfl⟩ ⟨Nat.zero_le _, Nat.zero_le _⟩ hl.1 rfl (Nat.le_of_ble_eq_true rfl) d_Ed_setRatio_127) hS (fun H locs X10 eX10 hS hV => ?_)
  exact hret _ _ _ _ _ (by subst eX1 eX2 eX3 eX4 eX5 eX6 eX7 eX8 eX9 eX10; exact rfl) hS hV d_Ed_setRatio_130
def LF_Ed_isMultipleOfPrime (X : vM) (kq : Nat → Nat → Nat) (ts : Nat → Nat) (a0 : Nat) : vM × Bool := (let X1 : vM := (LF_F_write X kq ts (kq 2 6) a0); (X1, (LF_K_isZeroStart X1 (kq 2 6))))
abbrev rm_Ed_isMultipleOfPrime : Room := { frames := 3, cells := 0, slots := 0, locals := 155 }
set_option maxHeartbeats 4000000 in
set_option maxRecDepth 100000 in
theorem v_Ed_isMultipleOfPrime {l : Launch} {D : va_G} {g : ClassId → FieldType → Prop} {E : Nat → Prop} {H0 : Heap} {X : vM} {kq : Nat → Nat → Nat} {ts : Nat → Nat} {a0 : Nat} (hC : kc_ D g E H0 kq ts) (f0 : sx_A g .long H0 a0 10) (hV : mm g H0 = X) : Met l y_Ed_isMultipleOfPrime (.code y_Ed_isMultipleOfPrime b_Ed_isMultipleOfPrime 2 (some .boolean) :: G_) rm_Ed_isMultipleOfPrime (sx_Pc [.ref (kq 2 99), .ref a0] H0 D g) (vx_Qi g E H0 (LF_Ed_isMultipleOfPrime X kq ts a0).1 (nI ((LF_Ed_isMultipleOfPrime X kq ts a0).2).toNat)) 0 0 E := by
  refine vx_mz (own := R_Ed) (by decide) rfl rfl rfl (Nat.le_of_ble_eq_true rfl) ?_
  intro p e s m args below meth c Q ls EE hl hret
  obtain ⟨hx, hb, hml, hown, hts, hG, hK⟩ := id EE
  have hS : sx_S g E E H0 H0 [] := sx_S.rf
  have hz := hC.2.2.2.2
  have hl : lv_has ls 2 [(0, .ref (kq 2 99)), (1, .ref a0)] := hl
  refine lv_aload_n hx hb d_Ed_isMultipleOfPrime_0 rfl (lv_at hl 0 rfl) ?_
  refine sx_get EE (hS.1.ob (kc_n2 hC) (kc_o2 hC)) rfl i_Ed 0 (by decide) rfl fl_Ed_64 rfl d_Ed_isMultipleOfPrime_1 ?_
  refine lv_aload_n hx hb d_Ed_isMultipleOfPrime_4 rfl (lv_at hl 0 rfl) ?_
  refine sx_get EE (hS.1.ob (kc_n2 hC) (kc_o2 hC)) rfl i_Ed 6 (by decide) rfl fl_Ed_34 rfl d_Ed_isMultipleOfPrime_5 ?_
  refine lv_aload_n hx hb d_Ed_isMultipleOfPrime_8 rfl (lv_at hl 1 rfl) ?_
  refine vx_gv (sx_runV (As := [.ref (kq 2 6), .ref a0]) (rest := []) EE (hS.1.ob (kc_n0 hC) (kc_o0 hC)) rfl rfl (v_F_write (X := X) (hC.kept hS.1) (hS.a (kc_a2_6 hC)) (kc_e2_6 hC) (hS.a f0) hV) w_Ed_150 rfl ⟨rfl, rfl⟩ ⟨Nat.le_of_ble_eq_true rfl, Nat.le_of_ble_eq_true rfl⟩ ⟨Nat.zero_le _, Nat.zero_le _⟩ hl.1 rfl (Nat.le_of_ble_eq_true rfl) d_Ed_isMultipleOfPrime_9) hS (fun H locs X1 eX1 hS hV => ?_)
  refine lv_aload_n hx hb d_Ed_isMultipleOfPrime_12 rfl (lv_at hl 0 rfl) ?_
  refine sx_get EE (hS.1.ob (kc_n2 hC) (kc_o2 hC)) rfl i_Ed 6 (by decide) rfl fl_Ed_34 rfl d_Ed_isMultipleOfPrime_13 ?_
  refine vx_gi (sx_runSN (As := [.ref (kq 2 6)]) (rest := []) EE (v_K_isZeroStart (X := X1) (hS.a (kc_a2_6 hC)) hV) ln_Ed_193 wn_Ed_193 rfl ⟨rfl, rfl⟩ ⟨Nat.le_of_ble_eq_true rfl, Nat.le_of_ble_eq_true rfl⟩ ⟨Nat.zero_le _, Nat.zero_le _⟩ hl.1 rfl (Nat.le_of_ble_eq_true rfl) d_Ed_isMultipleOfPrime_16) hS (fun H locs X_ eX_ hS hV => ?_)
  subst eX_
  have hp : LF_Ed_isMultipleOfPrime X kq ts a0 = (X1, (LF_K_isZeroStart X1 (kq 2 6))) := (by subst eX1; exact rfl)
  exact hret _ _ _ _ _ (LF_K_isZeroStart X1 (kq 2 6)) _ (congrArg Prod.fst hp :) (congrArg Prod.snd hp :) rfl hS hV d_Ed_isMultipleOfPrime_19
def LF_Ed_mendRoot (X : vM) (kq : Nat → Nat → Nat) (ts : Nat → Nat) : vM × Bool := (let X1 : vM := (LF_F_square X (kq 2 9) (kq 2 14)); let X2 : vM := (LF_F_times X1 (kq 2 9) (kq 2 9) (kq 2 8)); let X3 : vM := (LF_F_subtract X2 (kq 2 10) (kq 2 9) (kq 2 7)); let X4 : vM := (LF_Ed_isMultipleOfPrime X3 kq ts (kq 2 10)).1; if ((LF_Ed_isMultipleOfPrime X3 kq ts (kq 2 10)).2) = true then (X4, true) else (let X6 : vM := (LF_F_add X4 (kq 2 10) (kq 2 9) (kq 2 7)); let X7 : vM := (LF_F_times X6 (kq 2 14) (kq 2 14) (ts 4)); let X8 : vM := (LF_Ed_isMultipleOfPrime X7 kq ts (kq 2 10)).1; (X8, (LF_Ed_isMultipleOfPrime X7 kq ts (kq 2 10)).2)))
abbrev rm_Ed_mendRoot : Room := { frames := 4, cells := 0, slots := 0, locals := 176 }
set_option maxHeartbeats 4000000 in
set_option maxRecDepth 100000 in
theorem v_Ed_mendRoot {l : Launch} {D : va_G} {g : ClassId → FieldType → Prop} {E : Nat → Prop} {H0 : Heap} {X : vM} {kq : Nat → Nat → Nat} {ts : Nat → Nat} (hC : kc_ D g E H0 kq ts) (hV : mm g H0 = X) : Met l y_Ed_mendRoot (.code y_Ed_mendRoot b_Ed_mendRoot 1 (some .boolean) :: G_) rm_Ed_mendRoot (sx_Pc [.ref (kq 2 99)] H0 D g) (vx_Qi g E H0 (LF_Ed_mendRoot X kq ts).1 (nI ((LF_Ed_mendRoot X kq ts).2).toNat)) 0 0 E := by
  refine vx_mz (own := R_Ed) (by decide) rfl rfl rfl (Nat.le_of_ble_eq_true rfl) ?_
  intro p e s m args below meth c Q ls EE hl hret
  obtain ⟨hx, hb, hml, hown, hts, hG, hK⟩ := id EE
  have hS : sx_S g E E H0 H0 [] := sx_S.rf
  have hz := hC.2.2.2.2
  have hl : lv_has ls 1 [(0, .ref (kq 2 99))] := hl
  refine lv_aload_n hx hb d_Ed_mendRoot_0 rfl (lv_at hl 0 rfl) ?_
  refine sx_get EE (hS.1.ob (kc_n2 hC) (kc_o2 hC)) rfl i_Ed 9 (by decide) rfl fl_Ed_46 rfl d_Ed_mendRoot_1 ?_
  refine lv_aload_n hx hb d_Ed_mendRoot_4 rfl (lv_at hl 0 rfl) ?_
  refine sx_get EE (hS.1.ob (kc_n2 hC) (kc_o2 hC)) rfl i_Ed 14 (by decide) rfl fl_Ed_61 rfl d_Ed_mendRoot_5 ?_
  refine vx_gv (sx_runS (As := [.ref (kq 2 9), .ref (kq 2 14)]) (rest := []) EE (v_F_square (X := X) (hS.a (kc_a2_9 hC)) (kc_e2_9 hC) (hS.a (kc_a2_14 hC)) hV) w_Ed_127 rfl ⟨rfl, rfl⟩ ⟨Nat.le_of_ble_eq_true rfl, Nat.le_of_ble_eq_true rfl⟩ ⟨Nat.zero_le _, Nat.zero_le _⟩ hl.1 rfl (Nat.le_of_ble_eq_true rfl) d_Ed_mendRoot_8) hS (fun H locs X1 eX1 hS hV => ?_)
  refine lv_aload_n hx hb d_Ed_mendRoot_11 rfl (lv_at hl 0 rfl) ?_
  refine sx_get EE (hS.1.ob (kc_n2 hC) (kc_o2 hC)) rfl i_Ed 9 (by decide) rfl fl_Ed_46 rfl d_Ed_mendRoot_12 ?_
  refine lv_aload_n hx hb d_Ed_mendRoot_15 rfl (lv_at hl 0 rfl) ?_
  refine sx_get EE (hS.1.ob (kc_n2 hC) (kc_o2 hC)) rfl i_Ed 9 (by decide) rfl fl_Ed_46 rfl d_Ed_mendRoot_16 ?_
  refine lv_aload_n hx hb d_Ed_mendRoot_19 rfl (lv_at hl 0 rfl) ?_
  refine sx_get EE (hS.1.ob (kc_n2 hC) (kc_o2 hC)) rfl i_Ed 8 (by decide) rfl fl_Ed_43 rfl d_Ed_mendRoot_20 ?_
  refine vx_gv (sx_runS (As := [.ref (kq 2 9), .ref (kq 2 9), .ref (kq 2 8)]) (rest := []) EE (v_F_times (X := X1) (hS.a (kc_a2_9 hC)) (kc_e2_9 hC) (hS.a (kc_a2_9 hC)) (hS.a (kc_a2_8 hC)) hV) w_Ed_104 rfl ⟨rfl, rfl⟩ ⟨Nat.le_of_ble_eq_true rfl, Nat.le_of_ble_eq_true rfl⟩ ⟨Nat.zero_le _, Nat.zero_le _⟩ hl.1 rfl (Nat.le_of_ble_eq_true rfl) d_Ed_mendRoot_23) hS (fun H locs X2 eX2 hS hV => ?_)
  refine lv_aload_n hx hb d_Ed_mendRoot_26 rfl (lv_at hl 0 rfl) ?_
  refine sx_get EE (hS.1.ob (kc_n2 hC) (kc_o2 hC)) rfl i_Ed 10 (by decide) rfl fl_Ed_49 rfl d_Ed_mendRoot_27 ?_
  refine lv_aload_n hx hb d_Ed_mendRoot_30 rfl (lv_at hl 0 rfl) ?_
  refine sx_get EE (hS.1.ob (kc_n2 hC) (kc_o2 hC)) rfl i_Ed 9 (by decide) rfl fl_Ed_46 rfl d_Ed_mendRoot_31 ?_
  refine lv_aload_n hx hb d_Ed_mendRoot_34 rfl (lv_at hl 0 rfl) ?_
  refine sx_get EE (hS.1.ob (kc_n2 hC) (kc_o2 hC)) rfl i_Ed 7 (by decide) rfl fl_Ed_39 rfl d_Ed_mendRoot_35 ?_
  refine vx_gv (sx_runS (As := [.ref (kq 2 10), .ref (kq 2 9), .ref (kq 2 7)]) (rest := []) EE (v_F_subtract (X := X2) (hS.a (kc_a2_10 hC)) (kc_e2_10 hC) (hS.a (kc_a2_9 hC)) (hS.a (kc_a2_7 hC)) hV) w_Ed_97 rfl ⟨rfl, rfl⟩ ⟨Nat.le_of_ble_eq_true rfl, Nat.le_of_ble_eq_true rfl⟩ ⟨Nat.zero_le _, Nat.zero_le _⟩ hl.1 rfl (Nat.le_of_ble_eq_true rfl) d_Ed_mendRoot_38) hS (fun H locs X3 eX3 hS hV => ?_)
  refine lv_aload_n hx hb d_Ed_mendRoot_41 rfl (lv_at hl 0 rfl) ?_
  refine lv_aload_n hx hb d_Ed_mendRoot_42 rfl (lv_at hl 0 rfl) ?_
  refine sx_get EE (hS.1.ob (kc_n2 hC) (kc_o2 hC)) rfl i_Ed 10 (by decide) rfl fl_Ed_49 rfl d_Ed_mendRoot_43 ?_
  refine vx_gi (sx_runV (As := [.ref (kq 2 10)]) (rest := []) EE (hS.1.ob (kc_n2 hC) (kc_o2 hC)) rfl rfl (v_Ed_isMultipleOfPrime (X := X3) (hC.kept hS.1) (hS.a (kc_a2_10 hC)) hV) w_Ed_186 rfl ⟨rfl, rfl⟩ ⟨Nat.le_of_ble_eq_true rfl, Nat.le_of_ble_eq_true rfl⟩ ⟨Nat.zero_le _, Nat.zero_le _⟩ hl.1 rfl (Nat.le_of_ble_eq_true rfl) d_Ed_mendRoot_46) hS (fun H locs X4 eX4 hS hV => ?_)
  refine lv_if_eq (tgt := 54) hx hb d_Ed_mendRoot_49 (by decide) (fun q49_4 => ?_) (fun q49_4 => ?_)
  · skip
    have q49_4 := vx_bf (vx_b0 q49_4)
    refine lv_aload_n hx hb d_Ed_mendRoot_54 rfl (lv_at hl 0 rfl) ?_
    refine sx_get EE (hS.1.ob (kc_n2 hC) (kc_o2 hC)) rfl i_Ed 10 (by decide) rfl fl_Ed_49 rfl d_Ed_mendRoot_55 ?_
    refine lv_aload_n hx hb d_Ed_mendRoot_58 rfl (lv_at hl 0 rfl) ?_
    refine sx_get EE (hS.1.ob (kc_n2 hC) (kc_o2 hC)) rfl i_Ed 9 (by decide) rfl fl_Ed_46 rfl d_Ed_mendRoot_59 ?_
    refine lv_aload_n hx hb d_Ed_mendRoot_62 rfl (lv_at hl 0 rfl) ?_
    refine sx_get EE (hS.1.ob (kc_n2 hC) (kc_o2 hC)) rfl i_Ed 7 (by decide) rfl fl_Ed_39 rfl d_Ed_mendRoot_63 ?_
    refine vx_gv (sx_runS (As := [.ref (kq 2 10), .ref (kq 2 9), .ref (kq 2 7)]) (rest := []) EE (v_F_add (X := X4) (hS.a (kc_a2_10 hC)) (kc_e2_10 hC) (hS.a (kc_a2_9 hC)) (hS.a (kc_a2_7 hC)) hV) w_Ed_107 rfl ⟨rfl, rfl⟩ ⟨Nat.le_of_ble_eq_true rfl, Nat.le_of_ble_eq_true rfl⟩ ⟨Nat.zero_le _, Nat.zero_le _⟩ hl.1 rfl (Nat.le_of_ble_eq_true rfl) d_Ed_mendRoot_66) hS (fun H locs X6 eX6 hS hV => ?_)
    refine lv_aload_n hx hb d_Ed_mendRoot_69 rfl (lv_at hl 0 rfl) ?_
    refine sx_get EE (hS.1.ob (kc_n2 hC) (kc_o2 hC)) rfl i_Ed 14 (by decide) rfl fl_Ed_61 rfl d_Ed_mendRoot_70 ?_
    refine lv_aload_n hx hb d_Ed_mendRoot_73 rfl (lv_at hl 0 rfl) ?_
    refine sx_get EE (hS.1.ob (kc_n2 hC) (kc_o2 hC)) rfl i_Ed 14 (by decide) rfl fl_Ed_61 rfl d_Ed_mendRoot_74 ?_
    obtain ⟨z0_, ⟨cz_, z1_, z2_, z3_⟩, z4_⟩ := (hz.kept hS.1) 4 (by decide)
    refine sx_gets EE (hK.2.2.1 4 (by decide)) z1_ z2_ z3_ fl_Ed_190 d_Ed_mendRoot_77 ?_
    refine vx_gv (sx_runS (As := [.ref (kq 2 14), .ref (kq 2 14), .ref (ts 4)]) (rest := []) EE (v_F_times (X := X6) (hS.a (kc_a2_14 hC)) (kc_e2_14 hC) (hS.a (kc_a2_14 hC)) (hS.a (st_a4 hz)) hV) w_Ed_104 rfl ⟨rfl, rfl⟩ ⟨Nat.le_of_ble_eq_true rfl, Nat.le_of_ble_eq_true rfl⟩ ⟨Nat.zero_le _, Nat.zero_le _⟩ hl.1 rfl (Nat.le_of_ble_eq_true rfl) d_Ed_mendRoot_80) hS (fun H locs X7 eX7 hS hV => ?_)
    refine lv_aload_n hx hb d_Ed_mendRoot_83 rfl (lv_at hl 0 rfl) ?_
    refine lv_aload_n hx hb d_Ed_mendRoot_84 rfl (lv_at hl 0 rfl) ?_
    refine sx_get EE (hS.1.ob (kc_n2 hC) (kc_o2 hC)) rfl i_Ed 10 (by decide) rfl fl_Ed_49 rfl d_Ed_mendRoot_85 ?_
    refine vx_gi (sx_runV (As := [.ref (kq 2 10)]) (rest := []) EE (hS.1.ob (kc_n2 hC) (kc_o2 hC)) rfl rfl (v_Ed_isMultipleOfPrime (X := X7) (hC.kept hS.1) (hS.a (kc_a2_10 hC)) hV) w_Ed_186 rfl ⟨rfl, rfl⟩ ⟨Nat.le_of_ble_eq_true rfl, Nat.le_of_ble_eq_true rfl⟩ ⟨Nat.zero_le _, Nat.zero_le _⟩ hl.1 rfl (Nat.le_of_ble_eq_true rfl) d_Ed_mendRoot_88) hS (fun H locs X8 eX8 hS hV => ?_)
    have hp : LF_Ed_mendRoot X kq ts = (X8, (LF_Ed_isMultipleOfPrime X7 kq ts (kq 2 10)).2) := (by subst eX1 eX2 eX3 eX4 eX6 eX7 eX8; exact (vx_n q49_4 rfl))
    exact hret _ _ _ _ _ ((LF_Ed_isMultipleOfPrime X7 kq ts (kq 2 10)).2) _ (congrArg Prod.fst hp :) (congrArg Prod.snd hp :) rfl hS hV d_Ed_mendRoot_91
  · skip
    have q49_4 := vx_b1 q49_4
    refine lv_iconst (v := nI 1) hx hb d_Ed_mendRoot_52 (by decide +kernel) ?_
    have hp : LF_Ed_mendRoot X kq ts = (X4, true) := (by subst eX1 eX2 eX3 eX4; exact (vx_p q49_4 rfl))
    exact hret _ _ _ _ _ true _ (congrArg Prod.fst hp :) (congrArg Prod.snd hp :) rfl hS hV d_Ed_mendRoot_53
def LF_Ed_takeSign (X : vM) (kq : Nat → Nat → Nat) (ts : Nat → Nat) (v0 : Int32) : vM × Bool := (let X1 : vM := (LF_F_write X kq ts (kq 2 6) (kq 2 14)); if v0 = (nI 1) then (if (LF_K_isZeroStart X1 (kq 2 6)) = true then (X1, false) else (let J11 : vM := if ((X1.2 (kq 2 6) 0) &&& (nI 1)) = v0 then X1 else (let X10 : vM := (LF_F_negate X1 (kq 2 14) (kq 2 14)); X10); (J11, true))) else (let J5 : vM := if ((X1.2 (kq 2 6) 0) &&& (nI 1)) = v0 then X1 else (let X4 : vM := (LF_F_negate X1 (kq 2 14) (kq 2 14)); X4); (J5, true)))
abbrev rm_Ed_takeSign : Room := { frames := 3, cells := 0, slots := 0, locals := 155 }
set_option maxHeartbeats 4000000 in
set_option maxRecDepth 100000 in
theorem v_Ed_takeSign {l : Launch} {D : va_G} {g : ClassId → FieldType → Prop} {E : Nat → Prop} {H0 : Heap} {X : vM} {kq : Nat → Nat → Nat} {ts : Nat → Nat} {v0 : Int32} (hC : kc_ D g E H0 kq ts) (hV : mm g H0 = X) : Met l y_Ed_takeSign (.code y_Ed_takeSign b_Ed_takeSign 2 (some .boolean) :: G_) rm_Ed_takeSign (sx_Pc [.ref (kq 2 99), .int v0] H0 D g) (vx_Qi g E H0 (LF_Ed_takeSign X kq ts v0).1 (nI ((LF_Ed_takeSign X kq ts v0).2).toNat)) 0 0 E := by
  refine vx_mz (own := R_Ed) (by decide) rfl rfl rfl (Nat.le_of_ble_eq_true rfl) ?_
  intro p e s m args below meth c Q ls EE hl hret
  obtain ⟨hx, hb, hml, hown, hts, hG, hK⟩ := id EE
  have hS : sx_S g E E H0 H0 [] := sx_S.rf
  have hz := hC.2.2.2.2
  have hl : lv_has ls 2 [(0, .ref (kq 2 99)), (1, .int v0)] := hl
  refine lv_aload_n hx hb d_Ed_takeSign_0 rfl (lv_at hl 0 rfl) ?_
  refine sx_get EE (hS.1.ob (kc_n2 hC) (kc_o2 hC)) rfl i_Ed 0 (by decide) rfl fl_Ed_64 rfl d_Ed_takeSign_1 ?_
  refine lv_aload_n hx hb d_Ed_takeSign_4 rfl (lv_at hl 0 rfl) ?_
  refine sx_get EE (hS.1.ob (kc_n2 hC) (kc_o2 hC)) rfl i_Ed 6 (by decide) rfl fl_Ed_34 rfl d_Ed_takeSign_5 ?_
  refine lv_aload_n hx hb d_Ed_takeSign_8 rfl (lv_at hl 0 rfl) ?_
  refine sx_get EE (hS.1.ob (kc_n2 hC) (kc_o2 hC)) rfl i_Ed 14 (by decide) rfl fl_Ed_61 rfl d_Ed_takeSign_9 ?_
  refine vx_gv (sx_runV (As := [.ref (kq 2 6), .ref (kq 2 14)]) (rest := []) EE (hS.1.ob (kc_n0 hC) (kc_o0 hC)) rfl rfl (v_F_write (X := X) (hC.kept hS.1) (hS.a (kc_a2_6 hC)) (kc_e2_6 hC) (hS.a (kc_a2_14 hC)) hV) w_Ed_150 rfl ⟨rfl, rfl⟩ ⟨Nat.le_of_ble_eq_true rfl, Nat.le_of_ble_eq_true rfl⟩ ⟨Nat.zero_le _, Nat.zero_le _⟩ hl.1 rfl (Nat.le_of_ble_eq_true rfl) d_Ed_takeSign_12) hS (fun H locs X1 eX1 hS hV => ?_)
  refine lv_iload_n hx hb d_Ed_takeSign_15 rfl (lv_at hl 1 rfl) ?_
  refine lv_iconst (v := nI 1) hx hb d_Ed_takeSign_16 (by decide +kernel) ?_
  refine lv_icmp_ne (tgt := 32) hx hb d_Ed_takeSign_17 (by decide) (fun q17_1 => ?_) (fun q17_1 => ?_)
  · skip
    refine lv_aload_n hx hb d_Ed_takeSign_32 rfl (lv_at hl 0 rfl) ?_
    refine sx_get EE (hS.1.ob (kc_n2 hC) (kc_o2 hC)) rfl i_Ed 6 (by decide) rfl fl_Ed_34 rfl d_Ed_takeSign_33 ?_
    refine lv_iconst (v := nI 0) hx hb d_Ed_takeSign_36 (by decide +kernel) ?_
    refine vx_bald hx hb hG hS hV (kc_a2_6 hC) (by omega) (by decide) d_Ed_takeSign_37 ?_
    refine lv_iconst (v := nI 1) hx hb d_Ed_takeSign_38 (by decide +kernel) ?_
    refine lv_iand hx hb d_Ed_takeSign_39 ?_
    refine lv_iload_n hx hb d_Ed_takeSign_40 rfl (lv_at hl 1 rfl) ?_
    have jn55_5 : ∀ (J5 : vM) (H : Heap) (locs : List Loc) (ls : Array Slot), (if ((X1.2 (kq 2 6) 0) &&& (nI 1)) = v0 then X1 else (let X4 : vM := (LF_F_negate X1 (kq 2 14) (kq 2 14)); X4)) = J5 → sx_S g E E H0 H locs → mm g H = J5 → lv_has ls 2 [(0, .ref (kq 2 99)), (1, .int v0)] → W p l e rm_Ed_takeSign s m args below meth c H locs 0 0 Q (F0 m 55 ls []) := by
      intro J5 H locs ls eJ5 hS hV hl
      refine lv_iconst (v := nI 1) hx hb d_Ed_takeSign_55 (by decide +kernel) ?_
      have hp : LF_Ed_takeSign X kq ts v0 = (J5, true) := (by subst eX1 eJ5; exact (vx_n q17_1 rfl))
      exact hret _ _ _ _ _ true _ (congrArg Prod.fst hp :) (congrArg Prod.snd hp :) rfl hS hV d_Ed_takeSign_56
    refine lv_icmp_eq (tgt := 55) hx hb d_Ed_takeSign_41 (by decide) (fun q41_2 => ?_) (fun q41_2 => ?_)
    · skip
      exact jn55_5 X1 _ _ _ (vx_p q41_2 rfl) hS hV (lv_sub hl [0, 1] rfl)
    · skip
      refine lv_aload_n hx hb d_Ed_takeSign_44 rfl (lv_at hl 0 rfl) ?_
      refine sx_get EE (hS.1.ob (kc_n2 hC) (kc_o2 hC)) rfl i_Ed 14 (by decide) rfl fl_Ed_61 rfl d_Ed_takeSign_45 ?_
      refine lv_aload_n hx hb d_Ed_takeSign_48 rfl (lv_at hl 0 rfl) ?_
      refine sx_get EE (hS.1.ob (kc_n2 hC) (kc_o2 hC)) rfl i_Ed 14 (by decide) rfl fl_Ed_61 rfl d_Ed_takeSign_49 ?_
      refine vx_gv (sx_runS (As := [.ref (kq 2 14), .ref (kq 2 14)]) (rest := []) EE (v_F_negate (X := X1) (hS.a (kc_a2_14 hC)) (kc_e2_14 hC) (hS.a (kc_a2_14 hC)) hV) w_Ed_196 rfl ⟨rfl, rfl⟩ ⟨Nat.le_of_ble_eq_true rfl, Nat.le_of_ble_eq_true rfl⟩ ⟨Nat.zero_le _, Nat.zero_le _⟩ hl.1 rfl (Nat.le_of_ble_eq_true rfl) d_Ed_takeSign_52) hS (fun H locs X7 eX7 hS hV => ?_)
      exact jn55_5 X7 _ _ _ (by subst eX7; exact (vx_n q41_2 rfl)) hS hV (lv_sub hl [0, 1] rfl)
  · skip
    refine lv_aload_n hx hb d_Ed_takeSign_20 rfl (lv_at hl 0 rfl) ?_
    refine sx_get EE (hS.1.ob (kc_n2 hC) (kc_o2 hC)) rfl i_Ed 6 (by decide) rfl fl_Ed_34 rfl d_Ed_takeSign_21 ?_
    refine vx_gi (sx_runSN (As := [.ref (kq 2 6)]) (rest := []) EE (v_K_isZeroStart (X := X1) (hS.a (kc_a2_6 hC)) hV) ln_Ed_193 wn_Ed_193 rfl ⟨rfl, rfl⟩ ⟨Nat.le_of_ble_eq_true rfl, Nat.le_of_ble_eq_true rfl⟩ ⟨Nat.zero_le _, Nat.zero_le _⟩ hl.1 rfl (Nat.le_of_ble_eq_true rfl) d_Ed_takeSign_24) hS (fun H locs X_ eX_ hS hV => ?_)
    subst eX_
    refine lv_if_eq (tgt := 32) hx hb d_Ed_takeSign_27 (by decide) (fun q27_7 => ?_) (fun q27_7 => ?_)
    · skip
      have q27_7 := vx_bf (vx_b0 q27_7)
      refine lv_aload_n hx hb d_Ed_takeSign_32 rfl (lv_at hl 0 rfl) ?_
      refine sx_get EE (hS.1.ob (kc_n2 hC) (kc_o2 hC)) rfl i_Ed 6 (by decide) rfl fl_Ed_34 rfl d_Ed_takeSign_33 ?_
      refine lv_iconst (v := nI 0) hx hb d_Ed_takeSign_36 (by decide +kernel) ?_
      refine vx_bald hx hb hG hS hV (kc_a2_6 hC) (by omega) (by decide) d_Ed_takeSign_37 ?_
      refine lv_iconst (v := nI 1) hx hb d_Ed_takeSign_38 (by decide +kernel) ?_
      refine lv_iand hx hb d_Ed_takeSign_39 ?_
      refine lv_iload_n hx hb d_Ed_takeSign_40 rfl (lv_at hl 1 rfl) ?_
      have jn55_11 : ∀ (J11 : vM) (H : Heap) (locs : List Loc) (ls : Array Slot), (if ((X1.2 (kq 2 6) 0) &&& (nI 1)) = v0 then X1 else (let X10 : vM := (LF_F_negate X1 (kq 2 14) (kq 2 14)); X10)) = J11 → sx_S g E E H0 H locs → mm g H = J11 → lv_has ls 2 [(0, .ref (kq 2 99)), (1, .int v0)] → W p l e rm_Ed_takeSign s m args below meth c H locs 0 0 Q (F0 m 55 ls []) := by
        intro J11 H locs ls eJ11 hS hV hl
        refine lv_iconst (v := nI 1) hx hb d_Ed_takeSign_55 (by decide +kernel) ?_
        have hp : LF_Ed_takeSign X kq ts v0 = (J11, true) := (by subst eX1 eJ11; exact (vx_p q17_1 (vx_n q27_7 rfl)))
        exact hret _ _ _ _ _ true _ (congrArg Prod.fst hp :) (congrArg Prod.snd hp :) rfl hS hV d_Ed_takeSign_56
      refine lv_icmp_eq (tgt := 55) hx hb d_Ed_takeSign_41 (by decide) (fun q41_8 => ?_) (fun q41_8 => ?_)
      · skip
        exact jn55_11 X1 _ _ _ (vx_p q41_8 rfl) hS hV (lv_sub hl [0, 1] rfl)
      · skip
        refine lv_aload_n hx hb d_Ed_takeSign_44 rfl (lv_at hl 0 rfl) ?_
        refine sx_get EE (hS.1.ob (kc_n2 hC) (kc_o2 hC)) rfl i_Ed 14 (by decide) rfl fl_Ed_61 rfl d_Ed_takeSign_45 ?_
        refine lv_aload_n hx hb d_Ed_takeSign_48 rfl (lv_at hl 0 rfl) ?_
        refine sx_get EE (hS.1.ob (kc_n2 hC) (kc_o2 hC)) rfl i_Ed 14 (by decide) rfl fl_Ed_61 rfl d_Ed_takeSign_49 ?_
        refine vx_gv (sx_runS (As := [.ref (kq 2 14), .ref (kq 2 14)]) (rest := []) EE (v_F_negate (X := X1) (hS.a (kc_a2_14 hC)) (kc_e2_14 hC) (hS.a (kc_a2_14 hC)) hV) w_Ed_196 rfl ⟨rfl, rfl⟩ ⟨Nat.le_of_ble_eq_true rfl, Nat.le_of_ble_eq_true rfl⟩ ⟨Nat.zero_le _, Nat.zero_le _⟩ hl.1 rfl (Nat.le_of_ble_eq_true rfl) d_Ed_takeSign_52) hS (fun H locs X13 eX13 hS hV => ?_)
        exact jn55_11 X13 _ _ _ (by subst eX13; exact (vx_n q41_8 rfl)) hS hV (lv_sub hl [0, 1] rfl)
    · skip
      have q27_7 := vx_b1 q27_7
      refine lv_iconst (v := nI 0) hx hb d_Ed_takeSign_30 (by decide +kernel) ?_
      have hp : LF_Ed_takeSign X kq ts v0 = (X1, false) := (by subst eX1; exact (vx_p q17_1 (vx_p q27_7 rfl)))
      exact hret _ _ _ _ _ false _ (congrArg Prod.fst hp :) (congrArg Prod.snd hp :) rfl hS hV d_Ed_takeSign_31
def LF_Ed_find (X : vM) (kq : Nat → Nat → Nat) (ts : Nat → Nat) (a0 : Nat) : vM × Bool := (let X1 : vM := (LF_F_read X (kq 2 13) a0 ts); let X2 : vM := (LF_Ed_isBelowPrime X1 kq ts a0).1; if ((LF_Ed_isBelowPrime X1 kq ts a0).2) = true then (let X4 : vM := (LF_Ed_setRatio X2 kq ts); let X5 : vM := (LF_F_raiseForRoot X4 kq ts (kq 2 11) (kq 2 10)); let X6 : vM := (LF_F_times X5 (kq 2 14) (kq 2 7) (kq 2 9)); let X7 : vM := (LF_F_times X6 (kq 2 14) (kq 2 14) (kq 2 11)); let X8 : vM := (LF_Ed_mendRoot X7 kq ts).1; if ((LF_Ed_mendRoot X7 kq ts).2) = true then (let X10 : vM := (LF_Ed_takeSign X8 kq ts (((X8.2 a0 31) >>> ((nI 7) &&& 31)) &&& (nI 1))).1; if ((LF_Ed_takeSign X8 kq ts (((X8.2 a0 31) >>> ((nI 7) &&& 31)) &&& (nI 1))).2) = true then (let X12 : vM := (LF_Pt_setAffine X10 (kq 4) (kq 2 14) (kq 2 13)); (X12, true)) else (X10, false)) else (X8, false)) else (X2, false))
abbrev rm_Ed_find : Room := { frames := 5, cells := 0, slots := 0, locals := 196 }
set_option maxHeartbeats 4000000 in
set_option maxRecDepth 100000 in
theorem v_Ed_find {l : Launch} {D : va_G} {g : ClassId → FieldType → Prop} {E : Nat → Prop} {H0 : Heap} {X : vM} {kq : Nat → Nat → Nat} {ts : Nat → Nat} {a0 : Nat} (hC : kc_ D g E H0 kq ts) (f0 : sx_A g .byte H0 a0 32) (hV : mm g H0 = X) : Met l y_Ed_find (.code y_Ed_find b_Ed_find 2 (some .boolean) :: G_) rm_Ed_find (sx_Pc [.ref (kq 2 99), .ref a0] H0 D g) (vx_Qi g E H0 (LF_Ed_find X kq ts a0).1 (nI ((LF_Ed_find X kq ts a0).2).toNat)) 0 0 E := by
  refine vx_mz (own := R_Ed) (by decide) rfl rfl rfl (Nat.le_of_ble_eq_true rfl) ?_
  intro p e s m args below meth c Q ls EE hl hret
  obtain ⟨hx, hb, hml, hown, hts, hG, hK⟩ := id EE
  have hS : sx_S g E E H0 H0 [] := sx_S.rf
  have hz := hC.2.2.2.2
  have hl : lv_has ls 2 [(0, .ref (kq 2 99)), (1, .ref a0)] := hl
  refine lv_aload_n hx hb d_Ed_find_0 rfl (lv_at hl 0 rfl) ?_
  refine sx_get EE (hS.1.ob (kc_n2 hC) (kc_o2 hC)) rfl i_Ed 13 (by decide) rfl fl_Ed_58 rfl d_Ed_find_1 ?_
  refine lv_aload_n hx hb d_Ed_find_4 rfl (lv_at hl 1 rfl) ?_
  refine vx_gv (sx_runS (As := [.ref (kq 2 13), .ref a0]) (rest := []) EE (v_F_read (X := X) (hS.a (kc_a2_13 hC)) (kc_e2_13 hC) (hS.a f0) (hz.kept hS.1) hV) w_Ed_154 rfl ⟨rfl, rfl⟩ ⟨Nat.le_of_ble_eq_true rfl, Nat.le_of_ble_eq_true rfl⟩ ⟨Nat.zero_le _, Nat.zero_le _⟩ hl.1 rfl (Nat.le_of_ble_eq_true rfl) d_Ed_find_5) hS (fun H locs X1 eX1 hS hV => ?_)
  refine lv_aload_n hx hb d_Ed_find_8 rfl (lv_at hl 0 rfl) ?_
  refine lv_aload_n hx hb d_Ed_find_9 rfl (lv_at hl 1 rfl) ?_
  refine vx_gi (sx_runV (As := [.ref a0]) (rest := []) EE (hS.1.ob (kc_n2 hC) (kc_o2 hC)) rfl rfl (v_Ed_isBelowPrime (X := X1) (hC.kept hS.1) (hS.a f0) hV) w_Ed_158 rfl ⟨rfl, rfl⟩ ⟨Nat.le_of_ble_eq_true rfl, Nat.le_of_ble_eq_true rfl⟩ ⟨Nat.zero_le _, Nat.zero_le _⟩ hl.1 rfl (Nat.le_of_ble_eq_true rfl) d_Ed_find_10) hS (fun H locs X2 eX2 hS hV => ?_)
  refine lv_if_ne (tgt := 18) hx hb d_Ed_find_13 (by decide) (fun q13_2 => ?_) (fun q13_2 => ?_)
  · skip
    have q13_2 := vx_b1 q13_2
    refine lv_aload_n hx hb d_Ed_find_18 rfl (lv_at hl 0 rfl) ?_
    refine vx_gv (sx_runV (As := []) (rest := []) EE (hS.1.ob (kc_n2 hC) (kc_o2 hC)) rfl rfl (v_Ed_setRatio (X := X2) (hC.kept hS.1) hV) w_Ed_162 rfl ⟨rfl, rfl⟩ ⟨Nat.le_of_ble_eq_true rfl, Nat.le_of_ble_eq_true rfl⟩ ⟨Nat.zero_le _, Nat.zero_le _⟩ hl.1 rfl (Nat.le_of_ble_eq_true rfl) d_Ed_find_19) hS (fun H locs X4 eX4 hS hV => ?_)
    refine lv_aload_n hx hb d_Ed_find_22 rfl (lv_at hl 0 rfl) ?_
    refine sx_get EE (hS.1.ob (kc_n2 hC) (kc_o2 hC)) rfl i_Ed 0 (by decide) rfl fl_Ed_64 rfl d_Ed_find_23 ?_
    refine lv_aload_n hx hb d_Ed_find_26 rfl (lv_at hl 0 rfl) ?_
    refine sx_get EE (hS.1.ob (kc_n2 hC) (kc_o2 hC)) rfl i_Ed 11 (by decide) rfl fl_Ed_52 rfl d_Ed_find_27 ?_
    refine lv_aload_n hx hb d_Ed_find_30 rfl (lv_at hl 0 rfl) ?_
    refine sx_get EE (hS.1.ob (kc_n2 hC) (kc_o2 hC)) rfl i_Ed 10 (by decide) rfl fl_Ed_49 rfl d_Ed_find_31 ?_
    refine vx_gv (sx_runV (As := [.ref (kq 2 11), .ref (kq 2 10)]) (rest := []) EE (hS.1.ob (kc_n0 hC) (kc_o0 hC)) rfl rfl (v_F_raiseForRoot (X := X4) (hC.kept hS.1) (hS.a (kc_a2_11 hC)) (kc_e2_11 hC) (hS.a (kc_a2_10 hC)) hV) w_Ed_165 rfl ⟨rfl, rfl⟩ ⟨Nat.le_of_ble_eq_true rfl, Nat.le_of_ble_eq_true rfl⟩ ⟨Nat.zero_le _, Nat.zero_le _⟩ hl.1 rfl (Nat.le_of_ble_eq_true rfl) d_Ed_find_34) hS (fun H locs X5 eX5 hS hV => ?_)
    refine lv_aload_n hx hb d_Ed_find_37 rfl (lv_at hl 0 rfl) ?_
    refine sx_get EE (hS.1.ob (kc_n2 hC) (kc_o2 hC)) rfl i_Ed 14 (by decide) rfl fl_Ed_61 rfl d_Ed_find_38 ?_
    refine lv_aload_n hx hb d_Ed_find_41 rfl (lv_at hl 0 rfl) ?_
    refine sx_get EE (hS.1.ob (kc_n2 hC) (kc_o2 hC)) rfl i_Ed 7 (by decide) rfl fl_Ed_39 rfl d_Ed_find_42 ?_
    refine lv_aload_n hx hb d_Ed_find_45 rfl (lv_at hl 0 rfl) ?_
    refine sx_get EE (hS.1.ob (kc_n2 hC) (kc_o2 hC)) rfl i_Ed 9 (by decide) rfl fl_Ed_46 rfl d_Ed_find_46 ?_
    refine vx_gv (sx_runS (As := [.ref (kq 2 14), .ref (kq 2 7), .ref (kq 2 9)]) (rest := []) EE (v_F_times (X := X5) (hS.a (kc_a2_14 hC)) (kc_e2_14 hC) (hS.a (kc_a2_7 hC)) (hS.a (kc_a2_9 hC)) hV) w_Ed_104 rfl ⟨rfl, rfl⟩ ⟨Nat.le_of_ble_eq_true rfl, Nat.le_of_ble_eq_true rfl⟩ ⟨Nat.zero_le _, Nat.zero_le _⟩ hl.1 rfl (Nat.le_of_ble_eq_true rfl) d_Ed_find_49) hS (fun H locs X6 eX6 hS hV => ?_)
    refine lv_aload_n hx hb d_Ed_find_52 rfl (lv_at hl 0 rfl) ?_
    refine sx_get EE (hS.1.ob (kc_n2 hC) (kc_o2 hC)) rfl i_Ed 14 (by decide) rfl fl_Ed_61 rfl d_Ed_find_53 ?_
    refine lv_aload_n hx hb d_Ed_find_56 rfl (lv_at hl 0 rfl) ?_
    refine sx_get EE (hS.1.ob (kc_n2 hC) (kc_o2 hC)) rfl i_Ed 14 (by decide) rfl fl_Ed_61 rfl d_Ed_find_57 ?_
    refine lv_aload_n hx hb d_Ed_find_60 rfl (lv_at hl 0 rfl) ?_
    refine sx_get EE (hS.1.ob (kc_n2 hC) (kc_o2 hC)) rfl i_Ed 11 (by decide) rfl fl_Ed_52 rfl d_Ed_find_61 ?_
    refine vx_gv (sx_runS (As := [.ref (kq 2 14), .ref (kq 2 14), .ref (kq 2 11)]) (rest := []) EE (v_F_times (X := X6) (hS.a (kc_a2_14 hC)) (kc_e2_14 hC) (hS.a (kc_a2_14 hC)) (hS.a (kc_a2_11 hC)) hV) w_Ed_104 rfl ⟨rfl, rfl⟩ ⟨Nat.le_of_ble_eq_true rfl, Nat.le_of_ble_eq_true rfl⟩ ⟨Nat.zero_le _, Nat.zero_le _⟩ hl.1 rfl (Nat.le_of_ble_eq_true rfl) d_Ed_find_64) hS (fun H locs X7 eX7 hS hV => ?_)
    refine lv_aload_n hx hb d_Ed_find_67 rfl (lv_at hl 0 rfl) ?_
    refine vx_gi (sx_runV (As := []) (rest := []) EE (hS.1.ob (kc_n2 hC) (kc_o2 hC)) rfl rfl (v_Ed_mendRoot (X := X7) (hC.kept hS.1) hV) w_Ed_168 rfl ⟨rfl, rfl⟩ ⟨Nat.le_of_ble_eq_true rfl, Nat.le_of_ble_eq_true rfl⟩ ⟨Nat.zero_le _, Nat.zero_le _⟩ hl.1 rfl (Nat.le_of_ble_eq_true rfl) d_Ed_find_68) hS (fun H locs X8 eX8 hS hV => ?_)
    refine lv_if_eq (tgt := 90) hx hb d_Ed_find_71 (by decide) (fun q71_8 => ?_) (fun q71_8 => ?_)
    · skip
      have q71_8 := vx_bf (vx_b0 q71_8)
      refine lv_iconst (v := nI 0) hx hb d_Ed_find_90 (by decide +kernel) ?_
      have hp : LF_Ed_find X kq ts a0 = (X8, false) := (by subst eX1 eX2 eX4 eX5 eX6 eX7 eX8; exact (vx_p q13_2 (vx_n q71_8 rfl)))
      exact hret _ _ _ _ _ false _ (congrArg Prod.fst hp :) (congrArg Prod.snd hp :) rfl hS hV d_Ed_find_91
    · skip
      have q71_8 := vx_b1 q71_8
      refine lv_aload_n hx hb d_Ed_find_74 rfl (lv_at hl 0 rfl) ?_
      refine lv_aload_n hx hb d_Ed_find_75 rfl (lv_at hl 1 rfl) ?_
      refine lv_bipush (v := nI 31) hx hb d_Ed_find_76 (by decide +kernel) ?_
      refine vx_bald hx hb hG hS hV f0 (by omega) (by decide) d_Ed_find_78 ?_
      refine lv_bipush (v := nI 7) hx hb d_Ed_find_79 (by decide +kernel) ?_
      refine lv_ishr hx hb d_Ed_find_81 ?_
      refine lv_iconst (v := nI 1) hx hb d_Ed_find_82 (by decide +kernel) ?_
      refine lv_iand hx hb d_Ed_find_83 ?_
      refine vx_gi (sx_runV (As := [.int (((X8.2 a0 31) >>> ((nI 7) &&& 31)) &&& (nI 1))]) (rest := []) EE (hS.1.ob (kc_n2 hC) (kc_o2 hC)) rfl rfl (v_Ed_takeSign (X := X8) (hC.kept hS.1) hV) w_Ed_172 rfl ⟨rfl, rfl⟩ ⟨Nat.le_of_ble_eq_true rfl, Nat.le_of_ble_eq_true rfl⟩ ⟨Nat.zero_le _, Nat.zero_le _⟩ hl.1 rfl (Nat.le_of_ble_eq_true rfl) d_Ed_find_84) hS (fun H locs X10 eX10 hS hV => ?_)
      refine lv_if_ne (tgt := 92) hx hb d_Ed_find_87 (by decide) (fun q87_10 => ?_) (fun q87_10 => ?_)
      · skip
        have q87_10 := vx_b1 q87_10
        refine lv_aload_n hx hb d_Ed_find_92 rfl (lv_at hl 0 rfl) ?_
        refine sx_get EE (hS.1.ob (kc_n2 hC) (kc_o2 hC)) rfl i_Ed 2 (by decide) rfl fl_Ed_18 rfl d_Ed_find_93 ?_
        refine lv_aload_n hx hb d_Ed_find_96 rfl (lv_at hl 0 rfl) ?_
        refine sx_get EE (hS.1.ob (kc_n2 hC) (kc_o2 hC)) rfl i_Ed 14 (by decide) rfl fl_Ed_61 rfl d_Ed_find_97 ?_
        refine lv_aload_n hx hb d_Ed_find_100 rfl (lv_at hl 0 rfl) ?_
        refine sx_get EE (hS.1.ob (kc_n2 hC) (kc_o2 hC)) rfl i_Ed 13 (by decide) rfl fl_Ed_58 rfl d_Ed_find_101 ?_
        refine vx_gv (sx_runV (As := [.ref (kq 2 14), .ref (kq 2 13)]) (rest := []) EE (hS.1.ob (kc_n4 hC) (kc_p4 hC).1) rfl rfl (v_Pt_setAffine (X := X10) ((kc_p4 hC).kept hS.1 (kc_n4 hC)) (kc_n4 hC) (kc_w4 hC) (hS.a (kc_a2_14 hC)) (hS.a (kc_a2_13 hC)) hV) w_Ed_75 rfl ⟨rfl, rfl⟩ ⟨Nat.le_of_ble_eq_true rfl, Nat.le_of_ble_eq_true rfl⟩ ⟨Nat.zero_le _, Nat.zero_le _⟩ hl.1 rfl (Nat.le_of_ble_eq_true rfl) d_Ed_find_104) hS (fun H locs X12 eX12 hS hV => ?_)
        refine lv_iconst (v := nI 1) hx hb d_Ed_find_107 (by decide +kernel) ?_
        have hp : LF_Ed_find X kq ts a0 = (X12, true) := (by subst eX1 eX2 eX4 eX5 eX6 eX7 eX8 eX10 eX12; exact (vx_p q13_2 (vx_p q71_8 (vx_p q87_10 rfl))))
        exact hret _ _ _ _ _ true _ (congrArg Prod.fst hp :) (congrArg Prod.snd hp :) rfl hS hV d_Ed_find_108
      · skip
        have q87_10 := vx_bf (vx_b0 q87_10)
        refine lv_iconst (v := nI 0) hx hb d_Ed_find_90 (by decide +kernel) ?_
        have hp : LF_Ed_find X kq ts a0 = (X10, false) := (by subst eX1 eX2 eX4 eX5 eX6 eX7 eX8 eX10; exact (vx_p q13_2 (vx_p q71_8 (vx_n q87_10 rfl))))
        exact hret _ _ _ _ _ false _ (congrArg Prod.fst hp :) (congrArg Prod.snd hp :) rfl hS hV d_Ed_find_91
  · skip
    have q13_2 := vx_bf (vx_b0 q13_2)
    refine lv_iconst (v := nI 0) hx hb d_Ed_find_16 (by decide +kernel) ?_
    have hp : LF_Ed_find X kq ts a0 = (X2, false) := (by subst eX1 eX2; exact (vx_n q13_2 rfl))
    exact hret _ _ _ _ _ false _ (congrArg Prod.fst hp :) (congrArg Prod.snd hp :) rfl hS hV d_Ed_find_17
