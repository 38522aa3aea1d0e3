def LL_F_stretch_11 (kq : Nat → Nat → Nat) : Nat → vM → vM := fun i_0 s_1 => (let X_2 : vM := (LF_F_square s_1 (kq 0 6) (kq 0 6)); X_2)
def LF_F_stretch (X : vM) (kq : Nat → Nat → Nat) (ts : Nat → Nat) (a0 : Nat) (a1 : Nat) (v2 : Nat) (a3 : Nat) : vM := (let X1 : vM := (LF_F_copy X (kq 0 6) a1); let R4 : vM := lpU 1 (LL_F_stretch_11 kq) (v2 - 0) 0 X1; (let X6 : vM := (LF_F_times R4 a0 (kq 0 6) a3); X6))
abbrev rm_F_stretch : Room := { frames := 2, cells := 0, slots := 0, locals := 121 }
set_option maxHeartbeats 4000000 in
set_option maxRecDepth 100000 in
theorem v_F_stretch {l : Launch} {D : va_G} {g : ClassId → FieldType → Prop} {E : Nat → Prop} {H0 : Heap} {X : vM} {kq : Nat → Nat → Nat} {ts : Nat → Nat} {a0 : Nat} {a1 : Nat} {v2 : Nat} {a3 : Nat} (hC : kc_ D g E H0 kq ts) (f0 : sx_A g .long H0 a0 10) (o0 : E a0) (f1 : sx_A g .long H0 a1 10) (h2 : v2 ≤ 100) (f3 : sx_A g .long H0 a3 10) (hV : mm g H0 = X) : Met l y_F_stretch (.code y_F_stretch b_F_stretch 6 none :: G_) rm_F_stretch (sx_Pc [.ref (kq 0 99), .ref a0, .ref a1, .int (nI v2), .ref a3] H0 D g) (vx_Qv g E H0 (LF_F_stretch X kq ts a0 a1 v2 a3)) 0 0 E := by
  refine vx_mv (own := R_F) (by decide) rfl rfl rfl (Nat.le_of_ble_eq_true rfl) ?_
  intro p e s m args below meth c Q ls EE hl hret
  obtain ⟨hx, hb, hml, hown, hts, hG, hK⟩ := id EE
  have hS : sx_S g E E H0 H0 [] := sx_S.rf
  have hz := hC.2.2.2.2
  have hl : lv_has ls 6 [(0, .ref (kq 0 99)), (1, .ref a0), (2, .ref a1), (3, .int (nI (v2))), (4, .ref a3)] := hl
  refine lv_aload_n hx hb d_F_stretch_0 rfl (lv_at hl 0 rfl) ?_
  refine sx_get EE (hS.1.ob (kc_n0 hC) (kc_o0 hC)) rfl i_F 6 (by decide) rfl fl_F_30 rfl d_F_stretch_1 ?_
  refine lv_aload_n hx hb d_F_stretch_4 rfl (lv_at hl 2 rfl) ?_
  refine vx_gv (sx_runS (As := [.ref (kq 0 6), .ref a1]) (rest := []) EE (v_F_copy (X := X) (hS.a (kc_a0_6 hC)) (kc_e0_6 hC) (hS.a f1) hV) w_F_89 rfl ⟨rfl, rfl⟩ ⟨Nat.le_of_ble_eq_true rfl, Nat.le_of_ble_eq_true rfl⟩ ⟨Nat.zero_le _, Nat.zero_le _⟩ hl.1 rfl (Nat.le_of_ble_eq_true rfl) d_F_stretch_5) hS (fun H locs X1 eX1 hS hV => ?_)
  refine lv_iconst (v := nI 0) hx hb d_F_stretch_8 (by decide +kernel) ?_
  refine lv_istore (lv' := [(5, .int (nI (0))), (0, .ref (kq 0 99)), (1, .ref a0), (2, .ref a1), (3, .int (nI (v2))), (4, .ref a3)]) hx hb d_F_stretch_9 hl (by decide) rfl (fun ls hl => ?_)
  obtain ⟨R4, eR4⟩ : ∃ t : vM, lpU 1 (LL_F_stretch_11 kq) (v2 - 0) 0 X1 = t := ⟨_, rfl⟩
  refine lpU_go (σ := vM) (P := fun i2 s3 H locs ls => sx_S g E E H0 H locs ∧ mm g H = s3 ∧ lv_has ls 6 [(5, .int (nI (i2))), (0, .ref (kq 0 99)), (1, .ref a0), (3, .int (nI (v2))), (4, .ref a3)]) (Wd := fun H locs ls => W p l e rm_F_stretch s m args below meth c H locs 0 0 Q (F0 m 11 ls [])) (N := v2) (d := 1) (by decide) ?_ ?_ (v2 - 0) 0 _ (by omega) eR4 _ _ _ ⟨hS, hV, lv_sub hl [0, 1, 2, 4, 5] rfl⟩
  · intro i2 s3 H locs ls hii2 hP ihi2
    obtain ⟨hS, hV, hl⟩ := hP
    refine lv_iload hx hb d_F_stretch_11 (lv_at hl 0 rfl) ?_
    refine lv_iload_n hx hb d_F_stretch_13 rfl (lv_at hl 3 rfl) ?_
    refine lv_icmp_ge (tgt := 34) hx hb d_F_stretch_14 (by decide) (fun q => absurd q (nI_ge (by omega) (by omega))) (fun _ => ?_)
    refine lv_aload_n hx hb d_F_stretch_17 rfl (lv_at hl 1 rfl) ?_
    refine sx_get EE (hS.1.ob (kc_n0 hC) (kc_o0 hC)) rfl i_F 6 (by decide) rfl fl_F_30 rfl d_F_stretch_18 ?_
    refine lv_aload_n hx hb d_F_stretch_21 rfl (lv_at hl 1 rfl) ?_
    refine sx_get EE (hS.1.ob (kc_n0 hC) (kc_o0 hC)) rfl i_F 6 (by decide) rfl fl_F_30 rfl d_F_stretch_22 ?_
    refine vx_gv (sx_runS (As := [.ref (kq 0 6), .ref (kq 0 6)]) (rest := []) EE (v_F_square (X := s3) (hS.a (kc_a0_6 hC)) (kc_e0_6 hC) (hS.a (kc_a0_6 hC)) hV) w_F_81 rfl ⟨rfl, rfl⟩ ⟨Nat.le_of_ble_eq_true rfl, Nat.le_of_ble_eq_true rfl⟩ ⟨Nat.zero_le _, Nat.zero_le _⟩ hl.1 rfl (Nat.le_of_ble_eq_true rfl) d_F_stretch_25) hS (fun H locs X5 eX5 hS hV => ?_)
    refine lv_iinc (v := nI (i2 + 1)) (lv' := [(5, .int (nI (i2 + 1))), (0, .ref (kq 0 99)), (1, .ref a0), (3, .int (nI (v2))), (4, .ref a3)]) hx hb d_F_stretch_28 hl (k := 0) rfl (sx_inc _ _) (by decide) rfl (fun ls hl => ?_)
    refine lv_goto (tgt := 11) hx hb d_F_stretch_31 (by decide) ?_
    exact ihi2 X5 _ _ _ (by subst eX5; exact rfl) ⟨hS, hV, lv_sub hl [0, 1, 2, 3, 4] rfl⟩
  · intro H locs ls hP
    obtain ⟨hS, hV, hl⟩ := hP
    refine lv_iload hx hb d_F_stretch_11 (lv_at hl 0 rfl) ?_
    refine lv_iload_n hx hb d_F_stretch_13 rfl (lv_at hl 3 rfl) ?_
    refine lv_icmp_ge (tgt := 34) hx hb d_F_stretch_14 (by decide) (fun _ => ?_) (fun q => absurd (nI_le (by omega) (by omega)) q)
    refine lv_aload_n hx hb d_F_stretch_34 rfl (lv_at hl 2 rfl) ?_
    refine lv_aload_n hx hb d_F_stretch_35 rfl (lv_at hl 1 rfl) ?_
    refine sx_get EE (hS.1.ob (kc_n0 hC) (kc_o0 hC)) rfl i_F 6 (by decide) rfl fl_F_30 rfl d_F_stretch_36 ?_
    refine lv_aload hx hb d_F_stretch_39 (lv_at hl 4 rfl) ?_
    refine vx_gv (sx_runS (As := [.ref a0, .ref (kq 0 6), .ref a3]) (rest := []) EE (v_F_times (X := R4) (hS.a f0) o0 (hS.a (kc_a0_6 hC)) (hS.a f3) hV) w_F_85 rfl ⟨rfl, rfl⟩ ⟨Nat.le_of_ble_eq_true rfl, Nat.le_of_ble_eq_true rfl⟩ ⟨Nat.zero_le _, Nat.zero_le _⟩ hl.1 rfl (Nat.le_of_ble_eq_true rfl) d_F_stretch_41) hS (fun H locs X6 eX6 hS hV => ?_)
    exact hret _ _ _ _ _ (by subst eX1 eR4 eX6; exact rfl) hS hV d_F_stretch_44
def LF_F_raiseToOnes (X : vM) (kq : Nat → Nat → Nat) (ts : Nat → Nat) (a0 : Nat) : vM := (let X1 : vM := (LF_F_square X (kq 0 4) a0); let X2 : vM := (LF_F_stretch X1 kq ts (kq 0 5) (kq 0 4) 2 a0); let X3 : vM := (LF_F_times X2 (kq 0 0) (kq 0 5) (kq 0 4)); let X4 : vM := (LF_F_stretch X3 kq ts (kq 0 4) (kq 0 0) 1 (kq 0 5)); let X5 : vM := (LF_F_stretch X4 kq ts (kq 0 1) (kq 0 4) 5 (kq 0 4)); let X6 : vM := (LF_F_stretch X5 kq ts (kq 0 4) (kq 0 1) 10 (kq 0 1)); let X7 : vM := (LF_F_stretch X6 kq ts (kq 0 5) (kq 0 4) 20 (kq 0 4)); let X8 : vM := (LF_F_stretch X7 kq ts (kq 0 2) (kq 0 5) 10 (kq 0 1)); let X9 : vM := (LF_F_stretch X8 kq ts (kq 0 4) (kq 0 2) 50 (kq 0 2)); let X10 : vM := (LF_F_stretch X9 kq ts (kq 0 5) (kq 0 4) 100 (kq 0 4)); let X11 : vM := (LF_F_stretch X10 kq ts (kq 0 3) (kq 0 5) 50 (kq 0 2)); X11)
abbrev rm_F_raiseToOnes : Room := { frames := 3, cells := 0, slots := 0, locals := 146 }
set_option maxHeartbeats 4000000 in
set_option maxRecDepth 100000 in
theorem v_F_raiseToOnes {l : Launch} {D : va_G} {g : ClassId → FieldType → Prop} {E : Nat → Prop} {H0 : Heap} {X : vM} {kq : Nat → Nat → Nat} {ts : Nat → Nat} {a0 : Nat} (hC : kc_ D g E H0 kq ts) (f0 : sx_A g .long H0 a0 10) (hV : mm g H0 = X) : Met l y_F_raiseToOnes (.code y_F_raiseToOnes b_F_raiseToOnes 2 none :: G_) rm_F_raiseToOnes (sx_Pc [.ref (kq 0 99), .ref a0] H0 D g) (vx_Qv g E H0 (LF_F_raiseToOnes X kq ts a0)) 0 0 E := by
  refine vx_mv (own := R_F) (by decide) rfl rfl rfl (Nat.le_of_ble_eq_true rfl) ?_
  intro p e s m args below meth c Q ls EE hl hret
  obtain ⟨hx, hb, hml, hown, hts, hG, hK⟩ := id EE
  have hS : sx_S g E E H0 H0 [] := sx_S.rf
  have hz := hC.2.2.2.2
  have hl : lv_has ls 2 [(0, .ref (kq 0 99)), (1, .ref a0)] := hl
  refine lv_aload_n hx hb d_F_raiseToOnes_0 rfl (lv_at hl 0 rfl) ?_
  refine sx_get EE (hS.1.ob (kc_n0 hC) (kc_o0 hC)) rfl i_F 4 (by decide) rfl fl_F_24 rfl d_F_raiseToOnes_1 ?_
  refine lv_aload_n hx hb d_F_raiseToOnes_4 rfl (lv_at hl 1 rfl) ?_
  refine vx_gv (sx_runS (As := [.ref (kq 0 4), .ref a0]) (rest := []) EE (v_F_square (X := X) (hS.a (kc_a0_4 hC)) (kc_e0_4 hC) (hS.a f0) hV) w_F_81 rfl ⟨rfl, rfl⟩ ⟨Nat.le_of_ble_eq_true rfl, Nat.le_of_ble_eq_true rfl⟩ ⟨Nat.zero_le _, Nat.zero_le _⟩ hl.1 rfl (Nat.le_of_ble_eq_true rfl) d_F_raiseToOnes_5) hS (fun H locs X1 eX1 hS hV => ?_)
  refine lv_aload_n hx hb d_F_raiseToOnes_8 rfl (lv_at hl 0 rfl) ?_
  refine lv_aload_n hx hb d_F_raiseToOnes_9 rfl (lv_at hl 0 rfl) ?_
  refine sx_get EE (hS.1.ob (kc_n0 hC) (kc_o0 hC)) rfl i_F 5 (by decide) rfl fl_F_27 rfl d_F_raiseToOnes_10 ?_
  refine lv_aload_n hx hb d_F_raiseToOnes_13 rfl (lv_at hl 0 rfl) ?_
  refine sx_get EE (hS.1.ob (kc_n0 hC) (kc_o0 hC)) rfl i_F 4 (by decide) rfl fl_F_24 rfl d_F_raiseToOnes_14 ?_
  refine lv_iconst (v := nI 2) hx hb d_F_raiseToOnes_17 (by decide +kernel) ?_
  refine lv_aload_n hx hb d_F_raiseToOnes_18 rfl (lv_at hl 1 rfl) ?_
  refine vx_gv (sx_runV (As := [.ref (kq 0 5), .ref (kq 0 4), .int (nI (2)), .ref a0]) (rest := []) EE (hS.1.ob (kc_n0 hC) (kc_o0 hC)) rfl rfl (v_F_stretch (X := X1) (hC.kept hS.1) (hS.a (kc_a0_5 hC)) (kc_e0_5 hC) (hS.a (kc_a0_4 hC)) (by omega) (hS.a f0) hV) w_F_77 rfl ⟨rfl, rfl⟩ ⟨Nat.le_of_ble_eq_true rfl, Nat.le_of_ble_eq_true rfl⟩ ⟨Nat.zero_le _, Nat.zero_le _⟩ hl.1 rfl (Nat.le_of_ble_eq_true rfl) d_F_raiseToOnes_19) hS (fun H locs X2 eX2 hS hV => ?_)
  refine lv_aload_n hx hb d_F_raiseToOnes_22 rfl (lv_at hl 0 rfl) ?_
  refine sx_get EE (hS.1.ob (kc_n0 hC) (kc_o0 hC)) rfl i_F 0 (by decide) rfl fl_F_11 rfl d_F_raiseToOnes_23 ?_
  refine lv_aload_n hx hb d_F_raiseToOnes_26 rfl (lv_at hl 0 rfl) ?_
  refine sx_get EE (hS.1.ob (kc_n0 hC) (kc_o0 hC)) rfl i_F 5 (by decide) rfl fl_F_27 rfl d_F_raiseToOnes_27 ?_
  refine lv_aload_n hx hb d_F_raiseToOnes_30 rfl (lv_at hl 0 rfl) ?_
  refine sx_get EE (hS.1.ob (kc_n0 hC) (kc_o0 hC)) rfl i_F 4 (by decide) rfl fl_F_24 rfl d_F_raiseToOnes_31 ?_
  refine vx_gv (sx_runS (As := [.ref (kq 0 0), .ref (kq 0 5), .ref (kq 0 4)]) (rest := []) EE (v_F_times (X := X2) (hS.a (kc_a0_0 hC)) (kc_e0_0 hC) (hS.a (kc_a0_5 hC)) (hS.a (kc_a0_4 hC)) hV) w_F_85 rfl ⟨rfl, rfl⟩ ⟨Nat.le_of_ble_eq_true rfl, Nat.le_of_ble_eq_true rfl⟩ ⟨Nat.zero_le _, Nat.zero_le _⟩ hl.1 rfl (Nat.le_of_ble_eq_true rfl) d_F_raiseToOnes_34) hS (fun H locs X3 eX3 hS hV => ?_)
  refine lv_aload_n hx hb d_F_raiseToOnes_37 rfl (lv_at hl 0 rfl) ?_
  refine lv_aload_n hx hb d_F_raiseToOnes_38 rfl (lv_at hl 0 rfl) ?_
  refine sx_get EE (hS.1.ob (kc_n0 hC) (kc_o0 hC)) rfl i_F 4 (by decide) rfl fl_F_24 rfl d_F_raiseToOnes_39 ?_
  refine lv_aload_n hx hb d_F_raiseToOnes_42 rfl (lv_at hl 0 rfl) ?_
  refine sx_get EE (hS.1.ob (kc_n0 hC) (kc_o0 hC)) rfl i_F 0 (by decide) rfl fl_F_11 rfl d_F_raiseToOnes_43 ?_
  refine lv_iconst (v := nI 1) hx hb d_F_raiseToOnes_46 (by decide +kernel) ?_
  refine lv_aload_n hx hb d_F_raiseToOnes_47 rfl (lv_at hl 0 rfl) ?_
  refine sx_get EE (hS.1.ob (kc_n0 hC) (kc_o0 hC)) rfl i_F 5 (by decide) rfl fl_F_27 rfl d_F_raiseToOnes_48 ?_
  refine vx_gv (sx_runV (As := [.ref (kq 0 4), .ref (kq 0 0), .int (nI (1)), .ref (kq 0 5)]) (rest := []) EE (hS.1.ob (kc_n0 hC) (kc_o0 hC)) rfl rfl (v_F_stretch (X := X3) (hC.kept hS.1) (hS.a (kc_a0_4 hC)) (kc_e0_4 hC) (hS.a (kc_a0_0 hC)) (by omega) (hS.a (kc_a0_5 hC)) hV) w_F_77 rfl ⟨rfl, rfl⟩ ⟨Nat.le_of_ble_eq_true rfl, Nat.le_of_ble_eq_true rfl⟩ ⟨Nat.zero_le _, Nat.zero_le _⟩ hl.1 rfl (Nat.le_of_ble_eq_true rfl) d_F_raiseToOnes_51) hS (fun H locs X4 eX4 hS hV => ?_)
  refine lv_aload_n hx hb d_F_raiseToOnes_54 rfl (lv_at hl 0 rfl) ?_
  refine lv_aload_n hx hb d_F_raiseToOnes_55 rfl (lv_at hl 0 rfl) ?_
  refine sx_get EE (hS.1.ob (kc_n0 hC) (kc_o0 hC)) rfl i_F 1 (by decide) rfl fl_F_15 rfl d_F_raiseToOnes_56 ?_
  refine lv_aload_n hx hb d_F_raiseToOnes_59 rfl (lv_at hl 0 rfl) ?_
  refine sx_get EE (hS.1.ob (kc_n0 hC) (kc_o0 hC)) rfl i_F 4 (by decide) rfl fl_F_24 rfl d_F_raiseToOnes_60 ?_
  refine lv_iconst (v := nI 5) hx hb d_F_raiseToOnes_63 (by decide +kernel) ?_
  refine lv_aload_n hx hb d_F_raiseToOnes_64 rfl (lv_at hl 0 rfl) ?_
  refine sx_get EE (hS.1.ob (kc_n0 hC) (kc_o0 hC)) rfl i_F 4 (by decide) rfl fl_F_24 rfl d_F_raiseToOnes_65 ?_
  refine vx_gv (sx_runV (As := [.ref (kq 0 1), .ref (kq 0 4), .int (nI (5)), .ref (kq 0 4)]) (rest := []) EE (hS.1.ob (kc_n0 hC) (kc_o0 hC)) rfl rfl (v_F_stretch (X := X4) (hC.kept hS.1) (hS.a (kc_a0_1 hC)) (kc_e0_1 hC) (hS.a (kc_a0_4 hC)) (by omega) (hS.a (kc_a0_4 hC)) hV) w_F_77 rfl ⟨rfl, rfl⟩ ⟨Nat.le_of_ble_eq_true rfl, Nat.le_of_ble_eq_true rfl⟩ ⟨Nat.zero_le _, Nat.zero_le _⟩ hl.1 rfl (Nat.le_of_ble_eq_true rfl) d_F_raiseToOnes_68) hS (fun H locs X5 eX5 hS hV => ?_)
  refine lv_aload_n hx hb d_F_raiseToOnes_71 rfl (lv_at hl 0 rfl) ?_
  refine lv_aload_n hx hb d_F_raiseToOnes_72 rfl (lv_at hl 0 rfl) ?_
  refine sx_get EE (hS.1.ob (kc_n0 hC) (kc_o0 hC)) rfl i_F 4 (by decide) rfl fl_F_24 rfl d_F_raiseToOnes_73 ?_
  refine lv_aload_n hx hb d_F_raiseToOnes_76 rfl (lv_at hl 0 rfl) ?_
  refine sx_get EE (hS.1.ob (kc_n0 hC) (kc_o0 hC)) rfl i_F 1 (by decide) rfl fl_F_15 rfl d_F_raiseToOnes_77 ?_
  refine lv_bipush (v := nI 10) hx hb d_F_raiseToOnes_80 (by decide +kernel) ?_
  refine lv_aload_n hx hb d_F_raiseToOnes_82 rfl (lv_at hl 0 rfl) ?_
  refine sx_get EE (hS.1.ob (kc_n0 hC) (kc_o0 hC)) rfl i_F 1 (by decide) rfl fl_F_15 rfl d_F_raiseToOnes_83 ?_
  refine vx_gv (sx_runV (As := [.ref (kq 0 4), .ref (kq 0 1), .int (nI (10)), .ref (kq 0 1)]) (rest := []) EE (hS.1.ob (kc_n0 hC) (kc_o0 hC)) rfl rfl (v_F_stretch (X := X5) (hC.kept hS.1) (hS.a (kc_a0_4 hC)) (kc_e0_4 hC) (hS.a (kc_a0_1 hC)) (by omega) (hS.a (kc_a0_1 hC)) hV) w_F_77 rfl ⟨rfl, rfl⟩ ⟨Nat.le_of_ble_eq_true rfl, Nat.le_of_ble_eq_true rfl⟩ ⟨Nat.zero_le _, Nat.zero_le _⟩ hl.1 rfl (Nat.le_of_ble_eq_true rfl) d_F_raiseToOnes_86) hS (fun H locs X6 eX6 hS hV => ?_)
  refine lv_aload_n hx hb d_F_raiseToOnes_89 rfl (lv_at hl 0 rfl) ?_
  refine lv_aload_n hx hb d_F_raiseToOnes_90 rfl (lv_at hl 0 rfl) ?_
  refine sx_get EE (hS.1.ob (kc_n0 hC) (kc_o0 hC)) rfl i_F 5 (by decide) rfl fl_F_27 rfl d_F_raiseToOnes_91 ?_
  refine lv_aload_n hx hb d_F_raiseToOnes_94 rfl (lv_at hl 0 rfl) ?_
  refine sx_get EE (hS.1.ob (kc_n0 hC) (kc_o0 hC)) rfl i_F 4 (by decide) rfl fl_F_24 rfl d_F_raiseToOnes_95 ?_
  refine lv_bipush (v := nI 20) hx hb d_F_raiseToOnes_98 (by decide +kernel) ?_
  refine lv_aload_n hx hb d_F_raiseToOnes_100 rfl (lv_at hl 0 rfl) ?_
  refine sx_get EE (hS.1.ob (kc_n0 hC) (kc_o0 hC)) rfl i_F 4 (by decide) rfl fl_F_24 rfl d_F_raiseToOnes_101 ?_
  refine vx_gv (sx_runV (As := [.ref (kq 0 5), .ref (kq 0 4), .int (nI (20)), .ref (kq 0 4)]) (rest := []) EE (hS.1.ob (kc_n0 hC) (kc_o0 hC)) rfl rfl (v_F_stretch (X := X6) (hC.kept hS.1) (hS.a (kc_a0_5 hC)) (kc_e0_5 hC) (hS.a (kc_a0_4 hC)) (by omega) (hS.a (kc_a0_4 hC)) hV) w_F_77 rfl ⟨rfl, rfl⟩ ⟨Nat.le_of_ble_eq_true rfl, Nat.le_of_ble_eq_true rfl⟩ ⟨Nat.zero_le _, Nat.zero_le _⟩ hl.1 rfl (Nat.le_of_ble_eq_true rfl) d_F_raiseToOnes_104) hS (fun H locs X7 eX7 hS hV => ?_)
  refine lv_aload_n hx hb d_F_raiseToOnes_107 rfl (lv_at hl 0 rfl) ?_
  refine lv_aload_n hx hb d_F_raiseToOnes_108 rfl (lv_at hl 0 rfl) ?_
  refine sx_get EE (hS.1.ob (kc_n0 hC) (kc_o0 hC)) rfl i_F 2 (by decide) rfl fl_F_18 rfl d_F_raiseToOnes_109 ?_
  refine lv_aload_n hx hb d_F_raiseToOnes_112 rfl (lv_at hl 0 rfl) ?_
  refine sx_get EE (hS.1.ob (kc_n0 hC) (kc_o0 hC)) rfl i_F 5 (by decide) rfl fl_F_27 rfl d_F_raiseToOnes_113 ?_
  refine lv_bipush (v := nI 10) hx hb d_F_raiseToOnes_116 (by decide +kernel) ?_
  refine lv_aload_n hx hb d_F_raiseToOnes_118 rfl (lv_at hl 0 rfl) ?_
  refine sx_get EE (hS.1.ob (kc_n0 hC) (kc_o0 hC)) rfl i_F 1 (by decide) rfl fl_F_15 rfl d_F_raiseToOnes_119 ?_
  refine vx_gv (sx_runV (As := [.ref (kq 0 2), .ref (kq 0 5), .int (nI (10)), .ref (kq 0 1)]) (rest := []) EE (hS.1.ob (kc_n0 hC) (kc_o0 hC)) rfl rfl (v_F_stretch (X := X7) (hC.kept hS.1) (hS.a (kc_a0_2 hC)) (kc_e0_2 hC) (hS.a (kc_a0_5 hC)) (by omega) (hS.a (kc_a0_1 hC)) hV) w_F_77 rfl ⟨rfl, rfl⟩ ⟨Nat.le_of_ble_eq_true rfl, Nat.le_of_ble_eq_true rfl⟩ ⟨Nat.zero_le _, Nat.zero_le _⟩ hl.1 rfl (Nat.le_of_ble_eq_true rfl) d_F_raiseToOnes_122) hS (fun H locs X8 eX8 hS hV => ?_)
  refine lv_aload_n hx hb d_F_raiseToOnes_125 rfl (lv_at hl 0 rfl) ?_
  refine lv_aload_n hx hb d_F_raiseToOnes_126 rfl (lv_at hl 0 rfl) ?_
  refine sx_get EE (hS.1.ob (kc_n0 hC) (kc_o0 hC)) rfl i_F 4 (by decide) rfl fl_F_24 rfl d_F_raiseToOnes_127 ?_
  refine lv_aload_n hx hb d_F_raiseToOnes_130 rfl (lv_at hl 0 rfl) ?_
  refine sx_get EE (hS.1.ob (kc_n0 hC) (kc_o0 hC)) rfl i_F 2 (by decide) rfl fl_F_18 rfl d_F_raiseToOnes_131 ?_
  refine lv_bipush (v := nI 50) hx hb d_F_raiseToOnes_134 (by decide +kernel) ?_
  refine lv_aload_n hx hb d_F_raiseToOnes_136 rfl (lv_at hl 0 rfl) ?_
  refine sx_get EE (hS.1.ob (kc_n0 hC) (kc_o0 hC)) rfl i_F 2 (by decide) rfl fl_F_18 rfl d_F_raiseToOnes_137 ?_
  refine vx_gv (sx_runV (As := [.ref (kq 0 4), .ref (kq 0 2), .int (nI (50)), .ref (kq 0 2)]) (rest := []) EE (hS.1.ob (kc_n0 hC) (kc_o0 hC)) rfl rfl (v_F_stretch (X := X8) (hC.kept hS.1) (hS.a (kc_a0_4 hC)) (kc_e0_4 hC) (hS.a (kc_a0_2 hC)) (by omega) (hS.a (kc_a0_2 hC)) hV) w_F_77 rfl ⟨rfl, rfl⟩ ⟨Nat.le_of_ble_eq_true rfl, Nat.le_of_ble_eq_true rfl⟩ ⟨Nat.zero_le _, Nat.zero_le _⟩ hl.1 rfl (Nat.le_of_ble_eq_true rfl) d_F_raiseToOnes_140) hS (fun H locs X9 eX9 hS hV => ?_)
  refine lv_aload_n hx hb d_F_raiseToOnes_143 rfl (lv_at hl 0 rfl) ?_
  refine lv_aload_n hx hb d_F_raiseToOnes_144 rfl (lv_at hl 0 rfl) ?_
  refine sx_get EE (hS.1.ob (kc_n0 hC) (kc_o0 hC)) rfl i_F 5 (by decide) rfl fl_F_27 rfl d_F_raiseToOnes_145 ?_
  refine lv_aload_n hx hb d_F_raiseToOnes_148 rfl (lv_at hl 0 rfl) ?_
  refine sx_get EE (hS.1.ob (kc_n0 hC) (kc_o0 hC)) rfl i_F 4 (by decide) rfl fl_F_24 rfl d_F_raiseToOnes_149 ?_
  refine lv_bipush (v := nI 100) hx hb d_F_raiseToOnes_152 (by decide +kernel) ?_
  refine lv_aload_n hx hb d_F_raiseToOnes_154 rfl (lv_at hl 0 rfl) ?_
  refine sx_get EE (hS.1.ob (kc_n0 hC) (kc_o0 hC)) rfl i_F 4 (by decide) rfl fl_F_24 rfl d_F_raiseToOnes_155 ?_
  refine vx_gv (sx_runV (As := [.ref (kq 0 5), .ref (kq 0 4), .int (nI (100)), .ref (kq 0 4)]) (rest := []) EE (hS.1.ob (kc_n0 hC) (kc_o0 hC)) rfl rfl (v_F_stretch (X := X9) (hC.kept hS.1) (hS.a (kc_a0_5 hC)) (kc_e0_5 hC) (hS.a (kc_a0_4 hC)) (by omega) (hS.a (kc_a0_4 hC)) hV) w_F_77 rfl ⟨rfl, rfl⟩ ⟨Nat.le_of_ble_eq_true rfl, Nat.le_of_ble_eq_true rfl⟩ ⟨Nat.zero_le _, Nat.zero_le _⟩ hl.1 rfl (Nat.le_of_ble_eq_true rfl) d_F_raiseToOnes_158) hS (fun H locs X10 eX10 hS hV => ?_)
  refine lv_aload_n hx hb d_F_raiseToOnes_161 rfl (lv_at hl 0 rfl) ?_
  refine lv_aload_n hx hb d_F_raiseToOnes_162 rfl (lv_at hl 0 rfl) ?_
  refine sx_get EE (hS.1.ob (kc_n0 hC) (kc_o0 hC)) rfl i_F 3 (by decide) rfl fl_F_21 rfl d_F_raiseToOnes_163 ?_
  refine lv_aload_n hx hb d_F_raiseToOnes_166 rfl (lv_at hl 0 rfl) ?_
  refine sx_get EE (hS.1.ob (kc_n0 hC) (kc_o0 hC)) rfl i_F 5 (by decide) rfl fl_F_27 rfl d_F_raiseToOnes_167 ?_
  refine lv_bipush (v := nI 50) hx hb d_F_raiseToOnes_170 (by decide +kernel) ?_
  refine lv_aload_n hx hb d_F_raiseToOnes_172 rfl (lv_at hl 0 rfl) ?_
  refine sx_get EE (hS.1.ob (kc_n0 hC) (kc_o0 hC)) rfl i_F 2 (by decide) rfl fl_F_18 rfl d_F_raiseToOnes_173 ?_
  refine vx_gv (sx_runV (As := [.ref (kq 0 3), .ref (kq 0 5), .int (nI (50)), .ref (kq 0 2)]) (rest := []) EE (hS.1.ob (kc_n0 hC) (kc_o0 hC)) rfl rfl (v_F_stretch (X := X10) (hC.kept hS.1) (hS.a (kc_a0_3 hC)) (kc_e0_3 hC) (hS.a (kc_a0_5 hC)) (by omega) (hS.a (kc_a0_2 hC)) hV) w_F_77 rfl ⟨rfl, rfl⟩ ⟨Nat.le_of_ble_eq_true rfl, Nat.le_of_ble_eq_true rfl⟩ ⟨Nat.zero_le _, Nat.zero_le _⟩ hl.1 rfl (Nat.le_of_ble_eq_true rfl) d_F_raiseToOnes_176) hS (fun H locs X11 eX11 hS hV => ?_)
  exact hret _ _ _ _ _ (by subst eX1 eX2 eX3 eX4 eX5 eX6 eX7 eX8 eX9 eX10 eX11; exact rfl) hS hV d_F_raiseToOnes_179
def LF_F_invert (X : vM) (kq : Nat → Nat → Nat) (ts : Nat → Nat) (a0 : Nat) (a1 : Nat) : vM := (let X1 : vM := (LF_F_raiseToOnes X kq ts a1); let X2 : vM := (LF_F_stretch X1 kq ts a0 (kq 0 3) 5 (kq 0 0)); X2)
abbrev rm_F_invert : Room := { frames := 4, cells := 0, slots := 0, locals := 167 }
set_option maxHeartbeats 4000000 in
set_option maxRecDepth 100000 in
theorem v_F_invert {l : Launch} {D : va_G} {g : ClassId → FieldType → Prop} {E : Nat → Prop} {H0 : Heap} {X : vM} {kq : Nat → Nat → Nat} {ts : Nat → Nat} {a0 : Nat} {a1 : Nat} (hC : kc_ D g E H0 kq ts) (f0 : sx_A g .long H0 a0 10) (o0 : E a0) (f1 : sx_A g .long H0 a1 10) (hV : mm g H0 = X) : Met l y_F_invert (.code y_F_invert b_F_invert 3 none :: G_) rm_F_invert (sx_Pc [.ref (kq 0 99), .ref a0, .ref a1] H0 D g) (vx_Qv g E H0 (LF_F_invert X kq ts a0 a1)) 0 0 E := by
  refine vx_mv (own := R_F) (by decide) rfl rfl rfl (Nat.le_of_ble_eq_true rfl) ?_
  intro p e s m args below meth c Q ls EE hl hret
  obtain ⟨hx, hb, hml, hown, hts, hG, hK⟩ := id EE
  have hS : sx_S g E E H0 H0 [] := sx_S.rf
  have hz := hC.2.2.2.2
  have hl : lv_has ls 3 [(0, .ref (kq 0 99)), (1, .ref a0), (2, .ref a1)] := hl
  refine lv_aload_n hx hb d_F_invert_0 rfl (lv_at hl 0 rfl) ?_
  refine lv_aload_n hx hb d_F_invert_1 rfl (lv_at hl 2 rfl) ?_
  refine vx_gv (sx_runV (As := [.ref a1]) (rest := []) EE (hS.1.ob (kc_n0 hC) (kc_o0 hC)) rfl rfl (v_F_raiseToOnes (X := X) (hC.kept hS.1) (hS.a f1) hV) w_F_74 rfl ⟨rfl, rfl⟩ ⟨Nat.le_of_ble_eq_true rfl, Nat.le_of_ble_eq_true rfl⟩ ⟨Nat.zero_le _, Nat.zero_le _⟩ hl.1 rfl (Nat.le_of_ble_eq_true rfl) d_F_invert_2) hS (fun H locs X1 eX1 hS hV => ?_)
  refine lv_aload_n hx hb d_F_invert_5 rfl (lv_at hl 0 rfl) ?_
  refine lv_aload_n hx hb d_F_invert_6 rfl (lv_at hl 1 rfl) ?_
  refine lv_aload_n hx hb d_F_invert_7 rfl (lv_at hl 0 rfl) ?_
  refine sx_get EE (hS.1.ob (kc_n0 hC) (kc_o0 hC)) rfl i_F 3 (by decide) rfl fl_F_21 rfl d_F_invert_8 ?_
  refine lv_iconst (v := nI 5) hx hb d_F_invert_11 (by decide +kernel) ?_
  refine lv_aload_n hx hb d_F_invert_12 rfl (lv_at hl 0 rfl) ?_
  refine sx_get EE (hS.1.ob (kc_n0 hC) (kc_o0 hC)) rfl i_F 0 (by decide) rfl fl_F_11 rfl d_F_invert_13 ?_
  refine vx_gv (sx_runV (As := [.ref a0, .ref (kq 0 3), .int (nI (5)), .ref (kq 0 0)]) (rest := []) EE (hS.1.ob (kc_n0 hC) (kc_o0 hC)) rfl rfl (v_F_stretch (X := X1) (hC.kept hS.1) (hS.a f0) o0 (hS.a (kc_a0_3 hC)) (by omega) (hS.a (kc_a0_0 hC)) hV) w_F_77 rfl ⟨rfl, rfl⟩ ⟨Nat.le_of_ble_eq_true rfl, Nat.le_of_ble_eq_true rfl⟩ ⟨Nat.zero_le _, Nat.zero_le _⟩ hl.1 rfl (Nat.le_of_ble_eq_true rfl) d_F_invert_16) hS (fun H locs X2 eX2 hS hV => ?_)
  exact hret _ _ _ _ _ (by subst eX1 eX2; exact rfl) hS hV d_F_invert_19
def LF_F_raiseForRoot (X : vM) (kq : Nat → Nat → Nat) (ts : Nat → Nat) (a0 : Nat) (a1 : Nat) : vM := (let X1 : vM := (LF_F_raiseToOnes X kq ts a1); let X2 : vM := (LF_F_stretch X1 kq ts a0 (kq 0 3) 2 a1); X2)
abbrev rm_F_raiseForRoot : Room := { frames := 4, cells := 0, slots := 0, locals := 167 }
set_option maxHeartbeats 4000000 in
set_option maxRecDepth 100000 in
theorem v_F_raiseForRoot {l : Launch} {D : va_G} {g : ClassId → FieldType → Prop} {E : Nat → Prop} {H0 : Heap} {X : vM} {kq : Nat → Nat → Nat} {ts : Nat → Nat} {a0 : Nat} {a1 : Nat} (hC : kc_ D g E H0 kq ts) (f0 : sx_A g .long H0 a0 10) (o0 : E a0) (f1 : sx_A g .long H0 a1 10) (hV : mm g H0 = X) : Met l y_F_raiseForRoot (.code y_F_raiseForRoot b_F_raiseForRoot 3 none :: G_) rm_F_raiseForRoot (sx_Pc [.ref (kq 0 99), .ref a0, .ref a1] H0 D g) (vx_Qv g E H0 (LF_F_raiseForRoot X kq ts a0 a1)) 0 0 E := by
  refine vx_mv (own := R_F) (by decide) rfl rfl rfl (Nat.le_of_ble_eq_true rfl) ?_
  intro p e s m args below meth c Q ls EE hl hret
  obtain ⟨hx, hb, hml, hown, hts, hG, hK⟩ := id EE
  have hS : sx_S g E E H0 H0 [] := sx_S.rf
  have hz := hC.2.2.2.2
  have hl : lv_has ls 3 [(0, .ref (kq 0 99)), (1, .ref a0), (2, .ref a1)] := hl
  refine lv_aload_n hx hb d_F_raiseForRoot_0 rfl (lv_at hl 0 rfl) ?_
  refine lv_aload_n hx hb d_F_raiseForRoot_1 rfl (lv_at hl 2 rfl) ?_
  refine vx_gv (sx_runV (As := [.ref a1]) (rest := []) EE (hS.1.ob (kc_n0 hC) (kc_o0 hC)) rfl rfl (v_F_raiseToOnes (X := X) (hC.kept hS.1) (hS.a f1) hV) w_F_74 rfl ⟨rfl, rfl⟩ ⟨Nat.le_of_ble_eq_true rfl, Nat.le_of_ble_eq_true rfl⟩ ⟨Nat.zero_le _, Nat.zero_le _⟩ hl.1 rfl (Nat.le_of_ble_eq_true rfl) d_F_raiseForRoot_2) hS (fun H locs X1 eX1 hS hV => ?_)
  refine lv_aload_n hx hb d_F_raiseForRoot_5 rfl (lv_at hl 0 rfl) ?_
  refine lv_aload_n hx hb d_F_raiseForRoot_6 rfl (lv_at hl 1 rfl) ?_
  refine lv_aload_n hx hb d_F_raiseForRoot_7 rfl (lv_at hl 0 rfl) ?_
  refine sx_get EE (hS.1.ob (kc_n0 hC) (kc_o0 hC)) rfl i_F 3 (by decide) rfl fl_F_21 rfl d_F_raiseForRoot_8 ?_
  refine lv_iconst (v := nI 2) hx hb d_F_raiseForRoot_11 (by decide +kernel) ?_
  refine lv_aload_n hx hb d_F_raiseForRoot_12 rfl (lv_at hl 2 rfl) ?_
  refine vx_gv (sx_runV (As := [.ref a0, .ref (kq 0 3), .int (nI (2)), .ref a1]) (rest := []) EE (hS.1.ob (kc_n0 hC) (kc_o0 hC)) rfl rfl (v_F_stretch (X := X1) (hC.kept hS.1) (hS.a f0) o0 (hS.a (kc_a0_3 hC)) (by omega) (hS.a f1) hV) w_F_77 rfl ⟨rfl, rfl⟩ ⟨Nat.le_of_ble_eq_true rfl, Nat.le_of_ble_eq_true rfl⟩ ⟨Nat.zero_le _, Nat.zero_le _⟩ hl.1 rfl (Nat.le_of_ble_eq_true rfl) d_F_raiseForRoot_13) hS (fun H locs X2 eX2 hS hV => ?_)
  exact hret _ _ _ _ _ (by subst eX1 eX2; exact rfl) hS hV d_F_raiseForRoot_16
