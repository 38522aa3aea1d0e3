def LF_La_step (X : vM) (kq : Nat → Nat → Nat) (ts : Nat → Nat) (a0 : Nat) (a1 : Nat) (a2 : Nat) (a3 : Nat) : vM := (let X1 : vM := (LF_F_add X (kq 1 8) a0 a1); let X2 : vM := (LF_F_subtract X1 (kq 1 9) a0 a1); let X3 : vM := (LF_F_add X2 (kq 1 10) a2 a3); let X4 : vM := (LF_F_subtract X3 (kq 1 11) a2 a3); let X5 : vM := (LF_F_times X4 (kq 1 11) (kq 1 11) (kq 1 8)); let X6 : vM := (LF_F_times X5 (kq 1 10) (kq 1 10) (kq 1 9)); let X7 : vM := (LF_F_add X6 a2 (kq 1 11) (kq 1 10)); let X8 : vM := (LF_F_square X7 a2 a2); let X9 : vM := (LF_F_subtract X8 a3 (kq 1 11) (kq 1 10)); let X10 : vM := (LF_F_square X9 a3 a3); let X11 : vM := (LF_F_times X10 a3 a3 (kq 1 3)); let X12 : vM := (LF_F_square X11 (kq 1 8) (kq 1 8)); let X13 : vM := (LF_F_square X12 (kq 1 9) (kq 1 9)); let X14 : vM := (LF_F_times X13 a0 (kq 1 8) (kq 1 9)); let X15 : vM := (LF_F_subtract X14 (kq 1 9) (kq 1 8) (kq 1 9)); let X16 : vM := (LF_F_scale X15 a1 (kq 1 9) (121665 : Int64)); let X17 : vM := (LF_F_add X16 a1 a1 (kq 1 8)); let X18 : vM := (LF_F_times X17 a1 a1 (kq 1 9)); X18)
abbrev rm_La_step : Room := { frames := 2, cells := 0, slots := 0, locals := 99 }
set_option maxHeartbeats 4000000 in
set_option maxRecDepth 100000 in
theorem v_La_step {l : Launch} {D : va_G} {g : ClassId → FieldType → Prop} {E : Nat → Prop} {H0 : Heap} {X : vM} {kq : Nat → Nat → Nat} {ts : Nat → Nat} {a0 : Nat} {a1 : Nat} {a2 : Nat} {a3 : Nat} (hC : kc_ D g E H0 kq ts) (f0 : sx_A g .long H0 a0 10) (o0 : E a0) (f1 : sx_A g .long H0 a1 10) (o1 : E a1) (f2 : sx_A g .long H0 a2 10) (o2 : E a2) (f3 : sx_A g .long H0 a3 10) (o3 : E a3) (hV : mm g H0 = X) : Met l y_La_step (.code y_La_step b_La_step 5 none :: G_) rm_La_step (sx_Pc [.ref (kq 1 99), .ref a0, .ref a1, .ref a2, .ref a3] H0 D g) (vx_Qv g E H0 (LF_La_step X kq ts a0 a1 a2 a3)) 0 0 E := by
  refine vx_mv (own := R_La) (by decide) rfl rfl rfl (Nat.le_of_ble_eq_true rfl) ?_
  intro p e s m args below meth c Q ls EE hl hret
  obtain ⟨hx, hb, hml, hown, hts, hG, hK⟩ := id EE
  have hS : sx_S g E E H0 H0 [] := sx_S.rf
  have hz := hC.2.2.2.2
  have hl : lv_has ls 5 [(0, .ref (kq 1 99)), (1, .ref a0), (2, .ref a1), (3, .ref a2), (4, .ref a3)] := hl
  refine lv_aload_n hx hb d_La_step_0 rfl (lv_at hl 0 rfl) ?_
  refine sx_get EE (hS.1.ob (kc_n1 hC) (kc_o1 hC)) rfl i_La 8 (by decide) rfl fl_La_36 rfl d_La_step_1 ?_
  refine lv_aload_n hx hb d_La_step_4 rfl (lv_at hl 1 rfl) ?_
  refine lv_aload_n hx hb d_La_step_5 rfl (lv_at hl 2 rfl) ?_
  refine vx_gv (sx_runS (As := [.ref (kq 1 8), .ref a0, .ref a1]) (rest := []) EE (v_F_add (X := X) (hS.a (kc_a1_8 hC)) (kc_e1_8 hC) (hS.a f0) (hS.a f1) hV) w_La_96 rfl ⟨rfl, rfl⟩ ⟨Nat.le_of_ble_eq_true rfl, Nat.le_of_ble_eq_true rfl⟩ ⟨Nat.zero_le _, Nat.zero_le _⟩ hl.1 rfl (Nat.le_of_ble_eq_true rfl) d_La_step_6) hS (fun H locs X1 eX1 hS hV => ?_)
  refine lv_aload_n hx hb d_La_step_9 rfl (lv_at hl 0 rfl) ?_
  refine sx_get EE (hS.1.ob (kc_n1 hC) (kc_o1 hC)) rfl i_La 9 (by decide) rfl fl_La_39 rfl d_La_step_10 ?_
  refine lv_aload_n hx hb d_La_step_13 rfl (lv_at hl 1 rfl) ?_
  refine lv_aload_n hx hb d_La_step_14 rfl (lv_at hl 2 rfl) ?_
  refine vx_gv (sx_runS (As := [.ref (kq 1 9), .ref a0, .ref a1]) (rest := []) EE (v_F_subtract (X := X1) (hS.a (kc_a1_9 hC)) (kc_e1_9 hC) (hS.a f0) (hS.a f1) hV) w_La_99 rfl ⟨rfl, rfl⟩ ⟨Nat.le_of_ble_eq_true rfl, Nat.le_of_ble_eq_true rfl⟩ ⟨Nat.zero_le _, Nat.zero_le _⟩ hl.1 rfl (Nat.le_of_ble_eq_true rfl) d_La_step_15) hS (fun H locs X2 eX2 hS hV => ?_)
  refine lv_aload_n hx hb d_La_step_18 rfl (lv_at hl 0 rfl) ?_
  refine sx_get EE (hS.1.ob (kc_n1 hC) (kc_o1 hC)) rfl i_La 10 (by decide) rfl fl_La_42 rfl d_La_step_19 ?_
  refine lv_aload_n hx hb d_La_step_22 rfl (lv_at hl 3 rfl) ?_
  refine lv_aload hx hb d_La_step_23 (lv_at hl 4 rfl) ?_
  refine vx_gv (sx_runS (As := [.ref (kq 1 10), .ref a2, .ref a3]) (rest := []) EE (v_F_add (X := X2) (hS.a (kc_a1_10 hC)) (kc_e1_10 hC) (hS.a f2) (hS.a f3) hV) w_La_96 rfl ⟨rfl, rfl⟩ ⟨Nat.le_of_ble_eq_true rfl, Nat.le_of_ble_eq_true rfl⟩ ⟨Nat.zero_le _, Nat.zero_le _⟩ hl.1 rfl (Nat.le_of_ble_eq_true rfl) d_La_step_25) hS (fun H locs X3 eX3 hS hV => ?_)
  refine lv_aload_n hx hb d_La_step_28 rfl (lv_at hl 0 rfl) ?_
  refine sx_get EE (hS.1.ob (kc_n1 hC) (kc_o1 hC)) rfl i_La 11 (by decide) rfl fl_La_45 rfl d_La_step_29 ?_
  refine lv_aload_n hx hb d_La_step_32 rfl (lv_at hl 3 rfl) ?_
  refine lv_aload hx hb d_La_step_33 (lv_at hl 4 rfl) ?_
  refine vx_gv (sx_runS (As := [.ref (kq 1 11), .ref a2, .ref a3]) (rest := []) EE (v_F_subtract (X := X3) (hS.a (kc_a1_11 hC)) (kc_e1_11 hC) (hS.a f2) (hS.a f3) hV) w_La_99 rfl ⟨rfl, rfl⟩ ⟨Nat.le_of_ble_eq_true rfl, Nat.le_of_ble_eq_true rfl⟩ ⟨Nat.zero_le _, Nat.zero_le _⟩ hl.1 rfl (Nat.le_of_ble_eq_true rfl) d_La_step_35) hS (fun H locs X4 eX4 hS hV => ?_)
  refine lv_aload_n hx hb d_La_step_38 rfl (lv_at hl 0 rfl) ?_
  refine sx_get EE (hS.1.ob (kc_n1 hC) (kc_o1 hC)) rfl i_La 11 (by decide) rfl fl_La_45 rfl d_La_step_39 ?_
  refine lv_aload_n hx hb d_La_step_42 rfl (lv_at hl 0 rfl) ?_
  refine sx_get EE (hS.1.ob (kc_n1 hC) (kc_o1 hC)) rfl i_La 11 (by decide) rfl fl_La_45 rfl d_La_step_43 ?_
  refine lv_aload_n hx hb d_La_step_46 rfl (lv_at hl 0 rfl) ?_
  refine sx_get EE (hS.1.ob (kc_n1 hC) (kc_o1 hC)) rfl i_La 8 (by decide) rfl fl_La_36 rfl d_La_step_47 ?_
  refine vx_gv (sx_runS (As := [.ref (kq 1 11), .ref (kq 1 11), .ref (kq 1 8)]) (rest := []) EE (v_F_times (X := X4) (hS.a (kc_a1_11 hC)) (kc_e1_11 hC) (hS.a (kc_a1_11 hC)) (hS.a (kc_a1_8 hC)) hV) w_La_77 rfl ⟨rfl, rfl⟩ ⟨Nat.le_of_ble_eq_true rfl, Nat.le_of_ble_eq_true rfl⟩ ⟨Nat.zero_le _, Nat.zero_le _⟩ hl.1 rfl (Nat.le_of_ble_eq_true rfl) d_La_step_50) hS (fun H locs X5 eX5 hS hV => ?_)
  refine lv_aload_n hx hb d_La_step_53 rfl (lv_at hl 0 rfl) ?_
  refine sx_get EE (hS.1.ob (kc_n1 hC) (kc_o1 hC)) rfl i_La 10 (by decide) rfl fl_La_42 rfl d_La_step_54 ?_
  refine lv_aload_n hx hb d_La_step_57 rfl (lv_at hl 0 rfl) ?_
  refine sx_get EE (hS.1.ob (kc_n1 hC) (kc_o1 hC)) rfl i_La 10 (by decide) rfl fl_La_42 rfl d_La_step_58 ?_
  refine lv_aload_n hx hb d_La_step_61 rfl (lv_at hl 0 rfl) ?_
  refine sx_get EE (hS.1.ob (kc_n1 hC) (kc_o1 hC)) rfl i_La 9 (by decide) rfl fl_La_39 rfl d_La_step_62 ?_
  refine vx_gv (sx_runS (As := [.ref (kq 1 10), .ref (kq 1 10), .ref (kq 1 9)]) (rest := []) EE (v_F_times (X := X5) (hS.a (kc_a1_10 hC)) (kc_e1_10 hC) (hS.a (kc_a1_10 hC)) (hS.a (kc_a1_9 hC)) hV) w_La_77 rfl ⟨rfl, rfl⟩ ⟨Nat.le_of_ble_eq_true rfl, Nat.le_of_ble_eq_true rfl⟩ ⟨Nat.zero_le _, Nat.zero_le _⟩ hl.1 rfl (Nat.le_of_ble_eq_true rfl) d_La_step_65) hS (fun H locs X6 eX6 hS hV => ?_)
  refine lv_aload_n hx hb d_La_step_68 rfl (lv_at hl 3 rfl) ?_
  refine lv_aload_n hx hb d_La_step_69 rfl (lv_at hl 0 rfl) ?_
  refine sx_get EE (hS.1.ob (kc_n1 hC) (kc_o1 hC)) rfl i_La 11 (by decide) rfl fl_La_45 rfl d_La_step_70 ?_
  refine lv_aload_n hx hb d_La_step_73 rfl (lv_at hl 0 rfl) ?_
  refine sx_get EE (hS.1.ob (kc_n1 hC) (kc_o1 hC)) rfl i_La 10 (by decide) rfl fl_La_42 rfl d_La_step_74 ?_
  refine vx_gv (sx_runS (As := [.ref a2, .ref (kq 1 11), .ref (kq 1 10)]) (rest := []) EE (v_F_add (X := X6) (hS.a f2) o2 (hS.a (kc_a1_11 hC)) (hS.a (kc_a1_10 hC)) hV) w_La_96 rfl ⟨rfl, rfl⟩ ⟨Nat.le_of_ble_eq_true rfl, Nat.le_of_ble_eq_true rfl⟩ ⟨Nat.zero_le _, Nat.zero_le _⟩ hl.1 rfl (Nat.le_of_ble_eq_true rfl) d_La_step_77) hS (fun H locs X7 eX7 hS hV => ?_)
  refine lv_aload_n hx hb d_La_step_80 rfl (lv_at hl 3 rfl) ?_
  refine lv_aload_n hx hb d_La_step_81 rfl (lv_at hl 3 rfl) ?_
  refine vx_gv (sx_runS (As := [.ref a2, .ref a2]) (rest := []) EE (v_F_square (X := X7) (hS.a f2) o2 (hS.a f2) hV) w_La_102 rfl ⟨rfl, rfl⟩ ⟨Nat.le_of_ble_eq_true rfl, Nat.le_of_ble_eq_true rfl⟩ ⟨Nat.zero_le _, Nat.zero_le _⟩ hl.1 rfl (Nat.le_of_ble_eq_true rfl) d_La_step_82) hS (fun H locs X8 eX8 hS hV => ?_)
  refine lv_aload hx hb d_La_step_85 (lv_at hl 4 rfl) ?_
  refine lv_aload_n hx hb d_La_step_87 rfl (lv_at hl 0 rfl) ?_
  refine sx_get EE (hS.1.ob (kc_n1 hC) (kc_o1 hC)) rfl i_La 11 (by decide) rfl fl_La_45 rfl d_La_step_88 ?_
  refine lv_aload_n hx hb d_La_step_91 rfl (lv_at hl 0 rfl) ?_
  refine sx_get EE (hS.1.ob (kc_n1 hC) (kc_o1 hC)) rfl i_La 10 (by decide) rfl fl_La_42 rfl d_La_step_92 ?_
  refine vx_gv (sx_runS (As := [.ref a3, .ref (kq 1 11), .ref (kq 1 10)]) (rest := []) EE (v_F_subtract (X := X8) (hS.a f3) o3 (hS.a (kc_a1_11 hC)) (hS.a (kc_a1_10 hC)) hV) w_La_99 rfl ⟨rfl, rfl⟩ ⟨Nat.le_of_ble_eq_true rfl, Nat.le_of_ble_eq_true rfl⟩ ⟨Nat.zero_le _, Nat.zero_le _⟩ hl.1 rfl (Nat.le_of_ble_eq_true rfl) d_La_step_95) hS (fun H locs X9 eX9 hS hV => ?_)
  refine lv_aload hx hb d_La_step_98 (lv_at hl 4 rfl) ?_
  refine lv_aload hx hb d_La_step_100 (lv_at hl 4 rfl) ?_
  refine vx_gv (sx_runS (As := [.ref a3, .ref a3]) (rest := []) EE (v_F_square (X := X9) (hS.a f3) o3 (hS.a f3) hV) w_La_102 rfl ⟨rfl, rfl⟩ ⟨Nat.le_of_ble_eq_true rfl, Nat.le_of_ble_eq_true rfl⟩ ⟨Nat.zero_le _, Nat.zero_le _⟩ hl.1 rfl (Nat.le_of_ble_eq_true rfl) d_La_step_102) hS (fun H locs X10 eX10 hS hV => ?_)
  refine lv_aload hx hb d_La_step_105 (lv_at hl 4 rfl) ?_
  refine lv_aload hx hb d_La_step_107 (lv_at hl 4 rfl) ?_
  refine lv_aload_n hx hb d_La_step_109 rfl (lv_at hl 0 rfl) ?_
  refine sx_get EE (hS.1.ob (kc_n1 hC) (kc_o1 hC)) rfl i_La 3 (by decide) rfl fl_La_20 rfl d_La_step_110 ?_
  refine vx_gv (sx_runS (As := [.ref a3, .ref a3, .ref (kq 1 3)]) (rest := []) EE (v_F_times (X := X10) (hS.a f3) o3 (hS.a f3) (hS.a (kc_a1_3 hC)) hV) w_La_77 rfl ⟨rfl, rfl⟩ ⟨Nat.le_of_ble_eq_true rfl, Nat.le_of_ble_eq_true rfl⟩ ⟨Nat.zero_le _, Nat.zero_le _⟩ hl.1 rfl (Nat.le_of_ble_eq_true rfl) d_La_step_113) hS (fun H locs X11 eX11 hS hV => ?_)
  refine lv_aload_n hx hb d_La_step_116 rfl (lv_at hl 0 rfl) ?_
  refine sx_get EE (hS.1.ob (kc_n1 hC) (kc_o1 hC)) rfl i_La 8 (by decide) rfl fl_La_36 rfl d_La_step_117 ?_
  refine lv_aload_n hx hb d_La_step_120 rfl (lv_at hl 0 rfl) ?_
  refine sx_get EE (hS.1.ob (kc_n1 hC) (kc_o1 hC)) rfl i_La 8 (by decide) rfl fl_La_36 rfl d_La_step_121 ?_
  refine vx_gv (sx_runS (As := [.ref (kq 1 8), .ref (kq 1 8)]) (rest := []) EE (v_F_square (X := X11) (hS.a (kc_a1_8 hC)) (kc_e1_8 hC) (hS.a (kc_a1_8 hC)) hV) w_La_102 rfl ⟨rfl, rfl⟩ ⟨Nat.le_of_ble_eq_true rfl, Nat.le_of_ble_eq_true rfl⟩ ⟨Nat.zero_le _, Nat.zero_le _⟩ hl.1 rfl (Nat.le_of_ble_eq_true rfl) d_La_step_124) hS (fun H locs X12 eX12 hS hV => ?_)
  refine lv_aload_n hx hb d_La_step_127 rfl (lv_at hl 0 rfl) ?_
  refine sx_get EE (hS.1.ob (kc_n1 hC) (kc_o1 hC)) rfl i_La 9 (by decide) rfl fl_La_39 rfl d_La_step_128 ?_
  refine lv_aload_n hx hb d_La_step_131 rfl (lv_at hl 0 rfl) ?_
  refine sx_get EE (hS.1.ob (kc_n1 hC) (kc_o1 hC)) rfl i_La 9 (by decide) rfl fl_La_39 rfl d_La_step_132 ?_
  refine vx_gv (sx_runS (As := [.ref (kq 1 9), .ref (kq 1 9)]) (rest := []) EE (v_F_square (X := X12) (hS.a (kc_a1_9 hC)) (kc_e1_9 hC) (hS.a (kc_a1_9 hC)) hV) w_La_102 rfl ⟨rfl, rfl⟩ ⟨Nat.le_of_ble_eq_true rfl, Nat.le_of_ble_eq_true rfl⟩ ⟨Nat.zero_le _, Nat.zero_le _⟩ hl.1 rfl (Nat.le_of_ble_eq_true rfl) d_La_step_135) hS (fun H locs X13 eX13 hS hV => ?_)
  refine lv_aload_n hx hb d_La_step_138 rfl (lv_at hl 1 rfl) ?_
  refine lv_aload_n hx hb d_La_step_139 rfl (lv_at hl 0 rfl) ?_
  refine sx_get EE (hS.1.ob (kc_n1 hC) (kc_o1 hC)) rfl i_La 8 (by decide) rfl fl_La_36 rfl d_La_step_140 ?_
  refine lv_aload_n hx hb d_La_step_143 rfl (lv_at hl 0 rfl) ?_
  refine sx_get EE (hS.1.ob (kc_n1 hC) (kc_o1 hC)) rfl i_La 9 (by decide) rfl fl_La_39 rfl d_La_step_144 ?_
  refine vx_gv (sx_runS (As := [.ref a0, .ref (kq 1 8), .ref (kq 1 9)]) (rest := []) EE (v_F_times (X := X13) (hS.a f0) o0 (hS.a (kc_a1_8 hC)) (hS.a (kc_a1_9 hC)) hV) w_La_77 rfl ⟨rfl, rfl⟩ ⟨Nat.le_of_ble_eq_true rfl, Nat.le_of_ble_eq_true rfl⟩ ⟨Nat.zero_le _, Nat.zero_le _⟩ hl.1 rfl (Nat.le_of_ble_eq_true rfl) d_La_step_147) hS (fun H locs X14 eX14 hS hV => ?_)
  refine lv_aload_n hx hb d_La_step_150 rfl (lv_at hl 0 rfl) ?_
  refine sx_get EE (hS.1.ob (kc_n1 hC) (kc_o1 hC)) rfl i_La 9 (by decide) rfl fl_La_39 rfl d_La_step_151 ?_
  refine lv_aload_n hx hb d_La_step_154 rfl (lv_at hl 0 rfl) ?_
  refine sx_get EE (hS.1.ob (kc_n1 hC) (kc_o1 hC)) rfl i_La 8 (by decide) rfl fl_La_36 rfl d_La_step_155 ?_
  refine lv_aload_n hx hb d_La_step_158 rfl (lv_at hl 0 rfl) ?_
  refine sx_get EE (hS.1.ob (kc_n1 hC) (kc_o1 hC)) rfl i_La 9 (by decide) rfl fl_La_39 rfl d_La_step_159 ?_
  refine vx_gv (sx_runS (As := [.ref (kq 1 9), .ref (kq 1 8), .ref (kq 1 9)]) (rest := []) EE (v_F_subtract (X := X14) (hS.a (kc_a1_9 hC)) (kc_e1_9 hC) (hS.a (kc_a1_8 hC)) (hS.a (kc_a1_9 hC)) hV) w_La_99 rfl ⟨rfl, rfl⟩ ⟨Nat.le_of_ble_eq_true rfl, Nat.le_of_ble_eq_true rfl⟩ ⟨Nat.zero_le _, Nat.zero_le _⟩ hl.1 rfl (Nat.le_of_ble_eq_true rfl) d_La_step_162) hS (fun H locs X15 eX15 hS hV => ?_)
  refine lv_aload_n hx hb d_La_step_165 rfl (lv_at hl 2 rfl) ?_
  refine lv_aload_n hx hb d_La_step_166 rfl (lv_at hl 0 rfl) ?_
  refine sx_get EE (hS.1.ob (kc_n1 hC) (kc_o1 hC)) rfl i_La 9 (by decide) rfl fl_La_39 rfl d_La_step_167 ?_
  refine lv_ldc2 (v := (121665)) hx hb hown (hts (.constantLong R_La 105 (121665)) (by decide +kernel)) d_La_step_170 ?_
  refine vx_gv (sx_runS (As := [.ref a1, .ref (kq 1 9), .long (121665 : Int64)]) (rest := []) EE (v_F_scale (X := X15) (hS.a f1) o1 (hS.a (kc_a1_9 hC)) hV) w_La_107 rfl ⟨rfl, rfl⟩ ⟨Nat.le_of_ble_eq_true rfl, Nat.le_of_ble_eq_true rfl⟩ ⟨Nat.zero_le _, Nat.zero_le _⟩ hl.1 rfl (Nat.le_of_ble_eq_true rfl) d_La_step_173) hS (fun H locs X16 eX16 hS hV => ?_)
  refine lv_aload_n hx hb d_La_step_176 rfl (lv_at hl 2 rfl) ?_
  refine lv_aload_n hx hb d_La_step_177 rfl (lv_at hl 2 rfl) ?_
  refine lv_aload_n hx hb d_La_step_178 rfl (lv_at hl 0 rfl) ?_
  refine sx_get EE (hS.1.ob (kc_n1 hC) (kc_o1 hC)) rfl i_La 8 (by decide) rfl fl_La_36 rfl d_La_step_179 ?_
  refine vx_gv (sx_runS (As := [.ref a1, .ref a1, .ref (kq 1 8)]) (rest := []) EE (v_F_add (X := X16) (hS.a f1) o1 (hS.a f1) (hS.a (kc_a1_8 hC)) hV) w_La_96 rfl ⟨rfl, rfl⟩ ⟨Nat.le_of_ble_eq_true rfl, Nat.le_of_ble_eq_true rfl⟩ ⟨Nat.zero_le _, Nat.zero_le _⟩ hl.1 rfl (Nat.le_of_ble_eq_true rfl) d_La_step_182) hS (fun H locs X17 eX17 hS hV => ?_)
  refine lv_aload_n hx hb d_La_step_185 rfl (lv_at hl 2 rfl) ?_
  refine lv_aload_n hx hb d_La_step_186 rfl (lv_at hl 2 rfl) ?_
  refine lv_aload_n hx hb d_La_step_187 rfl (lv_at hl 0 rfl) ?_
  refine sx_get EE (hS.1.ob (kc_n1 hC) (kc_o1 hC)) rfl i_La 9 (by decide) rfl fl_La_39 rfl d_La_step_188 ?_
  refine vx_gv (sx_runS (As := [.ref a1, .ref a1, .ref (kq 1 9)]) (rest := []) EE (v_F_times (X := X17) (hS.a f1) o1 (hS.a f1) (hS.a (kc_a1_9 hC)) hV) w_La_77 rfl ⟨rfl, rfl⟩ ⟨Nat.le_of_ble_eq_true rfl, Nat.le_of_ble_eq_true rfl⟩ ⟨Nat.zero_le _, Nat.zero_le _⟩ hl.1 rfl (Nat.le_of_ble_eq_true rfl) d_La_step_191) hS (fun H locs X18 eX18 hS hV => ?_)
  exact hret _ _ _ _ _ (by subst eX1 eX2 eX3 eX4 eX5 eX6 eX7 eX8 eX9 eX10 eX11 eX12 eX13 eX14 eX15 eX16 eX17 eX18; exact rfl) hS hV d_La_step_194
def LL_La_climb_39 (kq : Nat → Nat → Nat) (ts : Nat → Nat) : Nat → vM → vM := fun i_0 s_1 => (let J_2 : vM := if (((s_1.2 (kq 1 1) (i_0 / 8)) >>> ((nI (i_0 % 8)) &&& 31)) &&& (nI 1)) = (0 : Int32) then (let X_3 : vM := (LF_La_step s_1 kq ts (kq 1 4) (kq 1 5) (kq 1 6) (kq 1 7)); X_3) else (let X_4 : vM := (LF_La_step s_1 kq ts (kq 1 6) (kq 1 7) (kq 1 4) (kq 1 5)); X_4); J_2)
def LF_La_climb (X : vM) (kq : Nat → Nat → Nat) (ts : Nat → Nat) : vM := (let X1 : vM := (LF_F_set X (kq 1 4) (1 : Int64)); let X2 : vM := (LF_F_set X1 (kq 1 5) (0 : Int64)); let X3 : vM := (LF_F_copy X2 (kq 1 6) (kq 1 3)); let X4 : vM := (LF_F_set X3 (kq 1 7) (1 : Int64)); let R7 : vM := lpD (LL_La_climb_39 kq ts) 255 X4; R7)
abbrev rm_La_climb : Room := { frames := 3, cells := 0, slots := 0, locals := 123 }
set_option maxHeartbeats 4000000 in
set_option maxRecDepth 100000 in
theorem v_La_climb {l : Launch} {D : va_G} {g : ClassId → FieldType → Prop} {E : Nat → Prop} {H0 : Heap} {X : vM} {kq : Nat → Nat → Nat} {ts : Nat → Nat} (hC : kc_ D g E H0 kq ts) (hV : mm g H0 = X) : Met l y_La_climb (.code y_La_climb b_La_climb 2 none :: G_) rm_La_climb (sx_Pc [.ref (kq 1 99)] H0 D g) (vx_Qv g E H0 (LF_La_climb X kq ts)) 0 0 E := by
  refine vx_mv (own := R_La) (by decide) rfl rfl rfl (Nat.le_of_ble_eq_true rfl) ?_
  intro p e s m args below meth c Q ls EE hl hret
  obtain ⟨hx, hb, hml, hown, hts, hG, hK⟩ := id EE
  have hS : sx_S g E E H0 H0 [] := sx_S.rf
  have hz := hC.2.2.2.2
  have hl : lv_has ls 2 [(0, .ref (kq 1 99))] := hl
  refine lv_aload_n hx hb d_La_climb_0 rfl (lv_at hl 0 rfl) ?_
  refine sx_get EE (hS.1.ob (kc_n1 hC) (kc_o1 hC)) rfl i_La 4 (by decide) rfl fl_La_24 rfl d_La_climb_1 ?_
  refine lv_lconst (v := 1) hx hb d_La_climb_4 (by decide +kernel) ?_
  refine vx_gv (sx_runS (As := [.ref (kq 1 4), .long (1 : Int64)]) (rest := []) EE (v_F_set (X := X) (hS.a (kc_a1_4 hC)) (hS.1.2.2.2 _ _ (kc_l1_4 hC)) (kc_e1_4 hC) hV) w_La_85 rfl ⟨rfl, rfl⟩ ⟨Nat.le_of_ble_eq_true rfl, Nat.le_of_ble_eq_true rfl⟩ ⟨Nat.zero_le _, Nat.zero_le _⟩ hl.1 rfl (Nat.le_of_ble_eq_true rfl) d_La_climb_5) hS (fun H locs X1 eX1 hS hV => ?_)
  refine lv_aload_n hx hb d_La_climb_8 rfl (lv_at hl 0 rfl) ?_
  refine sx_get EE (hS.1.ob (kc_n1 hC) (kc_o1 hC)) rfl i_La 5 (by decide) rfl fl_La_27 rfl d_La_climb_9 ?_
  refine lv_lconst (v := 0) hx hb d_La_climb_12 (by decide +kernel) ?_
  refine vx_gv (sx_runS (As := [.ref (kq 1 5), .long (0 : Int64)]) (rest := []) EE (v_F_set (X := X1) (hS.a (kc_a1_5 hC)) (hS.1.2.2.2 _ _ (kc_l1_5 hC)) (kc_e1_5 hC) hV) w_La_85 rfl ⟨rfl, rfl⟩ ⟨Nat.le_of_ble_eq_true rfl, Nat.le_of_ble_eq_true rfl⟩ ⟨Nat.zero_le _, Nat.zero_le _⟩ hl.1 rfl (Nat.le_of_ble_eq_true rfl) d_La_climb_13) hS (fun H locs X2 eX2 hS hV => ?_)
  refine lv_aload_n hx hb d_La_climb_16 rfl (lv_at hl 0 rfl) ?_
  refine sx_get EE (hS.1.ob (kc_n1 hC) (kc_o1 hC)) rfl i_La 6 (by decide) rfl fl_La_30 rfl d_La_climb_17 ?_
  refine lv_aload_n hx hb d_La_climb_20 rfl (lv_at hl 0 rfl) ?_
  refine sx_get EE (hS.1.ob (kc_n1 hC) (kc_o1 hC)) rfl i_La 3 (by decide) rfl fl_La_20 rfl d_La_climb_21 ?_
  refine vx_gv (sx_runS (As := [.ref (kq 1 6), .ref (kq 1 3)]) (rest := []) EE (v_F_copy (X := X2) (hS.a (kc_a1_6 hC)) (kc_e1_6 hC) (hS.a (kc_a1_3 hC)) hV) w_La_89 rfl ⟨rfl, rfl⟩ ⟨Nat.le_of_ble_eq_true rfl, Nat.le_of_ble_eq_true rfl⟩ ⟨Nat.zero_le _, Nat.zero_le _⟩ hl.1 rfl (Nat.le_of_ble_eq_true rfl) d_La_climb_24) hS (fun H locs X3 eX3 hS hV => ?_)
  refine lv_aload_n hx hb d_La_climb_27 rfl (lv_at hl 0 rfl) ?_
  refine sx_get EE (hS.1.ob (kc_n1 hC) (kc_o1 hC)) rfl i_La 7 (by decide) rfl fl_La_33 rfl d_La_climb_28 ?_
  refine lv_lconst (v := 1) hx hb d_La_climb_31 (by decide +kernel) ?_
  refine vx_gv (sx_runS (As := [.ref (kq 1 7), .long (1 : Int64)]) (rest := []) EE (v_F_set (X := X3) (hS.a (kc_a1_7 hC)) (hS.1.2.2.2 _ _ (kc_l1_7 hC)) (kc_e1_7 hC) hV) w_La_85 rfl ⟨rfl, rfl⟩ ⟨Nat.le_of_ble_eq_true rfl, Nat.le_of_ble_eq_true rfl⟩ ⟨Nat.zero_le _, Nat.zero_le _⟩ hl.1 rfl (Nat.le_of_ble_eq_true rfl) d_La_climb_32) hS (fun H locs X4 eX4 hS hV => ?_)
  refine lv_sipush (v := nI 254) hx hb d_La_climb_35 (by decide +kernel) ?_
  refine lv_istore_n (lv' := [(1, .int (nI (254))), (0, .ref (kq 1 99))]) hx hb d_La_climb_38 rfl hl (by decide) rfl (fun ls hl => ?_)
  obtain ⟨R7, eR7⟩ : ∃ t : vM, lpD (LL_La_climb_39 kq ts) 255 X4 = t := ⟨_, rfl⟩
  rw [show (nI (254)) = nI 255 - 1 from (nI_pred _).symm] at hl
  refine lpD_go (σ := vM) (P := fun i5 s6 H locs ls => sx_S g E E H0 H locs ∧ mm g H = s6 ∧ lv_has ls 2 [(1, .int (nI i5 - 1)), (0, .ref (kq 1 99))]) (Wd := fun H locs ls => W p l e rm_La_climb s m args below meth c H locs 0 0 Q (F0 m 39 ls [])) (N := 255) ?_ ?_ 255 _ (by omega) eR7 _ _ _ ⟨hS, hV, lv_sub hl [0, 1] rfl⟩
  · intro i5 s6 H locs ls hii5 hP ihi5
    obtain ⟨hS, hV, hl⟩ := hP
    rw [nI_pred] at hl
    refine lv_iload_n hx hb d_La_climb_39 rfl (lv_at hl 0 rfl) ?_
    refine lv_if_lt (tgt := 110) hx hb d_La_climb_40 (by decide) (fun q => absurd q (nI_pos (by omega))) (fun _ => ?_)
    refine lv_aload_n hx hb d_La_climb_43 rfl (lv_at hl 1 rfl) ?_
    refine sx_get EE (hS.1.ob (kc_n1 hC) (kc_o1 hC)) rfl i_La 1 (by decide) rfl fl_La_9 rfl d_La_climb_44 ?_
    refine lv_iload_n hx hb d_La_climb_47 rfl (lv_at hl 0 rfl) ?_
    refine lv_iconst (v := nI 3) hx hb d_La_climb_48 (by decide +kernel) ?_
    refine lv_ishr hx hb d_La_climb_49 ?_
    refine sx_ti (y := nI (i5 / 8)) (pk_shrN (by omega) _ 3 (by decide +kernel)) ?_
    refine vx_bald hx hb hG hS hV (kc_a1_1 hC) (by omega) (by decide) d_La_climb_50 ?_
    refine lv_iload_n hx hb d_La_climb_51 rfl (lv_at hl 0 rfl) ?_
    refine lv_bipush (v := nI 7) hx hb d_La_climb_52 (by decide +kernel) ?_
    refine lv_iand hx hb d_La_climb_54 ?_
    refine sx_ti (y := nI (i5 % 8)) (pk_andN (by omega) 3 (by decide +kernel)) ?_
    refine lv_ishr hx hb d_La_climb_55 ?_
    refine lv_iconst (v := nI 1) hx hb d_La_climb_56 (by decide +kernel) ?_
    refine lv_iand hx hb d_La_climb_57 ?_
    have jn104_11 : ∀ (J11 : vM) (H : Heap) (locs : List Loc) (ls : Array Slot), (if (((s6.2 (kq 1 1) (i5 / 8)) >>> ((nI (i5 % 8)) &&& 31)) &&& (nI 1)) = (0 : Int32) then (let X10 : vM := (LF_La_step s6 kq ts (kq 1 4) (kq 1 5) (kq 1 6) (kq 1 7)); X10) else (let X9 : vM := (LF_La_step s6 kq ts (kq 1 6) (kq 1 7) (kq 1 4) (kq 1 5)); X9)) = J11 → sx_S g E E H0 H locs → mm g H = J11 → lv_has ls 2 [(1, .int (nI (i5))), (0, .ref (kq 1 99))] → W p l e rm_La_climb s m args below meth c H locs 0 0 Q (F0 m 104 ls []) := by
      intro J11 H locs ls eJ11 hS hV hl
      refine lv_iinc (v := nI i5 - 1) (lv' := [(1, .int (nI i5 - 1)), (0, .ref (kq 1 99))]) hx hb d_La_climb_104 hl (k := 0) rfl (sx_dn _) (by decide) rfl (fun ls hl => ?_)
      refine lv_goto (tgt := 39) hx hb d_La_climb_107 (by decide) ?_
      exact ihi5 J11 _ _ _ (by subst eJ11; exact rfl) ⟨hS, hV, lv_sub hl [0, 1] rfl⟩
    refine lv_if_ne (tgt := 84) hx hb d_La_climb_58 (by decide) (fun q58_7 => ?_) (fun q58_7 => ?_)
    · skip
      refine lv_aload_n hx hb d_La_climb_84 rfl (lv_at hl 1 rfl) ?_
      refine lv_aload_n hx hb d_La_climb_85 rfl (lv_at hl 1 rfl) ?_
      refine sx_get EE (hS.1.ob (kc_n1 hC) (kc_o1 hC)) rfl i_La 6 (by decide) rfl fl_La_30 rfl d_La_climb_86 ?_
      refine lv_aload_n hx hb d_La_climb_89 rfl (lv_at hl 1 rfl) ?_
      refine sx_get EE (hS.1.ob (kc_n1 hC) (kc_o1 hC)) rfl i_La 7 (by decide) rfl fl_La_33 rfl d_La_climb_90 ?_
      refine lv_aload_n hx hb d_La_climb_93 rfl (lv_at hl 1 rfl) ?_
      refine sx_get EE (hS.1.ob (kc_n1 hC) (kc_o1 hC)) rfl i_La 4 (by decide) rfl fl_La_24 rfl d_La_climb_94 ?_
      refine lv_aload_n hx hb d_La_climb_97 rfl (lv_at hl 1 rfl) ?_
      refine sx_get EE (hS.1.ob (kc_n1 hC) (kc_o1 hC)) rfl i_La 5 (by decide) rfl fl_La_27 rfl d_La_climb_98 ?_
      refine vx_gv (sx_runV (As := [.ref (kq 1 6), .ref (kq 1 7), .ref (kq 1 4), .ref (kq 1 5)]) (rest := []) EE (hS.1.ob (kc_n1 hC) (kc_o1 hC)) rfl rfl (v_La_step (X := s6) (hC.kept hS.1) (hS.a (kc_a1_6 hC)) (kc_e1_6 hC) (hS.a (kc_a1_7 hC)) (kc_e1_7 hC) (hS.a (kc_a1_4 hC)) (kc_e1_4 hC) (hS.a (kc_a1_5 hC)) (kc_e1_5 hC) hV) w_La_92 rfl ⟨rfl, rfl⟩ ⟨Nat.le_of_ble_eq_true rfl, Nat.le_of_ble_eq_true rfl⟩ ⟨Nat.zero_le _, Nat.zero_le _⟩ hl.1 rfl (Nat.le_of_ble_eq_true rfl) d_La_climb_101) hS (fun H locs X13 eX13 hS hV => ?_)
      exact jn104_11 X13 _ _ _ (by subst eX13; exact (vx_n q58_7 rfl)) hS hV (lv_sub hl [0, 1] rfl)
    · skip
      refine lv_aload_n hx hb d_La_climb_61 rfl (lv_at hl 1 rfl) ?_
      refine lv_aload_n hx hb d_La_climb_62 rfl (lv_at hl 1 rfl) ?_
      refine sx_get EE (hS.1.ob (kc_n1 hC) (kc_o1 hC)) rfl i_La 4 (by decide) rfl fl_La_24 rfl d_La_climb_63 ?_
      refine lv_aload_n hx hb d_La_climb_66 rfl (lv_at hl 1 rfl) ?_
      refine sx_get EE (hS.1.ob (kc_n1 hC) (kc_o1 hC)) rfl i_La 5 (by decide) rfl fl_La_27 rfl d_La_climb_67 ?_
      refine lv_aload_n hx hb d_La_climb_70 rfl (lv_at hl 1 rfl) ?_
      refine sx_get EE (hS.1.ob (kc_n1 hC) (kc_o1 hC)) rfl i_La 6 (by decide) rfl fl_La_30 rfl d_La_climb_71 ?_
      refine lv_aload_n hx hb d_La_climb_74 rfl (lv_at hl 1 rfl) ?_
      refine sx_get EE (hS.1.ob (kc_n1 hC) (kc_o1 hC)) rfl i_La 7 (by decide) rfl fl_La_33 rfl d_La_climb_75 ?_
      refine vx_gv (sx_runV (As := [.ref (kq 1 4), .ref (kq 1 5), .ref (kq 1 6), .ref (kq 1 7)]) (rest := []) EE (hS.1.ob (kc_n1 hC) (kc_o1 hC)) rfl rfl (v_La_step (X := s6) (hC.kept hS.1) (hS.a (kc_a1_4 hC)) (kc_e1_4 hC) (hS.a (kc_a1_5 hC)) (kc_e1_5 hC) (hS.a (kc_a1_6 hC)) (kc_e1_6 hC) (hS.a (kc_a1_7 hC)) (kc_e1_7 hC) hV) w_La_92 rfl ⟨rfl, rfl⟩ ⟨Nat.le_of_ble_eq_true rfl, Nat.le_of_ble_eq_true rfl⟩ ⟨Nat.zero_le _, Nat.zero_le _⟩ hl.1 rfl (Nat.le_of_ble_eq_true rfl) d_La_climb_78) hS (fun H locs X14 eX14 hS hV => ?_)
      refine lv_goto (tgt := 104) hx hb d_La_climb_81 (by decide) ?_
      exact jn104_11 X14 _ _ _ (by subst eX14; exact (vx_p q58_7 rfl)) hS hV (lv_sub hl [0, 1] rfl)
  · intro H locs ls hP
    obtain ⟨hS, hV, hl⟩ := hP
    refine lv_iload_n hx hb d_La_climb_39 rfl (lv_at hl 0 rfl) ?_
    refine lv_if_lt (tgt := 110) hx hb d_La_climb_40 (by decide) (fun _ => ?_) (fun q => absurd (by decide +kernel) q)
    exact hret _ _ _ _ _ (by subst eX1 eX2 eX3 eX4 eR7; exact rfl) hS hV d_La_climb_110
def LF_La_writeProduct (X : vM) (kq : Nat → Nat → Nat) (ts : Nat → Nat) (a0 : Nat) (a1 : Nat) (a2 : Nat) : vM := (let X1 : vM := cpI X a1 0 (kq 1 1) 0 32; let X2 : vM := (LF_K_clamp X1 (kq 1 1)); let X3 : vM := (LF_F_read X2 (kq 1 3) a2 ts); let X4 : vM := (LF_La_climb X3 kq ts); let X5 : vM := (LF_F_invert X4 kq ts (kq 1 5) (kq 1 5)); let X6 : vM := (LF_F_times X5 (kq 1 4) (kq 1 4) (kq 1 5)); let X7 : vM := (LF_F_write X6 kq ts a0 (kq 1 4)); X7)
abbrev rm_La_writeProduct : Room := { frames := 5, cells := 0, slots := 0, locals := 189 }
set_option maxHeartbeats 4000000 in
set_option maxRecDepth 100000 in
theorem v_La_writeProduct {l : Launch} {D : va_G} {g : ClassId → FieldType → Prop} {E : Nat → Prop} {H0 : Heap} {X : vM} {kq : Nat → Nat → Nat} {ts : Nat → Nat} {a0 : Nat} {a1 : Nat} {a2 : Nat} (hC : kc_ D g E H0 kq ts) (f0 : sx_A g .byte H0 a0 32) (o0 : E a0) (f1 : sx_A g .byte H0 a1 32) (f2 : sx_A g .byte H0 a2 32) (hV : mm g H0 = X) : Met l y_La_writeProduct (.code y_La_writeProduct b_La_writeProduct 4 none :: G_) rm_La_writeProduct (sx_Pc [.ref (kq 1 99), .ref a0, .ref a1, .ref a2] H0 D g) (vx_Qv g E H0 (LF_La_writeProduct X kq ts a0 a1 a2)) 0 0 E := by
  refine vx_mv (own := R_La) (by decide) rfl rfl rfl (Nat.le_of_ble_eq_true rfl) ?_
  intro p e s m args below meth c Q ls EE hl hret
  obtain ⟨hx, hb, hml, hown, hts, hG, hK⟩ := id EE
  have hS : sx_S g E E H0 H0 [] := sx_S.rf
  have hz := hC.2.2.2.2
  have hl : lv_has ls 4 [(0, .ref (kq 1 99)), (1, .ref a0), (2, .ref a1), (3, .ref a2)] := hl
  refine lv_aload_n hx hb d_La_writeProduct_0 rfl (lv_at hl 2 rfl) ?_
  refine lv_iconst (v := nI 0) hx hb d_La_writeProduct_1 (by decide +kernel) ?_
  refine lv_aload_n hx hb d_La_writeProduct_2 rfl (lv_at hl 0 rfl) ?_
  refine sx_get EE (hS.1.ob (kc_n1 hC) (kc_o1 hC)) rfl i_La 1 (by decide) rfl fl_La_9 rfl d_La_writeProduct_3 ?_
  refine lv_iconst (v := nI 0) hx hb d_La_writeProduct_6 (by decide +kernel) ?_
  refine lv_bipush (v := nI 32) hx hb d_La_writeProduct_7 (by decide +kernel) ?_
  refine vx_cpyB hx hb (by rw [hml]; exact hl.1.symm) hown (hts (.methodLink R_La 56 arraycopyName) (by decide +kernel)) (hts (.native arraycopyName) (by decide +kernel)) (hts (.static arraycopyName) (by decide +kernel)) (hts (.initialized "java/lang/System") (by decide +kernel)) hG hS hV f1 (kc_a1_1 hC) (kc_e1_1 hC) (by omega) (by omega) (by omega) (by omega) (Nat.le_of_ble_eq_true rfl) (Nat.le_of_ble_eq_true rfl) d_La_writeProduct_9 (fun H locs X1 eX1 hS hV => ?_)
  refine lv_aload_n hx hb d_La_writeProduct_12 rfl (lv_at hl 0 rfl) ?_
  refine sx_get EE (hS.1.ob (kc_n1 hC) (kc_o1 hC)) rfl i_La 1 (by decide) rfl fl_La_9 rfl d_La_writeProduct_13 ?_
  refine vx_gv (sx_runSN (As := [.ref (kq 1 1)]) (rest := []) EE (v_K_clamp (X := X1) (hS.a (kc_a1_1 hC)) (kc_e1_1 hC) hV) ln_La_62 wn_La_62 rfl ⟨rfl, rfl⟩ ⟨Nat.le_of_ble_eq_true rfl, Nat.le_of_ble_eq_true rfl⟩ ⟨Nat.zero_le _, Nat.zero_le _⟩ hl.1 rfl (Nat.le_of_ble_eq_true rfl) d_La_writeProduct_16) hS (fun H locs X2 eX2 hS hV => ?_)
  refine lv_aload_n hx hb d_La_writeProduct_19 rfl (lv_at hl 0 rfl) ?_
  refine sx_get EE (hS.1.ob (kc_n1 hC) (kc_o1 hC)) rfl i_La 3 (by decide) rfl fl_La_20 rfl d_La_writeProduct_20 ?_
  refine lv_aload_n hx hb d_La_writeProduct_23 rfl (lv_at hl 3 rfl) ?_
  refine vx_gv (sx_runS (As := [.ref (kq 1 3), .ref a2]) (rest := []) EE (v_F_read (X := X2) (hS.a (kc_a1_3 hC)) (kc_e1_3 hC) (hS.a f2) (hz.kept hS.1) hV) w_La_66 rfl ⟨rfl, rfl⟩ ⟨Nat.le_of_ble_eq_true rfl, Nat.le_of_ble_eq_true rfl⟩ ⟨Nat.zero_le _, Nat.zero_le _⟩ hl.1 rfl (Nat.le_of_ble_eq_true rfl) d_La_writeProduct_24) hS (fun H locs X3 eX3 hS hV => ?_)
  refine lv_aload_n hx hb d_La_writeProduct_27 rfl (lv_at hl 0 rfl) ?_
  refine vx_gv (sx_runV (As := []) (rest := []) EE (hS.1.ob (kc_n1 hC) (kc_o1 hC)) rfl rfl (v_La_climb (X := X3) (hC.kept hS.1) hV) w_La_70 rfl ⟨rfl, rfl⟩ ⟨Nat.le_of_ble_eq_true rfl, Nat.le_of_ble_eq_true rfl⟩ ⟨Nat.zero_le _, Nat.zero_le _⟩ hl.1 rfl (Nat.le_of_ble_eq_true rfl) d_La_writeProduct_28) hS (fun H locs X4 eX4 hS hV => ?_)
  refine lv_aload_n hx hb d_La_writeProduct_31 rfl (lv_at hl 0 rfl) ?_
  refine sx_get EE (hS.1.ob (kc_n1 hC) (kc_o1 hC)) rfl i_La 0 (by decide) rfl fl_La_48 rfl d_La_writeProduct_32 ?_
  refine lv_aload_n hx hb d_La_writeProduct_35 rfl (lv_at hl 0 rfl) ?_
  refine sx_get EE (hS.1.ob (kc_n1 hC) (kc_o1 hC)) rfl i_La 5 (by decide) rfl fl_La_27 rfl d_La_writeProduct_36 ?_
  refine lv_aload_n hx hb d_La_writeProduct_39 rfl (lv_at hl 0 rfl) ?_
  refine sx_get EE (hS.1.ob (kc_n1 hC) (kc_o1 hC)) rfl i_La 5 (by decide) rfl fl_La_27 rfl d_La_writeProduct_40 ?_
  refine vx_gv (sx_runV (As := [.ref (kq 1 5), .ref (kq 1 5)]) (rest := []) EE (hS.1.ob (kc_n0 hC) (kc_o0 hC)) rfl rfl (v_F_invert (X := X4) (hC.kept hS.1) (hS.a (kc_a1_5 hC)) (kc_e1_5 hC) (hS.a (kc_a1_5 hC)) hV) w_La_73 rfl ⟨rfl, rfl⟩ ⟨Nat.le_of_ble_eq_true rfl, Nat.le_of_ble_eq_true rfl⟩ ⟨Nat.zero_le _, Nat.zero_le _⟩ hl.1 rfl (Nat.le_of_ble_eq_true rfl) d_La_writeProduct_43) hS (fun H locs X5 eX5 hS hV => ?_)
  refine lv_aload_n hx hb d_La_writeProduct_46 rfl (lv_at hl 0 rfl) ?_
  refine sx_get EE (hS.1.ob (kc_n1 hC) (kc_o1 hC)) rfl i_La 4 (by decide) rfl fl_La_24 rfl d_La_writeProduct_47 ?_
  refine lv_aload_n hx hb d_La_writeProduct_50 rfl (lv_at hl 0 rfl) ?_
  refine sx_get EE (hS.1.ob (kc_n1 hC) (kc_o1 hC)) rfl i_La 4 (by decide) rfl fl_La_24 rfl d_La_writeProduct_51 ?_
  refine lv_aload_n hx hb d_La_writeProduct_54 rfl (lv_at hl 0 rfl) ?_
  refine sx_get EE (hS.1.ob (kc_n1 hC) (kc_o1 hC)) rfl i_La 5 (by decide) rfl fl_La_27 rfl d_La_writeProduct_55 ?_
  refine vx_gv (sx_runS (As := [.ref (kq 1 4), .ref (kq 1 4), .ref (kq 1 5)]) (rest := []) EE (v_F_times (X := X5) (hS.a (kc_a1_4 hC)) (kc_e1_4 hC) (hS.a (kc_a1_4 hC)) (hS.a (kc_a1_5 hC)) hV) w_La_77 rfl ⟨rfl, rfl⟩ ⟨Nat.le_of_ble_eq_true rfl, Nat.le_of_ble_eq_true rfl⟩ ⟨Nat.zero_le _, Nat.zero_le _⟩ hl.1 rfl (Nat.le_of_ble_eq_true rfl) d_La_writeProduct_58) hS (fun H locs X6 eX6 hS hV => ?_)
  refine lv_aload_n hx hb d_La_writeProduct_61 rfl (lv_at hl 0 rfl) ?_
  refine sx_get EE (hS.1.ob (kc_n1 hC) (kc_o1 hC)) rfl i_La 0 (by decide) rfl fl_La_48 rfl d_La_writeProduct_62 ?_
  refine lv_aload_n hx hb d_La_writeProduct_65 rfl (lv_at hl 1 rfl) ?_
  refine lv_aload_n hx hb d_La_writeProduct_66 rfl (lv_at hl 0 rfl) ?_
  refine sx_get EE (hS.1.ob (kc_n1 hC) (kc_o1 hC)) rfl i_La 4 (by decide) rfl fl_La_24 rfl d_La_writeProduct_67 ?_
  refine vx_gv (sx_runV (As := [.ref a0, .ref (kq 1 4)]) (rest := []) EE (hS.1.ob (kc_n0 hC) (kc_o0 hC)) rfl rfl (v_F_write (X := X6) (hC.kept hS.1) (hS.a f0) o0 (hS.a (kc_a1_4 hC)) hV) w_La_81 rfl ⟨rfl, rfl⟩ ⟨Nat.le_of_ble_eq_true rfl, Nat.le_of_ble_eq_true rfl⟩ ⟨Nat.zero_le _, Nat.zero_le _⟩ hl.1 rfl (Nat.le_of_ble_eq_true rfl) d_La_writeProduct_70) hS (fun H locs X7 eX7 hS hV => ?_)
  exact hret _ _ _ _ _ (by subst eX1 eX2 eX3 eX4 eX5 eX6 eX7; exact rfl) hS hV d_La_writeProduct_73
def LF_La_writePublicKey (X : vM) (kq : Nat → Nat → Nat) (ts : Nat → Nat) (a0 : Nat) (a1 : Nat) : vM := (let X1 : vM := (LF_La_writeProduct X kq ts a0 a1 (kq 1 2)); X1)
abbrev rm_La_writePublicKey : Room := { frames := 6, cells := 0, slots := 0, locals := 212 }
set_option maxHeartbeats 4000000 in
set_option maxRecDepth 100000 in
theorem v_La_writePublicKey {l : Launch} {D : va_G} {g : ClassId → FieldType → Prop} {E : Nat → Prop} {H0 : Heap} {X : vM} {kq : Nat → Nat → Nat} {ts : Nat → Nat} {a0 : Nat} {a1 : Nat} (hC : kc_ D g E H0 kq ts) (f0 : sx_A g .byte H0 a0 32) (o0 : E a0) (f1 : sx_A g .byte H0 a1 32) (hV : mm g H0 = X) : Met l y_La_writePublicKey (.code y_La_writePublicKey b_La_writePublicKey 3 none :: G_) rm_La_writePublicKey (sx_Pc [.ref (kq 1 99), .ref a0, .ref a1] H0 D g) (vx_Qv g E H0 (LF_La_writePublicKey X kq ts a0 a1)) 0 0 E := by
  refine vx_mv (own := R_La) (by decide) rfl rfl rfl (Nat.le_of_ble_eq_true rfl) ?_
  intro p e s m args below meth c Q ls EE hl hret
  obtain ⟨hx, hb, hml, hown, hts, hG, hK⟩ := id EE
  have hS : sx_S g E E H0 H0 [] := sx_S.rf
  have hz := hC.2.2.2.2
  have hl : lv_has ls 3 [(0, .ref (kq 1 99)), (1, .ref a0), (2, .ref a1)] := hl
  refine lv_aload_n hx hb d_La_writePublicKey_0 rfl (lv_at hl 0 rfl) ?_
  refine lv_aload_n hx hb d_La_writePublicKey_1 rfl (lv_at hl 1 rfl) ?_
  refine lv_aload_n hx hb d_La_writePublicKey_2 rfl (lv_at hl 2 rfl) ?_
  refine lv_aload_n hx hb d_La_writePublicKey_3 rfl (lv_at hl 0 rfl) ?_
  refine sx_get EE (hS.1.ob (kc_n1 hC) (kc_o1 hC)) rfl i_La 2 (by decide) rfl fl_La_15 rfl d_La_writePublicKey_4 ?_
  refine vx_gv (sx_runV (As := [.ref a0, .ref a1, .ref (kq 1 2)]) (rest := []) EE (hS.1.ob (kc_n1 hC) (kc_o1 hC)) rfl rfl (v_La_writeProduct (X := X) (hC.kept hS.1) (hS.a f0) o0 (hS.a f1) (hS.a (kc_a1_2 hC)) hV) w_La_52 rfl ⟨rfl, rfl⟩ ⟨Nat.le_of_ble_eq_true rfl, Nat.le_of_ble_eq_true rfl⟩ ⟨Nat.zero_le _, Nat.zero_le _⟩ hl.1 rfl (Nat.le_of_ble_eq_true rfl) d_La_writePublicKey_7) hS (fun H locs X1 eX1 hS hV => ?_)
  exact hret _ _ _ _ _ (by subst eX1; exact rfl) hS hV d_La_writePublicKey_10
