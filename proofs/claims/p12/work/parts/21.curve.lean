def LF_M_step (X : vM) (r : Nat → Nat) (a0 : Nat) (a1 : Nat) (a2 : Nat) (a3 : Nat) : vM := (let X1 : vM := (LF_M_plus X (r 24) a0 a1 (r 10)); let X2 : vM := (LF_M_minus X1 (r 25) a0 a1 (r 10)); let X3 : vM := (LF_M_plus X2 (r 26) a2 a3 (r 10)); let X4 : vM := (LF_M_minus X3 (r 27) a2 a3 (r 10)); let X5 : vM := (LF_M_times X4 r (r 27) (r 27) (r 24) (r 10) (r 11)); let X6 : vM := (LF_M_times X5 r (r 26) (r 26) (r 25) (r 10) (r 11)); let X7 : vM := (LF_M_plus X6 (r 28) (r 27) (r 26) (r 10)); let X8 : vM := (LF_M_minus X7 (r 29) (r 27) (r 26) (r 10)); let X9 : vM := (LF_M_times X8 r a2 (r 28) (r 28) (r 10) (r 11)); let X10 : vM := (LF_M_times X9 r (r 29) (r 29) (r 29) (r 10) (r 11)); let X11 : vM := (LF_M_times X10 r a3 (r 29) (r 33) (r 10) (r 11)); let X12 : vM := (LF_M_times X11 r (r 24) (r 24) (r 24) (r 10) (r 11)); let X13 : vM := (LF_M_times X12 r (r 25) (r 25) (r 25) (r 10) (r 11)); let X14 : vM := (LF_M_times X13 r a0 (r 24) (r 25) (r 10) (r 11)); let X15 : vM := (LF_M_minus X14 (r 25) (r 24) (r 25) (r 10)); let X16 : vM := (LF_M_times X15 r (r 26) (r 25) (r 34) (r 10) (r 11)); let X17 : vM := (LF_M_plus X16 (r 26) (r 26) (r 24) (r 10)); let X18 : vM := (LF_M_times X17 r a1 (r 25) (r 26) (r 10) (r 11)); X18)
abbrev rm_M_step : Room := { frames := 3, cells := 0, slots := 0, locals := 85 }
set_option maxHeartbeats 4000000 in
set_option maxRecDepth 100000 in
theorem v_M_step {l : Launch} {D : va_G} {g : ClassId → FieldType → Prop} {E : Nat → Prop} {H0 : Heap} {X : vM} {o : Nat} {r : Nat → Nat} {i : Nat → Int32} {a0 : Nat} {a1 : Nat} {a2 : Nat} {a3 : Nat} (hM : mo_ D g H0 o r i) (hE : ¬ E o) (hW : ∀ q ∈ mo_wr, E (r q.1)) (f0 : sx_A g .long H0 a0 16) (o0 : E a0) (f1 : sx_A g .long H0 a1 16) (o1 : E a1) (f2 : sx_A g .long H0 a2 16) (o2 : E a2) (f3 : sx_A g .long H0 a3 16) (o3 : E a3) (hV : mm g H0 = X) : Met l y_M_step (.code y_M_step b_M_step 5 none :: G_) rm_M_step (sx_Pc [.ref o, .ref a0, .ref a1, .ref a2, .ref a3] H0 D g) (vx_Qv g E H0 (LF_M_step X r a0 a1 a2 a3)) 0 0 E := by
  refine vx_mv (own := R_M) (by decide) rfl rfl rfl (Nat.le_of_ble_eq_true rfl) ?_
  intro p e s m args below meth c Q ls EE hl hret
  obtain ⟨hx, hb, hml, hown, hts, hG, hK⟩ := id EE
  have hS : sx_S g E E H0 H0 [] := sx_S.rf
  have hl : lv_has ls 5 [(0, .ref o), (1, .ref a0), (2, .ref a1), (3, .ref a2), (4, .ref a3)] := hl
  refine lv_aload_n hx hb d_M_step_0 rfl (lv_at hl 0 rfl) ?_
  refine sx_get EE (hS.1.ob hE hM.1) rfl i_M 24 (by decide) rfl fl_M_70 rfl d_M_step_1 ?_
  refine lv_aload_n hx hb d_M_step_4 rfl (lv_at hl 1 rfl) ?_
  refine lv_aload_n hx hb d_M_step_5 rfl (lv_at hl 2 rfl) ?_
  refine lv_aload_n hx hb d_M_step_6 rfl (lv_at hl 0 rfl) ?_
  refine sx_get EE (hS.1.ob hE hM.1) rfl i_M 10 (by decide) rfl fl_M_27 rfl d_M_step_7 ?_
  refine vx_gv (sx_runS (As := [.ref (r 24), .ref a0, .ref a1, .ref (r 10)]) (rest := []) EE (v_M_plus (X := X) (hS.a (mo_24 hM)) (mow_24 hW) (hS.a f0) (hS.a f1) (hS.a (mo_10 hM)) hV) w_M_222 rfl ⟨rfl, rfl⟩ ⟨Nat.le_of_ble_eq_true rfl, Nat.le_of_ble_eq_true rfl⟩ ⟨Nat.zero_le _, Nat.zero_le _⟩ hl.1 rfl (Nat.le_of_ble_eq_true rfl) d_M_step_10) hS (fun H locs X1 eX1 hS hV => ?_)
  refine lv_aload_n hx hb d_M_step_13 rfl (lv_at hl 0 rfl) ?_
  refine sx_get EE (hS.1.ob hE hM.1) rfl i_M 25 (by decide) rfl fl_M_73 rfl d_M_step_14 ?_
  refine lv_aload_n hx hb d_M_step_17 rfl (lv_at hl 1 rfl) ?_
  refine lv_aload_n hx hb d_M_step_18 rfl (lv_at hl 2 rfl) ?_
  refine lv_aload_n hx hb d_M_step_19 rfl (lv_at hl 0 rfl) ?_
  refine sx_get EE (hS.1.ob hE hM.1) rfl i_M 10 (by decide) rfl fl_M_27 rfl d_M_step_20 ?_
  refine vx_gv (sx_runS (As := [.ref (r 25), .ref a0, .ref a1, .ref (r 10)]) (rest := []) EE (v_M_minus (X := X1) (hS.a (mo_25 hM)) (mow_25 hW) (hS.a f0) (hS.a f1) (hS.a (mo_10 hM)) hV) w_M_192 rfl ⟨rfl, rfl⟩ ⟨Nat.le_of_ble_eq_true rfl, Nat.le_of_ble_eq_true rfl⟩ ⟨Nat.zero_le _, Nat.zero_le _⟩ hl.1 rfl (Nat.le_of_ble_eq_true rfl) d_M_step_23) hS (fun H locs X2 eX2 hS hV => ?_)
  refine lv_aload_n hx hb d_M_step_26 rfl (lv_at hl 0 rfl) ?_
  refine sx_get EE (hS.1.ob hE hM.1) rfl i_M 26 (by decide) rfl fl_M_76 rfl d_M_step_27 ?_
  refine lv_aload_n hx hb d_M_step_30 rfl (lv_at hl 3 rfl) ?_
  refine lv_aload hx hb d_M_step_31 (lv_at hl 4 rfl) ?_
  refine lv_aload_n hx hb d_M_step_33 rfl (lv_at hl 0 rfl) ?_
  refine sx_get EE (hS.1.ob hE hM.1) rfl i_M 10 (by decide) rfl fl_M_27 rfl d_M_step_34 ?_
  refine vx_gv (sx_runS (As := [.ref (r 26), .ref a2, .ref a3, .ref (r 10)]) (rest := []) EE (v_M_plus (X := X2) (hS.a (mo_26 hM)) (mow_26 hW) (hS.a f2) (hS.a f3) (hS.a (mo_10 hM)) hV) w_M_222 rfl ⟨rfl, rfl⟩ ⟨Nat.le_of_ble_eq_true rfl, Nat.le_of_ble_eq_true rfl⟩ ⟨Nat.zero_le _, Nat.zero_le _⟩ hl.1 rfl (Nat.le_of_ble_eq_true rfl) d_M_step_37) hS (fun H locs X3 eX3 hS hV => ?_)
  refine lv_aload_n hx hb d_M_step_40 rfl (lv_at hl 0 rfl) ?_
  refine sx_get EE (hS.1.ob hE hM.1) rfl i_M 27 (by decide) rfl fl_M_79 rfl d_M_step_41 ?_
  refine lv_aload_n hx hb d_M_step_44 rfl (lv_at hl 3 rfl) ?_
  refine lv_aload hx hb d_M_step_45 (lv_at hl 4 rfl) ?_
  refine lv_aload_n hx hb d_M_step_47 rfl (lv_at hl 0 rfl) ?_
  refine sx_get EE (hS.1.ob hE hM.1) rfl i_M 10 (by decide) rfl fl_M_27 rfl d_M_step_48 ?_
  refine vx_gv (sx_runS (As := [.ref (r 27), .ref a2, .ref a3, .ref (r 10)]) (rest := []) EE (v_M_minus (X := X3) (hS.a (mo_27 hM)) (mow_27 hW) (hS.a f2) (hS.a f3) (hS.a (mo_10 hM)) hV) w_M_192 rfl ⟨rfl, rfl⟩ ⟨Nat.le_of_ble_eq_true rfl, Nat.le_of_ble_eq_true rfl⟩ ⟨Nat.zero_le _, Nat.zero_le _⟩ hl.1 rfl (Nat.le_of_ble_eq_true rfl) d_M_step_51) hS (fun H locs X4 eX4 hS hV => ?_)
  refine lv_aload_n hx hb d_M_step_54 rfl (lv_at hl 0 rfl) ?_
  refine lv_aload_n hx hb d_M_step_55 rfl (lv_at hl 0 rfl) ?_
  refine sx_get EE (hS.1.ob hE hM.1) rfl i_M 27 (by decide) rfl fl_M_79 rfl d_M_step_56 ?_
  refine lv_aload_n hx hb d_M_step_59 rfl (lv_at hl 0 rfl) ?_
  refine sx_get EE (hS.1.ob hE hM.1) rfl i_M 27 (by decide) rfl fl_M_79 rfl d_M_step_60 ?_
  refine lv_aload_n hx hb d_M_step_63 rfl (lv_at hl 0 rfl) ?_
  refine sx_get EE (hS.1.ob hE hM.1) rfl i_M 24 (by decide) rfl fl_M_70 rfl d_M_step_64 ?_
  refine lv_aload_n hx hb d_M_step_67 rfl (lv_at hl 0 rfl) ?_
  refine sx_get EE (hS.1.ob hE hM.1) rfl i_M 10 (by decide) rfl fl_M_27 rfl d_M_step_68 ?_
  refine lv_aload_n hx hb d_M_step_71 rfl (lv_at hl 0 rfl) ?_
  refine sx_get EE (hS.1.ob hE hM.1) rfl i_M 11 (by decide) rfl fl_M_31 rfl d_M_step_72 ?_
  refine vx_gv (sx_runV (As := [.ref (r 27), .ref (r 27), .ref (r 24), .ref (r 10), .ref (r 11)]) (rest := []) EE (hS.1.ob hE hM.1) rfl rfl (v_M_times (X := X4) (hM.kept hS.1 hE) hE hW (hS.a (mo_27 hM)) (mow_27 hW) (hS.a (mo_27 hM)) (hS.a (mo_24 hM)) (hS.a (mo_10 hM)) (hS.a (mo_11 hM)) hV) w_M_188 rfl ⟨rfl, rfl⟩ ⟨Nat.le_of_ble_eq_true rfl, Nat.le_of_ble_eq_true rfl⟩ ⟨Nat.zero_le _, Nat.zero_le _⟩ hl.1 rfl (Nat.le_of_ble_eq_true rfl) d_M_step_75) hS (fun H locs X5 eX5 hS hV => ?_)
  refine lv_aload_n hx hb d_M_step_78 rfl (lv_at hl 0 rfl) ?_
  refine lv_aload_n hx hb d_M_step_79 rfl (lv_at hl 0 rfl) ?_
  refine sx_get EE (hS.1.ob hE hM.1) rfl i_M 26 (by decide) rfl fl_M_76 rfl d_M_step_80 ?_
  refine lv_aload_n hx hb d_M_step_83 rfl (lv_at hl 0 rfl) ?_
  refine sx_get EE (hS.1.ob hE hM.1) rfl i_M 26 (by decide) rfl fl_M_76 rfl d_M_step_84 ?_
  refine lv_aload_n hx hb d_M_step_87 rfl (lv_at hl 0 rfl) ?_
  refine sx_get EE (hS.1.ob hE hM.1) rfl i_M 25 (by decide) rfl fl_M_73 rfl d_M_step_88 ?_
  refine lv_aload_n hx hb d_M_step_91 rfl (lv_at hl 0 rfl) ?_
  refine sx_get EE (hS.1.ob hE hM.1) rfl i_M 10 (by decide) rfl fl_M_27 rfl d_M_step_92 ?_
  refine lv_aload_n hx hb d_M_step_95 rfl (lv_at hl 0 rfl) ?_
  refine sx_get EE (hS.1.ob hE hM.1) rfl i_M 11 (by decide) rfl fl_M_31 rfl d_M_step_96 ?_
  refine vx_gv (sx_runV (As := [.ref (r 26), .ref (r 26), .ref (r 25), .ref (r 10), .ref (r 11)]) (rest := []) EE (hS.1.ob hE hM.1) rfl rfl (v_M_times (X := X5) (hM.kept hS.1 hE) hE hW (hS.a (mo_26 hM)) (mow_26 hW) (hS.a (mo_26 hM)) (hS.a (mo_25 hM)) (hS.a (mo_10 hM)) (hS.a (mo_11 hM)) hV) w_M_188 rfl ⟨rfl, rfl⟩ ⟨Nat.le_of_ble_eq_true rfl, Nat.le_of_ble_eq_true rfl⟩ ⟨Nat.zero_le _, Nat.zero_le _⟩ hl.1 rfl (Nat.le_of_ble_eq_true rfl) d_M_step_99) hS (fun H locs X6 eX6 hS hV => ?_)
  refine lv_aload_n hx hb d_M_step_102 rfl (lv_at hl 0 rfl) ?_
  refine sx_get EE (hS.1.ob hE hM.1) rfl i_M 28 (by decide) rfl fl_M_82 rfl d_M_step_103 ?_
  refine lv_aload_n hx hb d_M_step_106 rfl (lv_at hl 0 rfl) ?_
  refine sx_get EE (hS.1.ob hE hM.1) rfl i_M 27 (by decide) rfl fl_M_79 rfl d_M_step_107 ?_
  refine lv_aload_n hx hb d_M_step_110 rfl (lv_at hl 0 rfl) ?_
  refine sx_get EE (hS.1.ob hE hM.1) rfl i_M 26 (by decide) rfl fl_M_76 rfl d_M_step_111 ?_
  refine lv_aload_n hx hb d_M_step_114 rfl (lv_at hl 0 rfl) ?_
  refine sx_get EE (hS.1.ob hE hM.1) rfl i_M 10 (by decide) rfl fl_M_27 rfl d_M_step_115 ?_
  refine vx_gv (sx_runS (As := [.ref (r 28), .ref (r 27), .ref (r 26), .ref (r 10)]) (rest := []) EE (v_M_plus (X := X6) (hS.a (mo_28 hM)) (mow_28 hW) (hS.a (mo_27 hM)) (hS.a (mo_26 hM)) (hS.a (mo_10 hM)) hV) w_M_222 rfl ⟨rfl, rfl⟩ ⟨Nat.le_of_ble_eq_true rfl, Nat.le_of_ble_eq_true rfl⟩ ⟨Nat.zero_le _, Nat.zero_le _⟩ hl.1 rfl (Nat.le_of_ble_eq_true rfl) d_M_step_118) hS (fun H locs X7 eX7 hS hV => ?_)
  refine lv_aload_n hx hb d_M_step_121 rfl (lv_at hl 0 rfl) ?_
  refine sx_get EE (hS.1.ob hE hM.1) rfl i_M 29 (by decide) rfl fl_M_85 rfl d_M_step_122 ?_
  refine lv_aload_n hx hb d_M_step_125 rfl (lv_at hl 0 rfl) ?_
  refine sx_get EE (hS.1.ob hE hM.1) rfl i_M 27 (by decide) rfl fl_M_79 rfl d_M_step_126 ?_
  refine lv_aload_n hx hb d_M_step_129 rfl (lv_at hl 0 rfl) ?_
  refine sx_get EE (hS.1.ob hE hM.1) rfl i_M 26 (by decide) rfl fl_M_76 rfl d_M_step_130 ?_
  refine lv_aload_n hx hb d_M_step_133 rfl (lv_at hl 0 rfl) ?_
  refine sx_get EE (hS.1.ob hE hM.1) rfl i_M 10 (by decide) rfl fl_M_27 rfl d_M_step_134 ?_
  refine vx_gv (sx_runS (As := [.ref (r 29), .ref (r 27), .ref (r 26), .ref (r 10)]) (rest := []) EE (v_M_minus (X := X7) (hS.a (mo_29 hM)) (mow_29 hW) (hS.a (mo_27 hM)) (hS.a (mo_26 hM)) (hS.a (mo_10 hM)) hV) w_M_192 rfl ⟨rfl, rfl⟩ ⟨Nat.le_of_ble_eq_true rfl, Nat.le_of_ble_eq_true rfl⟩ ⟨Nat.zero_le _, Nat.zero_le _⟩ hl.1 rfl (Nat.le_of_ble_eq_true rfl) d_M_step_137) hS (fun H locs X8 eX8 hS hV => ?_)
  refine lv_aload_n hx hb d_M_step_140 rfl (lv_at hl 0 rfl) ?_
  refine lv_aload_n hx hb d_M_step_141 rfl (lv_at hl 3 rfl) ?_
  refine lv_aload_n hx hb d_M_step_142 rfl (lv_at hl 0 rfl) ?_
  refine sx_get EE (hS.1.ob hE hM.1) rfl i_M 28 (by decide) rfl fl_M_82 rfl d_M_step_143 ?_
  refine lv_aload_n hx hb d_M_step_146 rfl (lv_at hl 0 rfl) ?_
  refine sx_get EE (hS.1.ob hE hM.1) rfl i_M 28 (by decide) rfl fl_M_82 rfl d_M_step_147 ?_
  refine lv_aload_n hx hb d_M_step_150 rfl (lv_at hl 0 rfl) ?_
  refine sx_get EE (hS.1.ob hE hM.1) rfl i_M 10 (by decide) rfl fl_M_27 rfl d_M_step_151 ?_
  refine lv_aload_n hx hb d_M_step_154 rfl (lv_at hl 0 rfl) ?_
  refine sx_get EE (hS.1.ob hE hM.1) rfl i_M 11 (by decide) rfl fl_M_31 rfl d_M_step_155 ?_
  refine vx_gv (sx_runV (As := [.ref a2, .ref (r 28), .ref (r 28), .ref (r 10), .ref (r 11)]) (rest := []) EE (hS.1.ob hE hM.1) rfl rfl (v_M_times (X := X8) (hM.kept hS.1 hE) hE hW (hS.a f2) o2 (hS.a (mo_28 hM)) (hS.a (mo_28 hM)) (hS.a (mo_10 hM)) (hS.a (mo_11 hM)) hV) w_M_188 rfl ⟨rfl, rfl⟩ ⟨Nat.le_of_ble_eq_true rfl, Nat.le_of_ble_eq_true rfl⟩ ⟨Nat.zero_le _, Nat.zero_le _⟩ hl.1 rfl (Nat.le_of_ble_eq_true rfl) d_M_step_158) hS (fun H locs X9 eX9 hS hV => ?_)
  refine lv_aload_n hx hb d_M_step_161 rfl (lv_at hl 0 rfl) ?_
  refine lv_aload_n hx hb d_M_step_162 rfl (lv_at hl 0 rfl) ?_
  refine sx_get EE (hS.1.ob hE hM.1) rfl i_M 29 (by decide) rfl fl_M_85 rfl d_M_step_163 ?_
  refine lv_aload_n hx hb d_M_step_166 rfl (lv_at hl 0 rfl) ?_
  refine sx_get EE (hS.1.ob hE hM.1) rfl i_M 29 (by decide) rfl fl_M_85 rfl d_M_step_167 ?_
  refine lv_aload_n hx hb d_M_step_170 rfl (lv_at hl 0 rfl) ?_
  refine sx_get EE (hS.1.ob hE hM.1) rfl i_M 29 (by decide) rfl fl_M_85 rfl d_M_step_171 ?_
  refine lv_aload_n hx hb d_M_step_174 rfl (lv_at hl 0 rfl) ?_
  refine sx_get EE (hS.1.ob hE hM.1) rfl i_M 10 (by decide) rfl fl_M_27 rfl d_M_step_175 ?_
  refine lv_aload_n hx hb d_M_step_178 rfl (lv_at hl 0 rfl) ?_
  refine sx_get EE (hS.1.ob hE hM.1) rfl i_M 11 (by decide) rfl fl_M_31 rfl d_M_step_179 ?_
  refine vx_gv (sx_runV (As := [.ref (r 29), .ref (r 29), .ref (r 29), .ref (r 10), .ref (r 11)]) (rest := []) EE (hS.1.ob hE hM.1) rfl rfl (v_M_times (X := X9) (hM.kept hS.1 hE) hE hW (hS.a (mo_29 hM)) (mow_29 hW) (hS.a (mo_29 hM)) (hS.a (mo_29 hM)) (hS.a (mo_10 hM)) (hS.a (mo_11 hM)) hV) w_M_188 rfl ⟨rfl, rfl⟩ ⟨Nat.le_of_ble_eq_true rfl, Nat.le_of_ble_eq_true rfl⟩ ⟨Nat.zero_le _, Nat.zero_le _⟩ hl.1 rfl (Nat.le_of_ble_eq_true rfl) d_M_step_182) hS (fun H locs X10 eX10 hS hV => ?_)
  refine lv_aload_n hx hb d_M_step_185 rfl (lv_at hl 0 rfl) ?_
  refine lv_aload hx hb d_M_step_186 (lv_at hl 4 rfl) ?_
  refine lv_aload_n hx hb d_M_step_188 rfl (lv_at hl 0 rfl) ?_
  refine sx_get EE (hS.1.ob hE hM.1) rfl i_M 29 (by decide) rfl fl_M_85 rfl d_M_step_189 ?_
  refine lv_aload_n hx hb d_M_step_192 rfl (lv_at hl 0 rfl) ?_
  refine sx_get EE (hS.1.ob hE hM.1) rfl i_M 33 (by decide) rfl fl_M_97 rfl d_M_step_193 ?_
  refine lv_aload_n hx hb d_M_step_196 rfl (lv_at hl 0 rfl) ?_
  refine sx_get EE (hS.1.ob hE hM.1) rfl i_M 10 (by decide) rfl fl_M_27 rfl d_M_step_197 ?_
  refine lv_aload_n hx hb d_M_step_200 rfl (lv_at hl 0 rfl) ?_
  refine sx_get EE (hS.1.ob hE hM.1) rfl i_M 11 (by decide) rfl fl_M_31 rfl d_M_step_201 ?_
  refine vx_gv (sx_runV (As := [.ref a3, .ref (r 29), .ref (r 33), .ref (r 10), .ref (r 11)]) (rest := []) EE (hS.1.ob hE hM.1) rfl rfl (v_M_times (X := X10) (hM.kept hS.1 hE) hE hW (hS.a f3) o3 (hS.a (mo_29 hM)) (hS.a (mo_33 hM)) (hS.a (mo_10 hM)) (hS.a (mo_11 hM)) hV) w_M_188 rfl ⟨rfl, rfl⟩ ⟨Nat.le_of_ble_eq_true rfl, Nat.le_of_ble_eq_true rfl⟩ ⟨Nat.zero_le _, Nat.zero_le _⟩ hl.1 rfl (Nat.le_of_ble_eq_true rfl) d_M_step_204) hS (fun H locs X11 eX11 hS hV => ?_)
  refine lv_aload_n hx hb d_M_step_207 rfl (lv_at hl 0 rfl) ?_
  refine lv_aload_n hx hb d_M_step_208 rfl (lv_at hl 0 rfl) ?_
  refine sx_get EE (hS.1.ob hE hM.1) rfl i_M 24 (by decide) rfl fl_M_70 rfl d_M_step_209 ?_
  refine lv_aload_n hx hb d_M_step_212 rfl (lv_at hl 0 rfl) ?_
  refine sx_get EE (hS.1.ob hE hM.1) rfl i_M 24 (by decide) rfl fl_M_70 rfl d_M_step_213 ?_
  refine lv_aload_n hx hb d_M_step_216 rfl (lv_at hl 0 rfl) ?_
  refine sx_get EE (hS.1.ob hE hM.1) rfl i_M 24 (by decide) rfl fl_M_70 rfl d_M_step_217 ?_
  refine lv_aload_n hx hb d_M_step_220 rfl (lv_at hl 0 rfl) ?_
  refine sx_get EE (hS.1.ob hE hM.1) rfl i_M 10 (by decide) rfl fl_M_27 rfl d_M_step_221 ?_
  refine lv_aload_n hx hb d_M_step_224 rfl (lv_at hl 0 rfl) ?_
  refine sx_get EE (hS.1.ob hE hM.1) rfl i_M 11 (by decide) rfl fl_M_31 rfl d_M_step_225 ?_
  refine vx_gv (sx_runV (As := [.ref (r 24), .ref (r 24), .ref (r 24), .ref (r 10), .ref (r 11)]) (rest := []) EE (hS.1.ob hE hM.1) rfl rfl (v_M_times (X := X11) (hM.kept hS.1 hE) hE hW (hS.a (mo_24 hM)) (mow_24 hW) (hS.a (mo_24 hM)) (hS.a (mo_24 hM)) (hS.a (mo_10 hM)) (hS.a (mo_11 hM)) hV) w_M_188 rfl ⟨rfl, rfl⟩ ⟨Nat.le_of_ble_eq_true rfl, Nat.le_of_ble_eq_true rfl⟩ ⟨Nat.zero_le _, Nat.zero_le _⟩ hl.1 rfl (Nat.le_of_ble_eq_true rfl) d_M_step_228) hS (fun H locs X12 eX12 hS hV => ?_)
  refine lv_aload_n hx hb d_M_step_231 rfl (lv_at hl 0 rfl) ?_
  refine lv_aload_n hx hb d_M_step_232 rfl (lv_at hl 0 rfl) ?_
  refine sx_get EE (hS.1.ob hE hM.1) rfl i_M 25 (by decide) rfl fl_M_73 rfl d_M_step_233 ?_
  refine lv_aload_n hx hb d_M_step_236 rfl (lv_at hl 0 rfl) ?_
  refine sx_get EE (hS.1.ob hE hM.1) rfl i_M 25 (by decide) rfl fl_M_73 rfl d_M_step_237 ?_
  refine lv_aload_n hx hb d_M_step_240 rfl (lv_at hl 0 rfl) ?_
  refine sx_get EE (hS.1.ob hE hM.1) rfl i_M 25 (by decide) rfl fl_M_73 rfl d_M_step_241 ?_
  refine lv_aload_n hx hb d_M_step_244 rfl (lv_at hl 0 rfl) ?_
  refine sx_get EE (hS.1.ob hE hM.1) rfl i_M 10 (by decide) rfl fl_M_27 rfl d_M_step_245 ?_
  refine lv_aload_n hx hb d_M_step_248 rfl (lv_at hl 0 rfl) ?_
  refine sx_get EE (hS.1.ob hE hM.1) rfl i_M 11 (by decide) rfl fl_M_31 rfl d_M_step_249 ?_
  refine vx_gv (sx_runV (As := [.ref (r 25), .ref (r 25), .ref (r 25), .ref (r 10), .ref (r 11)]) (rest := []) EE (hS.1.ob hE hM.1) rfl rfl (v_M_times (X := X12) (hM.kept hS.1 hE) hE hW (hS.a (mo_25 hM)) (mow_25 hW) (hS.a (mo_25 hM)) (hS.a (mo_25 hM)) (hS.a (mo_10 hM)) (hS.a (mo_11 hM)) hV) w_M_188 rfl ⟨rfl, rfl⟩ ⟨Nat.le_of_ble_eq_true rfl, Nat.le_of_ble_eq_true rfl⟩ ⟨Nat.zero_le _, Nat.zero_le _⟩ hl.1 rfl (Nat.le_of_ble_eq_true rfl) d_M_step_252) hS (fun H locs X13 eX13 hS hV => ?_)
  refine lv_aload_n hx hb d_M_step_255 rfl (lv_at hl 0 rfl) ?_
  refine lv_aload_n hx hb d_M_step_256 rfl (lv_at hl 1 rfl) ?_
  refine lv_aload_n hx hb d_M_step_257 rfl (lv_at hl 0 rfl) ?_
  refine sx_get EE (hS.1.ob hE hM.1) rfl i_M 24 (by decide) rfl fl_M_70 rfl d_M_step_258 ?_
  refine lv_aload_n hx hb d_M_step_261 rfl (lv_at hl 0 rfl) ?_
  refine sx_get EE (hS.1.ob hE hM.1) rfl i_M 25 (by decide) rfl fl_M_73 rfl d_M_step_262 ?_
  refine lv_aload_n hx hb d_M_step_265 rfl (lv_at hl 0 rfl) ?_
  refine sx_get EE (hS.1.ob hE hM.1) rfl i_M 10 (by decide) rfl fl_M_27 rfl d_M_step_266 ?_
  refine lv_aload_n hx hb d_M_step_269 rfl (lv_at hl 0 rfl) ?_
  refine sx_get EE (hS.1.ob hE hM.1) rfl i_M 11 (by decide) rfl fl_M_31 rfl d_M_step_270 ?_
  refine vx_gv (sx_runV (As := [.ref a0, .ref (r 24), .ref (r 25), .ref (r 10), .ref (r 11)]) (rest := []) EE (hS.1.ob hE hM.1) rfl rfl (v_M_times (X := X13) (hM.kept hS.1 hE) hE hW (hS.a f0) o0 (hS.a (mo_24 hM)) (hS.a (mo_25 hM)) (hS.a (mo_10 hM)) (hS.a (mo_11 hM)) hV) w_M_188 rfl ⟨rfl, rfl⟩ ⟨Nat.le_of_ble_eq_true rfl, Nat.le_of_ble_eq_true rfl⟩ ⟨Nat.zero_le _, Nat.zero_le _⟩ hl.1 rfl (Nat.le_of_ble_eq_true rfl) d_M_step_273) hS (fun H locs X14 eX14 hS hV => ?_)
  refine lv_aload_n hx hb d_M_step_276 rfl (lv_at hl 0 rfl) ?_
  refine sx_get EE (hS.1.ob hE hM.1) rfl i_M 25 (by decide) rfl fl_M_73 rfl d_M_step_277 ?_
  refine lv_aload_n hx hb d_M_step_280 rfl (lv_at hl 0 rfl) ?_
  refine sx_get EE (hS.1.ob hE hM.1) rfl i_M 24 (by decide) rfl fl_M_70 rfl d_M_step_281 ?_
  refine lv_aload_n hx hb d_M_step_284 rfl (lv_at hl 0 rfl) ?_
  refine sx_get EE (hS.1.ob hE hM.1) rfl i_M 25 (by decide) rfl fl_M_73 rfl d_M_step_285 ?_
  refine lv_aload_n hx hb d_M_step_288 rfl (lv_at hl 0 rfl) ?_
  refine sx_get EE (hS.1.ob hE hM.1) rfl i_M 10 (by decide) rfl fl_M_27 rfl d_M_step_289 ?_
  refine vx_gv (sx_runS (As := [.ref (r 25), .ref (r 24), .ref (r 25), .ref (r 10)]) (rest := []) EE (v_M_minus (X := X14) (hS.a (mo_25 hM)) (mow_25 hW) (hS.a (mo_24 hM)) (hS.a (mo_25 hM)) (hS.a (mo_10 hM)) hV) w_M_192 rfl ⟨rfl, rfl⟩ ⟨Nat.le_of_ble_eq_true rfl, Nat.le_of_ble_eq_true rfl⟩ ⟨Nat.zero_le _, Nat.zero_le _⟩ hl.1 rfl (Nat.le_of_ble_eq_true rfl) d_M_step_292) hS (fun H locs X15 eX15 hS hV => ?_)
  refine lv_aload_n hx hb d_M_step_295 rfl (lv_at hl 0 rfl) ?_
  refine lv_aload_n hx hb d_M_step_296 rfl (lv_at hl 0 rfl) ?_
  refine sx_get EE (hS.1.ob hE hM.1) rfl i_M 26 (by decide) rfl fl_M_76 rfl d_M_step_297 ?_
  refine lv_aload_n hx hb d_M_step_300 rfl (lv_at hl 0 rfl) ?_
  refine sx_get EE (hS.1.ob hE hM.1) rfl i_M 25 (by decide) rfl fl_M_73 rfl d_M_step_301 ?_
  refine lv_aload_n hx hb d_M_step_304 rfl (lv_at hl 0 rfl) ?_
  refine sx_get EE (hS.1.ob hE hM.1) rfl i_M 34 (by decide) rfl fl_M_100 rfl d_M_step_305 ?_
  refine lv_aload_n hx hb d_M_step_308 rfl (lv_at hl 0 rfl) ?_
  refine sx_get EE (hS.1.ob hE hM.1) rfl i_M 10 (by decide) rfl fl_M_27 rfl d_M_step_309 ?_
  refine lv_aload_n hx hb d_M_step_312 rfl (lv_at hl 0 rfl) ?_
  refine sx_get EE (hS.1.ob hE hM.1) rfl i_M 11 (by decide) rfl fl_M_31 rfl d_M_step_313 ?_
  refine vx_gv (sx_runV (As := [.ref (r 26), .ref (r 25), .ref (r 34), .ref (r 10), .ref (r 11)]) (rest := []) EE (hS.1.ob hE hM.1) rfl rfl (v_M_times (X := X15) (hM.kept hS.1 hE) hE hW (hS.a (mo_26 hM)) (mow_26 hW) (hS.a (mo_25 hM)) (hS.a (mo_34 hM)) (hS.a (mo_10 hM)) (hS.a (mo_11 hM)) hV) w_M_188 rfl ⟨rfl, rfl⟩ ⟨Nat.le_of_ble_eq_true rfl, Nat.le_of_ble_eq_true rfl⟩ ⟨Nat.zero_le _, Nat.zero_le _⟩ hl.1 rfl (Nat.le_of_ble_eq_true rfl) d_M_step_316) hS (fun H locs X16 eX16 hS hV => ?_)
  refine lv_aload_n hx hb d_M_step_319 rfl (lv_at hl 0 rfl) ?_
  refine sx_get EE (hS.1.ob hE hM.1) rfl i_M 26 (by decide) rfl fl_M_76 rfl d_M_step_320 ?_
  refine lv_aload_n hx hb d_M_step_323 rfl (lv_at hl 0 rfl) ?_
  refine sx_get EE (hS.1.ob hE hM.1) rfl i_M 26 (by decide) rfl fl_M_76 rfl d_M_step_324 ?_
  refine lv_aload_n hx hb d_M_step_327 rfl (lv_at hl 0 rfl) ?_
  refine sx_get EE (hS.1.ob hE hM.1) rfl i_M 24 (by decide) rfl fl_M_70 rfl d_M_step_328 ?_
  refine lv_aload_n hx hb d_M_step_331 rfl (lv_at hl 0 rfl) ?_
  refine sx_get EE (hS.1.ob hE hM.1) rfl i_M 10 (by decide) rfl fl_M_27 rfl d_M_step_332 ?_
  refine vx_gv (sx_runS (As := [.ref (r 26), .ref (r 26), .ref (r 24), .ref (r 10)]) (rest := []) EE (v_M_plus (X := X16) (hS.a (mo_26 hM)) (mow_26 hW) (hS.a (mo_26 hM)) (hS.a (mo_24 hM)) (hS.a (mo_10 hM)) hV) w_M_222 rfl ⟨rfl, rfl⟩ ⟨Nat.le_of_ble_eq_true rfl, Nat.le_of_ble_eq_true rfl⟩ ⟨Nat.zero_le _, Nat.zero_le _⟩ hl.1 rfl (Nat.le_of_ble_eq_true rfl) d_M_step_335) hS (fun H locs X17 eX17 hS hV => ?_)
  refine lv_aload_n hx hb d_M_step_338 rfl (lv_at hl 0 rfl) ?_
  refine lv_aload_n hx hb d_M_step_339 rfl (lv_at hl 2 rfl) ?_
  refine lv_aload_n hx hb d_M_step_340 rfl (lv_at hl 0 rfl) ?_
  refine sx_get EE (hS.1.ob hE hM.1) rfl i_M 25 (by decide) rfl fl_M_73 rfl d_M_step_341 ?_
  refine lv_aload_n hx hb d_M_step_344 rfl (lv_at hl 0 rfl) ?_
  refine sx_get EE (hS.1.ob hE hM.1) rfl i_M 26 (by decide) rfl fl_M_76 rfl d_M_step_345 ?_
  refine lv_aload_n hx hb d_M_step_348 rfl (lv_at hl 0 rfl) ?_
  refine sx_get EE (hS.1.ob hE hM.1) rfl i_M 10 (by decide) rfl fl_M_27 rfl d_M_step_349 ?_
  refine lv_aload_n hx hb d_M_step_352 rfl (lv_at hl 0 rfl) ?_
  refine sx_get EE (hS.1.ob hE hM.1) rfl i_M 11 (by decide) rfl fl_M_31 rfl d_M_step_353 ?_
  refine vx_gv (sx_runV (As := [.ref a1, .ref (r 25), .ref (r 26), .ref (r 10), .ref (r 11)]) (rest := []) EE (hS.1.ob hE hM.1) rfl rfl (v_M_times (X := X17) (hM.kept hS.1 hE) hE hW (hS.a f1) o1 (hS.a (mo_25 hM)) (hS.a (mo_26 hM)) (hS.a (mo_10 hM)) (hS.a (mo_11 hM)) hV) w_M_188 rfl ⟨rfl, rfl⟩ ⟨Nat.le_of_ble_eq_true rfl, Nat.le_of_ble_eq_true rfl⟩ ⟨Nat.zero_le _, Nat.zero_le _⟩ hl.1 rfl (Nat.le_of_ble_eq_true rfl) d_M_step_356) hS (fun H locs X18 eX18 hS hV => ?_)
  exact hret _ _ _ _ _ (by subst eX1 eX2 eX3 eX4 eX5 eX6 eX7 eX8 eX9 eX10 eX11 eX12 eX13 eX14 eX15 eX16 eX17 eX18; exact rfl) hS hV d_M_step_359
def LL_M_ladder_2 (r : Nat → Nat) : Nat → vM → vM := fun i_0 s_1 => (let J_2 : Int32 := if i_0 = 15 then ((s_1.2 (r 35) 31) &&& (nI 127)) else ((s_1.2 (r 35) ((2 * i_0) + 1)) &&& (nI 255)); (let X_3 : vM := stL s_1 (r 33) i_0 ((((s_1.2 (r 35) (2 * i_0)) &&& (nI 255)) ||| (J_2 <<< ((nI 8) &&& 31))).toInt64); X_3))
def LL_M_ladder_162 (r : Nat → Nat) : Nat → vM → vM := fun i_0 s_1 => (let J_2 : Bool := if (LF_M_bit s_1 (r 31) i_0) = (nI 1) then true else false; (let J_3 : Nat := if J_2 = true then (r 20) else (r 18); (let J_4 : Nat := if J_2 = true then (r 21) else (r 19); (let J_5 : Nat := if J_2 = true then (r 18) else (r 20); (let J_6 : Nat := if J_2 = true then (r 19) else (r 21); (let X_7 : vM := (LF_M_step s_1 r J_3 J_4 J_5 J_6); X_7))))))
def LL_M_ladder_296 (r : Nat → Nat) : Nat → vM → vM := fun i_0 s_1 => (let X_2 : vM := stI s_1 (r 35) i_0 (((((s_1.1 (r 18) (i_0 / 2)) >>> ((nI (8 * (i_0 % 2))).toInt64 &&& 63)).toInt32).toInt8.toInt32).toInt8.toInt32); X_2)
def LF_M_ladder (X : vM) (r : Nat → Nat) : vM := (let R3 : vM := lpU 1 (LL_M_ladder_2 r) 16 0 X; (let J10 : vM := if (LF_M_below R3 (r 33) (r 10)) = true then R3 else (let X9 : vM := (LF_M_less R3 (r 33) (r 33) (r 10)); X9); (let X12 : vM := (LF_M_set J10 (r 34) (nI 0)); let X13 : vM := stL X12 (r 34) 0 (56129 : Int64); let X14 : vM := stL X13 (r 34) 1 (1 : Int64); let X15 : vM := (LF_M_set X14 (r 18) (nI 1)); let X16 : vM := (LF_M_set X15 (r 19) (nI 0)); let X17 : vM := (LF_M_copy X16 (r 20) (r 33)); let X18 : vM := (LF_M_set X17 (r 21) (nI 1)); let R21 : vM := lpD (LL_M_ladder_162 r) 255 X18; (let X38 : vM := (LF_M_inverse R21 r (r 26) (r 19) (r 10)); let X39 : vM := (LF_M_times X38 r (r 18) (r 18) (r 26) (r 10) (r 11)); let R42 : vM := lpU 1 (LL_M_ladder_296 r) 32 0 X39; R42))))
abbrev rm_M_ladder : Room := { frames := 4, cells := 0, slots := 0, locals := 109 }
set_option maxHeartbeats 4000000 in
set_option maxRecDepth 100000 in
theorem v_M_ladder {l : Launch} {D : va_G} {g : ClassId → FieldType → Prop} {E : Nat → Prop} {H0 : Heap} {X : vM} {o : Nat} {r : Nat → Nat} {i : Nat → Int32} (hM : mo_ D g H0 o r i) (hE : ¬ E o) (hW : ∀ q ∈ mo_wr, E (r q.1)) (hV : mm g H0 = X) : Met l y_M_ladder (.code y_M_ladder b_M_ladder 3 none :: G_) rm_M_ladder (sx_Pc [.ref o] H0 D g) (vx_Qv g E H0 (LF_M_ladder X r)) 0 0 E := by
  refine vx_mv (own := R_M) (by decide) rfl rfl rfl (Nat.le_of_ble_eq_true rfl) ?_
  intro p e s m args below meth c Q ls EE hl hret
  obtain ⟨hx, hb, hml, hown, hts, hG, hK⟩ := id EE
  have hS : sx_S g E E H0 H0 [] := sx_S.rf
  have hl : lv_has ls 3 [(0, .ref o)] := hl
  refine lv_iconst (v := nI 0) hx hb d_M_ladder_0 (by decide +kernel) ?_
  refine lv_istore_n (lv' := [(1, .int (nI (0))), (0, .ref o)]) hx hb d_M_ladder_1 rfl hl (by decide) rfl (fun ls hl => ?_)
  obtain ⟨R3, eR3⟩ : ∃ t : vM, lpU 1 (LL_M_ladder_2 r) 16 0 X = t := ⟨_, rfl⟩
  refine lpU_go (σ := vM) (P := fun i1 s2 H locs ls => sx_S g E E H0 H locs ∧ mm g H = s2 ∧ lv_has ls 3 [(1, .int (nI (i1))), (0, .ref o)]) (Wd := fun H locs ls => W p l e rm_M_ladder s m args below meth c H locs 0 0 Q (F0 m 2 ls [])) (N := 16) (d := 1) (by decide) ?_ ?_ 16 0 _ (by omega) eR3 _ _ _ ⟨hS, hV, lv_sub hl [0, 1] rfl⟩
  · intro i1 s2 H locs ls hii1 hP ihi1
    obtain ⟨hS, hV, hl⟩ := hP
    refine lv_iload_n hx hb d_M_ladder_2 rfl (lv_at hl 0 rfl) ?_
    refine lv_bipush (v := nI 16) hx hb d_M_ladder_3 (by decide +kernel) ?_
    refine lv_icmp_ge (tgt := 70) hx hb d_M_ladder_5 (by decide) (fun q => absurd q (nI_ge (by omega) (by omega))) (fun _ => ?_)
    refine lv_aload_n hx hb d_M_ladder_8 rfl (lv_at hl 1 rfl) ?_
    refine sx_get EE (hS.1.ob hE hM.1) rfl i_M 33 (by decide) rfl fl_M_97 rfl d_M_ladder_9 ?_
    refine lv_iload_n hx hb d_M_ladder_12 rfl (lv_at hl 0 rfl) ?_
    refine lv_aload_n hx hb d_M_ladder_13 rfl (lv_at hl 1 rfl) ?_
    refine sx_get EE (hS.1.ob hE hM.1) rfl i_M 35 (by decide) rfl fl_M_103 rfl d_M_ladder_14 ?_
    refine lv_iconst (v := nI 2) hx hb d_M_ladder_17 (by decide +kernel) ?_
    refine lv_iload_n hx hb d_M_ladder_18 rfl (lv_at hl 0 rfl) ?_
    refine lv_imul hx hb d_M_ladder_19 ?_
    refine sx_ti (y := nI (2 * i1)) (pk_mul _ _) ?_
    refine vx_bald hx hb hG hS hV (mo_35 hM) (by omega) (by decide) d_M_ladder_20 ?_
    refine lv_sipush (v := nI 255) hx hb d_M_ladder_21 (by decide +kernel) ?_
    refine lv_iand hx hb d_M_ladder_24 ?_
    refine lv_iload_n hx hb d_M_ladder_25 rfl (lv_at hl 0 rfl) ?_
    refine lv_bipush (v := nI 15) hx hb d_M_ladder_26 (by decide +kernel) ?_
    have jn58_5 : ∀ (J5 : Int32) (H : Heap) (locs : List Loc) (ls : Array Slot), (if i1 = 15 then ((s2.2 (r 35) 31) &&& (nI 127)) else ((s2.2 (r 35) ((2 * i1) + 1)) &&& (nI 255))) = J5 → sx_S g E E H0 H locs → mm g H = s2 → lv_has ls 3 [(1, .int (nI (i1))), (0, .ref o)] → W p l e rm_M_ladder s m args below meth c H locs 0 0 Q (F0 m 58 ls [.int J5, .int ((s2.2 (r 35) (2 * i1)) &&& (nI 255)), .int (nI (i1)), .ref (r 33)]) := by
      intro J5 H locs ls eJ5 hS hV hl
      refine lv_bipush (v := nI 8) hx hb d_M_ladder_58 (by decide +kernel) ?_
      refine lv_ishl hx hb d_M_ladder_60 ?_
      refine lv_ior hx hb d_M_ladder_61 ?_
      refine lv_i2l hx hb d_M_ladder_62 rfl ?_
      refine vx_last hx hb hG hS hV (mo_33 hM) (mow_33 hW) (by omega) (by decide) d_M_ladder_63 (fun H locs X7 eX7 hS hV => ?_)
      refine lv_iinc (v := nI (i1 + 1)) (lv' := [(1, .int (nI (i1 + 1))), (0, .ref o)]) hx hb d_M_ladder_64 hl (k := 0) rfl (sx_inc _ _) (by decide) rfl (fun ls hl => ?_)
      refine lv_goto (tgt := 2) hx hb d_M_ladder_67 (by decide) ?_
      exact ihi1 X7 _ _ _ (by subst eJ5 eX7; exact rfl) ⟨hS, hV, lv_sub hl [0, 1] rfl⟩
    refine lv_icmp_ne (tgt := 44) hx hb d_M_ladder_28 (by decide) (fun q28_3 => ?_) (fun q28_3 => ?_)
    · skip
      have q28_3 : ¬ (i1 = 15) := fun z => q28_3 ((nI_eq (a := i1) (b := 15) (by omega) (by omega)).mpr z)
      refine lv_aload_n hx hb d_M_ladder_44 rfl (lv_at hl 1 rfl) ?_
      refine sx_get EE (hS.1.ob hE hM.1) rfl i_M 35 (by decide) rfl fl_M_103 rfl d_M_ladder_45 ?_
      refine lv_iconst (v := nI 2) hx hb d_M_ladder_48 (by decide +kernel) ?_
      refine lv_iload_n hx hb d_M_ladder_49 rfl (lv_at hl 0 rfl) ?_
      refine lv_imul hx hb d_M_ladder_50 ?_
      refine sx_ti (y := nI (2 * i1)) (pk_mul _ _) ?_
      refine lv_iconst (v := nI 1) hx hb d_M_ladder_51 (by decide +kernel) ?_
      refine lv_iadd hx hb d_M_ladder_52 ?_
      refine sx_ti (y := nI ((2 * i1) + 1)) (nI_add _ _) ?_
      refine vx_bald hx hb hG hS hV (mo_35 hM) (by omega) (by decide) d_M_ladder_53 ?_
      refine lv_sipush (v := nI 255) hx hb d_M_ladder_54 (by decide +kernel) ?_
      refine lv_iand hx hb d_M_ladder_57 ?_
      exact jn58_5 ((s2.2 (r 35) ((2 * i1) + 1)) &&& (nI 255)) _ _ _ (vx_n q28_3 rfl) hS hV (lv_sub hl [0, 1] rfl)
    · skip
      have q28_3 : i1 = 15 := (nI_eq (a := i1) (b := 15) (by omega) (by omega)).mp q28_3
      refine lv_aload_n hx hb d_M_ladder_31 rfl (lv_at hl 1 rfl) ?_
      refine sx_get EE (hS.1.ob hE hM.1) rfl i_M 35 (by decide) rfl fl_M_103 rfl d_M_ladder_32 ?_
      refine lv_bipush (v := nI 31) hx hb d_M_ladder_35 (by decide +kernel) ?_
      refine vx_bald hx hb hG hS hV (mo_35 hM) (by omega) (by decide) d_M_ladder_37 ?_
      refine lv_bipush (v := nI 127) hx hb d_M_ladder_38 (by decide +kernel) ?_
      refine lv_iand hx hb d_M_ladder_40 ?_
      refine lv_goto (tgt := 58) hx hb d_M_ladder_41 (by decide) ?_
      exact jn58_5 ((s2.2 (r 35) 31) &&& (nI 127)) _ _ _ (vx_p q28_3 rfl) hS hV (lv_sub hl [0, 1] rfl)
  · intro H locs ls hP
    obtain ⟨hS, hV, hl⟩ := hP
    refine lv_iload_n hx hb d_M_ladder_2 rfl (lv_at hl 0 rfl) ?_
    refine lv_bipush (v := nI 16) hx hb d_M_ladder_3 (by decide +kernel) ?_
    refine lv_icmp_ge (tgt := 70) hx hb d_M_ladder_5 (by decide) (fun _ => ?_) (fun q => absurd (nI_le (by omega) (by omega)) q)
    refine lv_aload_n hx hb d_M_ladder_70 rfl (lv_at hl 1 rfl) ?_
    refine sx_get EE (hS.1.ob hE hM.1) rfl i_M 33 (by decide) rfl fl_M_97 rfl d_M_ladder_71 ?_
    refine lv_aload_n hx hb d_M_ladder_74 rfl (lv_at hl 1 rfl) ?_
    refine sx_get EE (hS.1.ob hE hM.1) rfl i_M 10 (by decide) rfl fl_M_27 rfl d_M_ladder_75 ?_
    refine vx_gi (sx_runS (As := [.ref (r 33), .ref (r 10)]) (rest := []) EE (v_M_below (X := R3) (hS.a (mo_33 hM)) (hS.a (mo_10 hM)) hV) w_M_215 rfl ⟨rfl, rfl⟩ ⟨Nat.le_of_ble_eq_true rfl, Nat.le_of_ble_eq_true rfl⟩ ⟨Nat.zero_le _, Nat.zero_le _⟩ hl.1 rfl (Nat.le_of_ble_eq_true rfl) d_M_ladder_78) hS (fun H locs X_ eX_ hS hV => ?_)
    subst eX_
    have jn99_10 : ∀ (J10 : vM) (H : Heap) (locs : List Loc) (ls : Array Slot), (if (LF_M_below R3 (r 33) (r 10)) = true then R3 else (let X9 : vM := (LF_M_less R3 (r 33) (r 33) (r 10)); X9)) = J10 → sx_S g E E H0 H locs → mm g H = J10 → lv_has ls 3 [(1, .int (nI (16))), (0, .ref o)] → W p l e rm_M_ladder s m args below meth c H locs 0 0 Q (F0 m 99 ls []) := by
      intro J10 H locs ls eJ10 hS hV hl
      refine lv_aload_n hx hb d_M_ladder_99 rfl (lv_at hl 1 rfl) ?_
      refine sx_get EE (hS.1.ob hE hM.1) rfl i_M 34 (by decide) rfl fl_M_100 rfl d_M_ladder_100 ?_
      refine lv_iconst (v := nI 0) hx hb d_M_ladder_103 (by decide +kernel) ?_
      refine vx_gv (sx_runS (As := [.ref (r 34), .int (nI (0))]) (rest := []) EE (v_M_set (X := J10) (hS.a (mo_34 hM)) (mow_34 hW) hV) w_M_177 rfl ⟨rfl, rfl⟩ ⟨Nat.le_of_ble_eq_true rfl, Nat.le_of_ble_eq_true rfl⟩ ⟨Nat.zero_le _, Nat.zero_le _⟩ hl.1 rfl (Nat.le_of_ble_eq_true rfl) d_M_ladder_104) hS (fun H locs X12 eX12 hS hV => ?_)
      refine lv_aload_n hx hb d_M_ladder_107 rfl (lv_at hl 1 rfl) ?_
      refine sx_get EE (hS.1.ob hE hM.1) rfl i_M 34 (by decide) rfl fl_M_100 rfl d_M_ladder_108 ?_
      refine lv_iconst (v := nI 0) hx hb d_M_ladder_111 (by decide +kernel) ?_
      refine lv_ldc2 (v := (56129)) hx hb hown (hts (.constantLong R_M 181 (56129)) (by decide +kernel)) d_M_ladder_112 ?_
      refine vx_last hx hb hG hS hV (mo_34 hM) (mow_34 hW) (by omega) (by decide) d_M_ladder_115 (fun H locs X13 eX13 hS hV => ?_)
      refine lv_aload_n hx hb d_M_ladder_116 rfl (lv_at hl 1 rfl) ?_
      refine sx_get EE (hS.1.ob hE hM.1) rfl i_M 34 (by decide) rfl fl_M_100 rfl d_M_ladder_117 ?_
      refine lv_iconst (v := nI 1) hx hb d_M_ladder_120 (by decide +kernel) ?_
      refine lv_lconst (v := 1) hx hb d_M_ladder_121 (by decide +kernel) ?_
      refine vx_last hx hb hG hS hV (mo_34 hM) (mow_34 hW) (by omega) (by decide) d_M_ladder_122 (fun H locs X14 eX14 hS hV => ?_)
      refine lv_aload_n hx hb d_M_ladder_123 rfl (lv_at hl 1 rfl) ?_
      refine sx_get EE (hS.1.ob hE hM.1) rfl i_M 18 (by decide) rfl fl_M_52 rfl d_M_ladder_124 ?_
      refine lv_iconst (v := nI 1) hx hb d_M_ladder_127 (by decide +kernel) ?_
      refine vx_gv (sx_runS (As := [.ref (r 18), .int (nI (1))]) (rest := []) EE (v_M_set (X := X14) (hS.a (mo_18 hM)) (mow_18 hW) hV) w_M_177 rfl ⟨rfl, rfl⟩ ⟨Nat.le_of_ble_eq_true rfl, Nat.le_of_ble_eq_true rfl⟩ ⟨Nat.zero_le _, Nat.zero_le _⟩ hl.1 rfl (Nat.le_of_ble_eq_true rfl) d_M_ladder_128) hS (fun H locs X15 eX15 hS hV => ?_)
      refine lv_aload_n hx hb d_M_ladder_131 rfl (lv_at hl 1 rfl) ?_
      refine sx_get EE (hS.1.ob hE hM.1) rfl i_M 19 (by decide) rfl fl_M_55 rfl d_M_ladder_132 ?_
      refine lv_iconst (v := nI 0) hx hb d_M_ladder_135 (by decide +kernel) ?_
      refine vx_gv (sx_runS (As := [.ref (r 19), .int (nI (0))]) (rest := []) EE (v_M_set (X := X15) (hS.a (mo_19 hM)) (mow_19 hW) hV) w_M_177 rfl ⟨rfl, rfl⟩ ⟨Nat.le_of_ble_eq_true rfl, Nat.le_of_ble_eq_true rfl⟩ ⟨Nat.zero_le _, Nat.zero_le _⟩ hl.1 rfl (Nat.le_of_ble_eq_true rfl) d_M_ladder_136) hS (fun H locs X16 eX16 hS hV => ?_)
      refine lv_aload_n hx hb d_M_ladder_139 rfl (lv_at hl 1 rfl) ?_
      refine sx_get EE (hS.1.ob hE hM.1) rfl i_M 20 (by decide) rfl fl_M_58 rfl d_M_ladder_140 ?_
      refine lv_aload_n hx hb d_M_ladder_143 rfl (lv_at hl 1 rfl) ?_
      refine sx_get EE (hS.1.ob hE hM.1) rfl i_M 33 (by decide) rfl fl_M_97 rfl d_M_ladder_144 ?_
      refine vx_gv (sx_runS (As := [.ref (r 20), .ref (r 33)]) (rest := []) EE (v_M_copy (X := X16) (hS.a (mo_20 hM)) (mow_20 hW) (hS.a (mo_33 hM)) hV) w_M_207 rfl ⟨rfl, rfl⟩ ⟨Nat.le_of_ble_eq_true rfl, Nat.le_of_ble_eq_true rfl⟩ ⟨Nat.zero_le _, Nat.zero_le _⟩ hl.1 rfl (Nat.le_of_ble_eq_true rfl) d_M_ladder_147) hS (fun H locs X17 eX17 hS hV => ?_)
      refine lv_aload_n hx hb d_M_ladder_150 rfl (lv_at hl 1 rfl) ?_
      refine sx_get EE (hS.1.ob hE hM.1) rfl i_M 21 (by decide) rfl fl_M_61 rfl d_M_ladder_151 ?_
      refine lv_iconst (v := nI 1) hx hb d_M_ladder_154 (by decide +kernel) ?_
      refine vx_gv (sx_runS (As := [.ref (r 21), .int (nI (1))]) (rest := []) EE (v_M_set (X := X17) (hS.a (mo_21 hM)) (mow_21 hW) hV) w_M_177 rfl ⟨rfl, rfl⟩ ⟨Nat.le_of_ble_eq_true rfl, Nat.le_of_ble_eq_true rfl⟩ ⟨Nat.zero_le _, Nat.zero_le _⟩ hl.1 rfl (Nat.le_of_ble_eq_true rfl) d_M_ladder_155) hS (fun H locs X18 eX18 hS hV => ?_)
      refine lv_sipush (v := nI 254) hx hb d_M_ladder_158 (by decide +kernel) ?_
      refine lv_istore_n (lv' := [(1, .int (nI (254))), (0, .ref o)]) hx hb d_M_ladder_161 rfl hl (by decide) rfl (fun ls hl => ?_)
      obtain ⟨R21, eR21⟩ : ∃ t : vM, lpD (LL_M_ladder_162 r) 255 X18 = t := ⟨_, rfl⟩
      rw [show (nI (254)) = nI 255 - 1 from (nI_pred _).symm] at hl
      refine lpD_go (σ := vM) (P := fun i19 s20 H locs ls => sx_S g E E H0 H locs ∧ mm g H = s20 ∧ lv_has ls 3 [(1, .int (nI i19 - 1)), (0, .ref o)]) (Wd := fun H locs ls => W p l e rm_M_ladder s m args below meth c H locs 0 0 Q (F0 m 162 ls [])) (N := 255) ?_ ?_ 255 _ (by omega) eR21 _ _ _ ⟨hS, hV, lv_sub hl [0, 1] rfl⟩
      · intro i19 s20 H locs ls hii19 hP ihi19
        obtain ⟨hS, hV, hl⟩ := hP
        rw [nI_pred] at hl
        refine lv_iload_n hx hb d_M_ladder_162 rfl (lv_at hl 0 rfl) ?_
        refine lv_if_lt (tgt := 254) hx hb d_M_ladder_163 (by decide) (fun q => absurd q (nI_pos (by omega))) (fun _ => ?_)
        refine lv_aload_n hx hb d_M_ladder_166 rfl (lv_at hl 1 rfl) ?_
        refine sx_get EE (hS.1.ob hE hM.1) rfl i_M 31 (by decide) rfl fl_M_91 rfl d_M_ladder_167 ?_
        refine lv_iload_n hx hb d_M_ladder_170 rfl (lv_at hl 0 rfl) ?_
        refine vx_gi (sx_runS (As := [.ref (r 31), .int (nI (i19))]) (rest := []) EE (v_M_bit (X := s20) (hS.a (mo_31 hM)) (by omega) hV) w_M_273 rfl ⟨rfl, rfl⟩ ⟨Nat.le_of_ble_eq_true rfl, Nat.le_of_ble_eq_true rfl⟩ ⟨Nat.zero_le _, Nat.zero_le _⟩ hl.1 rfl (Nat.le_of_ble_eq_true rfl) d_M_ladder_171) hS (fun H locs X_ eX_ hS hV => ?_)
        subst eX_
        refine lv_iconst (v := nI 1) hx hb d_M_ladder_174 (by decide +kernel) ?_
        have jn183_23 : ∀ (J23 : Bool) (H : Heap) (locs : List Loc) (ls : Array Slot), (if (LF_M_bit s20 (r 31) i19) = (nI 1) then true else false) = J23 → sx_S g E E H0 H locs → mm g H = s20 → lv_has ls 3 [(1, .int (nI (i19))), (0, .ref o)] → W p l e rm_M_ladder s m args below meth c H locs 0 0 Q (F0 m 183 ls [.int (nI ((J23).toNat))]) := by
          intro J23 H locs ls eJ23 hS hV hl
          refine lv_istore_n (lv' := [(2, .int (nI ((J23).toNat))), (1, .int (nI (i19))), (0, .ref o)]) hx hb d_M_ladder_183 rfl hl (by decide) rfl (fun ls hl => ?_)
          refine lv_aload_n hx hb d_M_ladder_184 rfl (lv_at hl 2 rfl) ?_
          refine lv_iload_n hx hb d_M_ladder_185 rfl (lv_at hl 0 rfl) ?_
          have jn200_26 : ∀ (J26 : Nat) (H : Heap) (locs : List Loc) (ls : Array Slot), (if J23 = true then (r 20) else (r 18)) = J26 → sx_A g .long H0 J26 16 → E J26 → sx_S g E E H0 H locs → mm g H = s20 → lv_has ls 3 [(2, .int (nI ((J23).toNat))), (1, .int (nI (i19))), (0, .ref o)] → W p l e rm_M_ladder s m args below meth c H locs 0 0 Q (F0 m 200 ls [.ref J26, .ref o]) := by
            intro J26 H locs ls eJ26 fJ26_0 oJ26_0 hS hV hl
            refine lv_iload_n hx hb d_M_ladder_200 rfl (lv_at hl 0 rfl) ?_
            have jn215_29 : ∀ (J29 : Nat) (H : Heap) (locs : List Loc) (ls : Array Slot), (if J23 = true then (r 21) else (r 19)) = J29 → sx_A g .long H0 J29 16 → E J29 → sx_S g E E H0 H locs → mm g H = s20 → lv_has ls 3 [(2, .int (nI ((J23).toNat))), (1, .int (nI (i19))), (0, .ref o)] → W p l e rm_M_ladder s m args below meth c H locs 0 0 Q (F0 m 215 ls [.ref J29, .ref J26, .ref o]) := by
              intro J29 H locs ls eJ29 fJ29_0 oJ29_0 hS hV hl
              refine lv_iload_n hx hb d_M_ladder_215 rfl (lv_at hl 0 rfl) ?_
              have jn230_32 : ∀ (J32 : Nat) (H : Heap) (locs : List Loc) (ls : Array Slot), (if J23 = true then (r 18) else (r 20)) = J32 → sx_A g .long H0 J32 16 → E J32 → sx_S g E E H0 H locs → mm g H = s20 → lv_has ls 3 [(2, .int (nI ((J23).toNat))), (1, .int (nI (i19))), (0, .ref o)] → W p l e rm_M_ladder s m args below meth c H locs 0 0 Q (F0 m 230 ls [.ref J32, .ref J29, .ref J26, .ref o]) := by
                intro J32 H locs ls eJ32 fJ32_0 oJ32_0 hS hV hl
                refine lv_iload_n hx hb d_M_ladder_230 rfl (lv_at hl 0 rfl) ?_
                have jn245_35 : ∀ (J35 : Nat) (H : Heap) (locs : List Loc) (ls : Array Slot), (if J23 = true then (r 19) else (r 21)) = J35 → sx_A g .long H0 J35 16 → E J35 → sx_S g E E H0 H locs → mm g H = s20 → lv_has ls 3 [(2, .int (nI ((J23).toNat))), (1, .int (nI (i19))), (0, .ref o)] → W p l e rm_M_ladder s m args below meth c H locs 0 0 Q (F0 m 245 ls [.ref J35, .ref J32, .ref J29, .ref J26, .ref o]) := by
                  intro J35 H locs ls eJ35 fJ35_0 oJ35_0 hS hV hl
                  refine vx_gv (sx_runV (As := [.ref J26, .ref J29, .ref J32, .ref J35]) (rest := []) EE (hS.1.ob hE hM.1) rfl rfl (v_M_step (X := s20) (hM.kept hS.1 hE) hE hW (hS.a fJ26_0) oJ26_0 (hS.a fJ29_0) oJ29_0 (hS.a fJ32_0) oJ32_0 (hS.a fJ35_0) oJ35_0 hV) w_M_312 rfl ⟨rfl, rfl⟩ ⟨Nat.le_of_ble_eq_true rfl, Nat.le_of_ble_eq_true rfl⟩ ⟨Nat.zero_le _, Nat.zero_le _⟩ hl.1 rfl (Nat.le_of_ble_eq_true rfl) d_M_ladder_245) hS (fun H locs X37 eX37 hS hV => ?_)
                  refine lv_iinc (v := nI i19 - 1) (lv' := [(1, .int (nI i19 - 1)), (2, .int (nI ((J23).toNat))), (0, .ref o)]) hx hb d_M_ladder_248 hl (k := 1) rfl (sx_dn _) (by decide) rfl (fun ls hl => ?_)
                  refine lv_goto (tgt := 162) hx hb d_M_ladder_251 (by decide) ?_
                  exact ihi19 X37 _ _ _ (by subst eJ23 eJ26 eJ29 eJ32 eJ35 eX37; exact rfl) ⟨hS, hV, lv_sub hl [0, 2] rfl⟩
                refine lv_if_eq (tgt := 241) hx hb d_M_ladder_231 (by decide) (fun q231_33 => ?_) (fun q231_33 => ?_)
                · skip
                  have q231_33 := vx_bf (vx_b0 q231_33)
                  refine lv_aload_n hx hb d_M_ladder_241 rfl (lv_at hl 2 rfl) ?_
                  refine sx_get EE (hS.1.ob hE hM.1) rfl i_M 21 (by decide) rfl fl_M_61 rfl d_M_ladder_242 ?_
                  exact jn245_35 (r 21) _ _ _ (vx_n q231_33 rfl) (mo_21 hM) (mow_21 hW) hS hV (lv_sub hl [0, 1, 2] rfl)
                · skip
                  have q231_33 := vx_b1 q231_33
                  refine lv_aload_n hx hb d_M_ladder_234 rfl (lv_at hl 2 rfl) ?_
                  refine sx_get EE (hS.1.ob hE hM.1) rfl i_M 19 (by decide) rfl fl_M_55 rfl d_M_ladder_235 ?_
                  refine lv_goto (tgt := 245) hx hb d_M_ladder_238 (by decide) ?_
                  exact jn245_35 (r 19) _ _ _ (vx_p q231_33 rfl) (mo_19 hM) (mow_19 hW) hS hV (lv_sub hl [0, 1, 2] rfl)
              refine lv_if_eq (tgt := 226) hx hb d_M_ladder_216 (by decide) (fun q216_30 => ?_) (fun q216_30 => ?_)
              · skip
                have q216_30 := vx_bf (vx_b0 q216_30)
                refine lv_aload_n hx hb d_M_ladder_226 rfl (lv_at hl 2 rfl) ?_
                refine sx_get EE (hS.1.ob hE hM.1) rfl i_M 20 (by decide) rfl fl_M_58 rfl d_M_ladder_227 ?_
                exact jn230_32 (r 20) _ _ _ (vx_n q216_30 rfl) (mo_20 hM) (mow_20 hW) hS hV (lv_sub hl [0, 1, 2] rfl)
              · skip
                have q216_30 := vx_b1 q216_30
                refine lv_aload_n hx hb d_M_ladder_219 rfl (lv_at hl 2 rfl) ?_
                refine sx_get EE (hS.1.ob hE hM.1) rfl i_M 18 (by decide) rfl fl_M_52 rfl d_M_ladder_220 ?_
                refine lv_goto (tgt := 230) hx hb d_M_ladder_223 (by decide) ?_
                exact jn230_32 (r 18) _ _ _ (vx_p q216_30 rfl) (mo_18 hM) (mow_18 hW) hS hV (lv_sub hl [0, 1, 2] rfl)
            refine lv_if_eq (tgt := 211) hx hb d_M_ladder_201 (by decide) (fun q201_27 => ?_) (fun q201_27 => ?_)
            · skip
              have q201_27 := vx_bf (vx_b0 q201_27)
              refine lv_aload_n hx hb d_M_ladder_211 rfl (lv_at hl 2 rfl) ?_
              refine sx_get EE (hS.1.ob hE hM.1) rfl i_M 19 (by decide) rfl fl_M_55 rfl d_M_ladder_212 ?_
              exact jn215_29 (r 19) _ _ _ (vx_n q201_27 rfl) (mo_19 hM) (mow_19 hW) hS hV (lv_sub hl [0, 1, 2] rfl)
            · skip
              have q201_27 := vx_b1 q201_27
              refine lv_aload_n hx hb d_M_ladder_204 rfl (lv_at hl 2 rfl) ?_
              refine sx_get EE (hS.1.ob hE hM.1) rfl i_M 21 (by decide) rfl fl_M_61 rfl d_M_ladder_205 ?_
              refine lv_goto (tgt := 215) hx hb d_M_ladder_208 (by decide) ?_
              exact jn215_29 (r 21) _ _ _ (vx_p q201_27 rfl) (mo_21 hM) (mow_21 hW) hS hV (lv_sub hl [0, 1, 2] rfl)
          refine lv_if_eq (tgt := 196) hx hb d_M_ladder_186 (by decide) (fun q186_24 => ?_) (fun q186_24 => ?_)
          · skip
            have q186_24 := vx_bf (vx_b0 q186_24)
            refine lv_aload_n hx hb d_M_ladder_196 rfl (lv_at hl 2 rfl) ?_
            refine sx_get EE (hS.1.ob hE hM.1) rfl i_M 18 (by decide) rfl fl_M_52 rfl d_M_ladder_197 ?_
            exact jn200_26 (r 18) _ _ _ (vx_n q186_24 rfl) (mo_18 hM) (mow_18 hW) hS hV (lv_sub hl [0, 1, 2] rfl)
          · skip
            have q186_24 := vx_b1 q186_24
            refine lv_aload_n hx hb d_M_ladder_189 rfl (lv_at hl 2 rfl) ?_
            refine sx_get EE (hS.1.ob hE hM.1) rfl i_M 20 (by decide) rfl fl_M_58 rfl d_M_ladder_190 ?_
            refine lv_goto (tgt := 200) hx hb d_M_ladder_193 (by decide) ?_
            exact jn200_26 (r 20) _ _ _ (vx_p q186_24 rfl) (mo_20 hM) (mow_20 hW) hS hV (lv_sub hl [0, 1, 2] rfl)
        refine lv_icmp_ne (tgt := 182) hx hb d_M_ladder_175 (by decide) (fun q175_21 => ?_) (fun q175_21 => ?_)
        · skip
          refine lv_iconst (v := nI 0) hx hb d_M_ladder_182 (by decide +kernel) ?_
          exact jn183_23 false _ _ _ (vx_n q175_21 rfl) hS hV (lv_sub hl [0, 1] rfl)
        · skip
          refine lv_iconst (v := nI 1) hx hb d_M_ladder_178 (by decide +kernel) ?_
          refine lv_goto (tgt := 183) hx hb d_M_ladder_179 (by decide) ?_
          exact jn183_23 true _ _ _ (vx_p q175_21 rfl) hS hV (lv_sub hl [0, 1] rfl)
      · intro H locs ls hP
        obtain ⟨hS, hV, hl⟩ := hP
        refine lv_iload_n hx hb d_M_ladder_162 rfl (lv_at hl 0 rfl) ?_
        refine lv_if_lt (tgt := 254) hx hb d_M_ladder_163 (by decide) (fun _ => ?_) (fun q => absurd (by decide +kernel) q)
        refine lv_aload_n hx hb d_M_ladder_254 rfl (lv_at hl 1 rfl) ?_
        refine lv_aload_n hx hb d_M_ladder_255 rfl (lv_at hl 1 rfl) ?_
        refine sx_get EE (hS.1.ob hE hM.1) rfl i_M 26 (by decide) rfl fl_M_76 rfl d_M_ladder_256 ?_
        refine lv_aload_n hx hb d_M_ladder_259 rfl (lv_at hl 1 rfl) ?_
        refine sx_get EE (hS.1.ob hE hM.1) rfl i_M 19 (by decide) rfl fl_M_55 rfl d_M_ladder_260 ?_
        refine lv_aload_n hx hb d_M_ladder_263 rfl (lv_at hl 1 rfl) ?_
        refine sx_get EE (hS.1.ob hE hM.1) rfl i_M 10 (by decide) rfl fl_M_27 rfl d_M_ladder_264 ?_
        refine vx_gv (sx_runV (As := [.ref (r 26), .ref (r 19), .ref (r 10)]) (rest := []) EE (hS.1.ob hE hM.1) rfl rfl (v_M_inverse (X := R21) (hM.kept hS.1 hE) hE hW (hS.a (mo_26 hM)) (mow_26 hW) (hS.a (mo_19 hM)) (hS.a (mo_10 hM)) hV) w_M_185 rfl ⟨rfl, rfl⟩ ⟨Nat.le_of_ble_eq_true rfl, Nat.le_of_ble_eq_true rfl⟩ ⟨Nat.zero_le _, Nat.zero_le _⟩ hl.1 rfl (Nat.le_of_ble_eq_true rfl) d_M_ladder_267) hS (fun H locs X38 eX38 hS hV => ?_)
        refine lv_aload_n hx hb d_M_ladder_270 rfl (lv_at hl 1 rfl) ?_
        refine lv_aload_n hx hb d_M_ladder_271 rfl (lv_at hl 1 rfl) ?_
        refine sx_get EE (hS.1.ob hE hM.1) rfl i_M 18 (by decide) rfl fl_M_52 rfl d_M_ladder_272 ?_
        refine lv_aload_n hx hb d_M_ladder_275 rfl (lv_at hl 1 rfl) ?_
        refine sx_get EE (hS.1.ob hE hM.1) rfl i_M 18 (by decide) rfl fl_M_52 rfl d_M_ladder_276 ?_
        refine lv_aload_n hx hb d_M_ladder_279 rfl (lv_at hl 1 rfl) ?_
        refine sx_get EE (hS.1.ob hE hM.1) rfl i_M 26 (by decide) rfl fl_M_76 rfl d_M_ladder_280 ?_
        refine lv_aload_n hx hb d_M_ladder_283 rfl (lv_at hl 1 rfl) ?_
        refine sx_get EE (hS.1.ob hE hM.1) rfl i_M 10 (by decide) rfl fl_M_27 rfl d_M_ladder_284 ?_
        refine lv_aload_n hx hb d_M_ladder_287 rfl (lv_at hl 1 rfl) ?_
        refine sx_get EE (hS.1.ob hE hM.1) rfl i_M 11 (by decide) rfl fl_M_31 rfl d_M_ladder_288 ?_
        refine vx_gv (sx_runV (As := [.ref (r 18), .ref (r 18), .ref (r 26), .ref (r 10), .ref (r 11)]) (rest := []) EE (hS.1.ob hE hM.1) rfl rfl (v_M_times (X := X38) (hM.kept hS.1 hE) hE hW (hS.a (mo_18 hM)) (mow_18 hW) (hS.a (mo_18 hM)) (hS.a (mo_26 hM)) (hS.a (mo_10 hM)) (hS.a (mo_11 hM)) hV) w_M_188 rfl ⟨rfl, rfl⟩ ⟨Nat.le_of_ble_eq_true rfl, Nat.le_of_ble_eq_true rfl⟩ ⟨Nat.zero_le _, Nat.zero_le _⟩ hl.1 rfl (Nat.le_of_ble_eq_true rfl) d_M_ladder_291) hS (fun H locs X39 eX39 hS hV => ?_)
        refine lv_iconst (v := nI 0) hx hb d_M_ladder_294 (by decide +kernel) ?_
        refine lv_istore_n (lv' := [(1, .int (nI (0))), (0, .ref o)]) hx hb d_M_ladder_295 rfl hl (by decide) rfl (fun ls hl => ?_)
        obtain ⟨R42, eR42⟩ : ∃ t : vM, lpU 1 (LL_M_ladder_296 r) 32 0 X39 = t := ⟨_, rfl⟩
        refine lpU_go (σ := vM) (P := fun i40 s41 H locs ls => sx_S g E E H0 H locs ∧ mm g H = s41 ∧ lv_has ls 3 [(1, .int (nI (i40))), (0, .ref o)]) (Wd := fun H locs ls => W p l e rm_M_ladder s m args below meth c H locs 0 0 Q (F0 m 296 ls [])) (N := 32) (d := 1) (by decide) ?_ ?_ 32 0 _ (by omega) eR42 _ _ _ ⟨hS, hV, lv_sub hl [0, 1] rfl⟩
        · intro i40 s41 H locs ls hii40 hP ihi40
          obtain ⟨hS, hV, hl⟩ := hP
          refine lv_iload_n hx hb d_M_ladder_296 rfl (lv_at hl 0 rfl) ?_
          refine lv_bipush (v := nI 32) hx hb d_M_ladder_297 (by decide +kernel) ?_
          refine lv_icmp_ge (tgt := 331) hx hb d_M_ladder_299 (by decide) (fun q => absurd q (nI_ge (by omega) (by omega))) (fun _ => ?_)
          refine lv_aload_n hx hb d_M_ladder_302 rfl (lv_at hl 1 rfl) ?_
          refine sx_get EE (hS.1.ob hE hM.1) rfl i_M 35 (by decide) rfl fl_M_103 rfl d_M_ladder_303 ?_
          refine lv_iload_n hx hb d_M_ladder_306 rfl (lv_at hl 0 rfl) ?_
          refine lv_aload_n hx hb d_M_ladder_307 rfl (lv_at hl 1 rfl) ?_
          refine sx_get EE (hS.1.ob hE hM.1) rfl i_M 18 (by decide) rfl fl_M_52 rfl d_M_ladder_308 ?_
          refine lv_iload_n hx hb d_M_ladder_311 rfl (lv_at hl 0 rfl) ?_
          refine lv_iconst (v := nI 2) hx hb d_M_ladder_312 (by decide +kernel) ?_
          refine lv_idiv hx hb d_M_ladder_313 (nI_ne0 (by omega) (by omega)) ?_
          refine sx_ti (y := nI (i40 / 2)) (pk_div (by omega) (by omega) (by omega)) ?_
          refine vx_lald hx hb hG hS hV (mo_18 hM) (by omega) (by decide) d_M_ladder_314 ?_
          refine lv_bipush (v := nI 8) hx hb d_M_ladder_315 (by decide +kernel) ?_
          refine lv_iload_n hx hb d_M_ladder_317 rfl (lv_at hl 0 rfl) ?_
          refine lv_iconst (v := nI 2) hx hb d_M_ladder_318 (by decide +kernel) ?_
          refine lv_irem hx hb d_M_ladder_319 (nI_ne0 (by omega) (by omega)) ?_
          refine sx_ti (y := nI (i40 % 2)) (pk_rem (by omega) (by omega) (by omega)) ?_
          refine lv_imul hx hb d_M_ladder_320 ?_
          refine sx_ti (y := nI (8 * (i40 % 2))) (pk_mul _ _) ?_
          refine lv_lshr hx hb d_M_ladder_321 rfl ?_
          refine lv_l2i hx hb d_M_ladder_322 rfl ?_
          refine lv_i2b hx hb d_M_ladder_323 rfl ?_
          refine vx_bast hx hb hG hS hV (mo_35 hM) (mow_35 hW) (by omega) (by decide) d_M_ladder_324 (fun H locs X43 eX43 hS hV => ?_)
          refine lv_iinc (v := nI (i40 + 1)) (lv' := [(1, .int (nI (i40 + 1))), (0, .ref o)]) hx hb d_M_ladder_325 hl (k := 0) rfl (sx_inc _ _) (by decide) rfl (fun ls hl => ?_)
          refine lv_goto (tgt := 296) hx hb d_M_ladder_328 (by decide) ?_
          exact ihi40 X43 _ _ _ (by subst eX43; exact rfl) ⟨hS, hV, lv_sub hl [0, 1] rfl⟩
        · intro H locs ls hP
          obtain ⟨hS, hV, hl⟩ := hP
          refine lv_iload_n hx hb d_M_ladder_296 rfl (lv_at hl 0 rfl) ?_
          refine lv_bipush (v := nI 32) hx hb d_M_ladder_297 (by decide +kernel) ?_
          refine lv_icmp_ge (tgt := 331) hx hb d_M_ladder_299 (by decide) (fun _ => ?_) (fun q => absurd (nI_le (by omega) (by omega)) q)
          exact hret _ _ _ _ _ (by subst eR3 eJ10 eX12 eX13 eX14 eX15 eX16 eX17 eX18 eR21 eX38 eX39 eR42; exact rfl) hS hV d_M_ladder_331
    refine lv_if_ne (tgt := 99) hx hb d_M_ladder_81 (by decide) (fun q81_7 => ?_) (fun q81_7 => ?_)
    · skip
      have q81_7 := vx_b1 q81_7
      exact jn99_10 R3 _ _ _ (vx_p q81_7 rfl) hS hV (lv_sub hl [0, 1] rfl)
    · skip
      have q81_7 := vx_bf (vx_b0 q81_7)
      refine lv_aload_n hx hb d_M_ladder_84 rfl (lv_at hl 1 rfl) ?_
      refine sx_get EE (hS.1.ob hE hM.1) rfl i_M 33 (by decide) rfl fl_M_97 rfl d_M_ladder_85 ?_
      refine lv_aload_n hx hb d_M_ladder_88 rfl (lv_at hl 1 rfl) ?_
      refine sx_get EE (hS.1.ob hE hM.1) rfl i_M 33 (by decide) rfl fl_M_97 rfl d_M_ladder_89 ?_
      refine lv_aload_n hx hb d_M_ladder_92 rfl (lv_at hl 1 rfl) ?_
      refine sx_get EE (hS.1.ob hE hM.1) rfl i_M 10 (by decide) rfl fl_M_27 rfl d_M_ladder_93 ?_
      refine vx_gv (sx_runS (As := [.ref (r 33), .ref (r 33), .ref (r 10)]) (rest := []) EE (v_M_less (X := R3) (hS.a (mo_33 hM)) (mow_33 hW) (hS.a (mo_33 hM)) (hS.a (mo_10 hM)) hV) w_M_219 rfl ⟨rfl, rfl⟩ ⟨Nat.le_of_ble_eq_true rfl, Nat.le_of_ble_eq_true rfl⟩ ⟨Nat.zero_le _, Nat.zero_le _⟩ hl.1 rfl (Nat.le_of_ble_eq_true rfl) d_M_ladder_96) hS (fun H locs X44 eX44 hS hV => ?_)
      exact jn99_10 X44 _ _ _ (by subst eX44; exact (vx_n q81_7 rfl)) hS hV (lv_sub hl [0, 1] rfl)
def LL_M_opened_2 (r : Nat → Nat) (v0 : Nat) : Nat → vM → vM := fun i_0 s_1 => (let X_2 : vM := stI s_1 (r 38) i_0 ((s_1.2 (r 4) ((32 * v0) + i_0)).toInt8.toInt32); X_2)
def LF_M_opened (X : vM) (r : Nat → Nat) (v0 : Nat) : vM := (let R3 : vM := lpU 1 (LL_M_opened_2 r v0) 32 0 X; (let X5 : vM := (LF_M_hash R3 r (r 38) 32); let X6 : vM := (LF_M_clamped X5 r (r 32) (r 52) 0); let X7 : vM := (LF_M_fromBase X6 r (r 32)); let X8 : vM := (LF_M_encode X7 r (r 36) (r 18) (r 19)); X8))
abbrev rm_M_opened : Room := { frames := 6, cells := 0, slots := 0, locals := 152 }
set_option maxHeartbeats 4000000 in
set_option maxRecDepth 100000 in
theorem v_M_opened {l : Launch} {D : va_G} {g : ClassId → FieldType → Prop} {E : Nat → Prop} {H0 : Heap} {X : vM} {o : Nat} {r : Nat → Nat} {i : Nat → Int32} {v0 : Nat} (hM : mo_ D g H0 o r i) (hE : ¬ E o) (hW : ∀ q ∈ mo_wr, E (r q.1)) (h0 : v0 < 100) (hV : mm g H0 = X) : Met l y_M_opened (.code y_M_opened b_M_opened 3 none :: G_) rm_M_opened (sx_Pc [.ref o, .int (nI v0)] H0 D g) (vx_Qv g E H0 (LF_M_opened X r v0)) 0 0 E := by
  refine vx_mv (own := R_M) (by decide) rfl rfl rfl (Nat.le_of_ble_eq_true rfl) ?_
  intro p e s m args below meth c Q ls EE hl hret
  obtain ⟨hx, hb, hml, hown, hts, hG, hK⟩ := id EE
  have hS : sx_S g E E H0 H0 [] := sx_S.rf
  have hl : lv_has ls 3 [(0, .ref o), (1, .int (nI (v0)))] := hl
  refine lv_iconst (v := nI 0) hx hb d_M_opened_0 (by decide +kernel) ?_
  refine lv_istore_n (lv' := [(2, .int (nI (0))), (0, .ref o), (1, .int (nI (v0)))]) hx hb d_M_opened_1 rfl hl (by decide) rfl (fun ls hl => ?_)
  obtain ⟨R3, eR3⟩ : ∃ t : vM, lpU 1 (LL_M_opened_2 r v0) 32 0 X = t := ⟨_, rfl⟩
  refine lpU_go (σ := vM) (P := fun i1 s2 H locs ls => sx_S g E E H0 H locs ∧ mm g H = s2 ∧ lv_has ls 3 [(2, .int (nI (i1))), (0, .ref o), (1, .int (nI (v0)))]) (Wd := fun H locs ls => W p l e rm_M_opened s m args below meth c H locs 0 0 Q (F0 m 2 ls [])) (N := 32) (d := 1) (by decide) ?_ ?_ 32 0 _ (by omega) eR3 _ _ _ ⟨hS, hV, lv_sub hl [0, 1, 2] rfl⟩
  · intro i1 s2 H locs ls hii1 hP ihi1
    obtain ⟨hS, hV, hl⟩ := hP
    refine lv_iload_n hx hb d_M_opened_2 rfl (lv_at hl 0 rfl) ?_
    refine lv_bipush (v := nI 32) hx hb d_M_opened_3 (by decide +kernel) ?_
    refine lv_icmp_ge (tgt := 31) hx hb d_M_opened_5 (by decide) (fun q => absurd q (nI_ge (by omega) (by omega))) (fun _ => ?_)
    refine lv_aload_n hx hb d_M_opened_8 rfl (lv_at hl 1 rfl) ?_
    refine sx_get EE (hS.1.ob hE hM.1) rfl i_M 38 (by decide) rfl fl_M_113 rfl d_M_opened_9 ?_
    refine lv_iload_n hx hb d_M_opened_12 rfl (lv_at hl 0 rfl) ?_
    refine lv_aload_n hx hb d_M_opened_13 rfl (lv_at hl 1 rfl) ?_
    refine sx_get EE (hS.1.ob hE hM.1) rfl i_M 4 (by decide) rfl fl_M_20 rfl d_M_opened_14 ?_
    refine lv_bipush (v := nI 32) hx hb d_M_opened_17 (by decide +kernel) ?_
    refine lv_iload_n hx hb d_M_opened_19 rfl (lv_at hl 2 rfl) ?_
    refine lv_imul hx hb d_M_opened_20 ?_
    refine sx_ti (y := nI (32 * v0)) (pk_mul _ _) ?_
    refine lv_iload_n hx hb d_M_opened_21 rfl (lv_at hl 0 rfl) ?_
    refine lv_iadd hx hb d_M_opened_22 ?_
    refine sx_ti (y := nI ((32 * v0) + i1)) (nI_add _ _) ?_
    refine vx_bald hx hb hG hS hV (mo_4 hM) (by omega) (by decide) d_M_opened_23 ?_
    refine vx_bast hx hb hG hS hV (mo_38 hM) (mow_38 hW) (by omega) (by decide) d_M_opened_24 (fun H locs X4 eX4 hS hV => ?_)
    refine lv_iinc (v := nI (i1 + 1)) (lv' := [(2, .int (nI (i1 + 1))), (0, .ref o), (1, .int (nI (v0)))]) hx hb d_M_opened_25 hl (k := 0) rfl (sx_inc _ _) (by decide) rfl (fun ls hl => ?_)
    refine lv_goto (tgt := 2) hx hb d_M_opened_28 (by decide) ?_
    exact ihi1 X4 _ _ _ (by subst eX4; exact rfl) ⟨hS, hV, lv_sub hl [0, 1, 2] rfl⟩
  · intro H locs ls hP
    obtain ⟨hS, hV, hl⟩ := hP
    refine lv_iload_n hx hb d_M_opened_2 rfl (lv_at hl 0 rfl) ?_
    refine lv_bipush (v := nI 32) hx hb d_M_opened_3 (by decide +kernel) ?_
    refine lv_icmp_ge (tgt := 31) hx hb d_M_opened_5 (by decide) (fun _ => ?_) (fun q => absurd (nI_le (by omega) (by omega)) q)
    refine lv_aload_n hx hb d_M_opened_31 rfl (lv_at hl 1 rfl) ?_
    refine lv_aload_n hx hb d_M_opened_32 rfl (lv_at hl 1 rfl) ?_
    refine sx_get EE (hS.1.ob hE hM.1) rfl i_M 38 (by decide) rfl fl_M_113 rfl d_M_opened_33 ?_
    refine lv_bipush (v := nI 32) hx hb d_M_opened_36 (by decide +kernel) ?_
    refine vx_gv (sx_runV (As := [.ref (r 38), .int (nI (32))]) (rest := []) EE (hS.1.ob hE hM.1) rfl rfl (v_M_hash (X := R3) (hM.kept hS.1 hE) hE hW (hS.a (mo_38 hM)) (by omega) hV) w_M_294 rfl ⟨rfl, rfl⟩ ⟨Nat.le_of_ble_eq_true rfl, Nat.le_of_ble_eq_true rfl⟩ ⟨Nat.zero_le _, Nat.zero_le _⟩ hl.1 rfl (Nat.le_of_ble_eq_true rfl) d_M_opened_38) hS (fun H locs X5 eX5 hS hV => ?_)
    refine lv_aload_n hx hb d_M_opened_41 rfl (lv_at hl 1 rfl) ?_
    refine lv_aload_n hx hb d_M_opened_42 rfl (lv_at hl 1 rfl) ?_
    refine sx_get EE (hS.1.ob hE hM.1) rfl i_M 32 (by decide) rfl fl_M_94 rfl d_M_opened_43 ?_
    refine lv_aload_n hx hb d_M_opened_46 rfl (lv_at hl 1 rfl) ?_
    refine sx_get EE (hS.1.ob hE hM.1) rfl i_M 52 (by decide) rfl fl_M_159 rfl d_M_opened_47 ?_
    refine lv_iconst (v := nI 0) hx hb d_M_opened_50 (by decide +kernel) ?_
    refine vx_gv (sx_runV (As := [.ref (r 32), .ref (r 52), .int (nI (0))]) (rest := []) EE (hS.1.ob hE hM.1) rfl rfl (v_M_clamped (X := X5) (hM.kept hS.1 hE) hE hW (hS.a (mo_32 hM)) (mow_32 hW) (hS.a (mo_52 hM)) (by omega) (by omega) hV) w_M_298 rfl ⟨rfl, rfl⟩ ⟨Nat.le_of_ble_eq_true rfl, Nat.le_of_ble_eq_true rfl⟩ ⟨Nat.zero_le _, Nat.zero_le _⟩ hl.1 rfl (Nat.le_of_ble_eq_true rfl) d_M_opened_51) hS (fun H locs X6 eX6 hS hV => ?_)
    refine lv_aload_n hx hb d_M_opened_54 rfl (lv_at hl 1 rfl) ?_
    refine lv_aload_n hx hb d_M_opened_55 rfl (lv_at hl 1 rfl) ?_
    refine sx_get EE (hS.1.ob hE hM.1) rfl i_M 32 (by decide) rfl fl_M_94 rfl d_M_opened_56 ?_
    refine vx_gv (sx_runV (As := [.ref (r 32)]) (rest := []) EE (hS.1.ob hE hM.1) rfl rfl (v_M_fromBase (X := X6) (hM.kept hS.1 hE) hE hW (hS.a (mo_32 hM)) hV) w_M_302 rfl ⟨rfl, rfl⟩ ⟨Nat.le_of_ble_eq_true rfl, Nat.le_of_ble_eq_true rfl⟩ ⟨Nat.zero_le _, Nat.zero_le _⟩ hl.1 rfl (Nat.le_of_ble_eq_true rfl) d_M_opened_59) hS (fun H locs X7 eX7 hS hV => ?_)
    refine lv_aload_n hx hb d_M_opened_62 rfl (lv_at hl 1 rfl) ?_
    refine lv_aload_n hx hb d_M_opened_63 rfl (lv_at hl 1 rfl) ?_
    refine sx_get EE (hS.1.ob hE hM.1) rfl i_M 36 (by decide) rfl fl_M_106 rfl d_M_opened_64 ?_
    refine lv_aload_n hx hb d_M_opened_67 rfl (lv_at hl 1 rfl) ?_
    refine sx_get EE (hS.1.ob hE hM.1) rfl i_M 18 (by decide) rfl fl_M_52 rfl d_M_opened_68 ?_
    refine lv_aload_n hx hb d_M_opened_71 rfl (lv_at hl 1 rfl) ?_
    refine sx_get EE (hS.1.ob hE hM.1) rfl i_M 19 (by decide) rfl fl_M_55 rfl d_M_opened_72 ?_
    refine vx_gv (sx_runV (As := [.ref (r 36), .ref (r 18), .ref (r 19)]) (rest := []) EE (hS.1.ob hE hM.1) rfl rfl (v_M_encode (X := X7) (hM.kept hS.1 hE) hE hW (hS.a (mo_36 hM)) (mow_36 hW) (hS.a (mo_18 hM)) (hS.a (mo_19 hM)) hV) w_M_305 rfl ⟨rfl, rfl⟩ ⟨Nat.le_of_ble_eq_true rfl, Nat.le_of_ble_eq_true rfl⟩ ⟨Nat.zero_le _, Nat.zero_le _⟩ hl.1 rfl (Nat.le_of_ble_eq_true rfl) d_M_opened_75) hS (fun H locs X8 eX8 hS hV => ?_)
    exact hret _ _ _ _ _ (by subst eR3 eX5 eX6 eX7 eX8; exact rfl) hS hV d_M_opened_78
def LL_M_verified_2 (r : Nat → Nat) : Nat → vM → vM := fun i_0 s_1 => (let X_2 : vM := stL s_1 (r 31) i_0 ((((s_1.2 (r 1) (64 + (2 * i_0))) &&& (nI 255)) ||| (((s_1.2 (r 1) (65 + (2 * i_0))) &&& (nI 255)) <<< ((nI 8) &&& 31))).toInt64); X_2)
def LL_M_verified_73 (r : Nat → Nat) : Nat → vM → vM := fun i_0 s_1 => (let X_2 : vM := stI s_1 (r 35) i_0 ((s_1.2 (r 1) i_0).toInt8.toInt32); X_2)
def LL_M_verified_108 (r : Nat → Nat) : Nat → vM → vM := fun i_0 s_1 => (let X_2 : vM := stI s_1 (r 38) i_0 ((s_1.2 (r 1) (32 + i_0)).toInt8.toInt32); let X_3 : vM := stI X_2 (r 38) (32 + i_0) ((X_2.2 (r 1) i_0).toInt8.toInt32); X_3)
def LL_M_verified_267 (X_0 : vM) (r : Nat → Nat) : Nat → Unit → (vM × Int32) ⊕ Unit := fun i_1 s_2 => if (X_0.2 (r 37) i_1) = (X_0.2 (r 1) (32 + i_1)) then (Sum.inr ()) else (Sum.inl ((X_0, (nI 3))))
def LF_M_verified (X : vM) (r : Nat → Nat) (nm : Nat) : vM × Int32 := (let R3 : vM := lpU 1 (LL_M_verified_2 r) 16 0 X; if (LF_M_below R3 (r 31) (r 12)) = true then (let R8 : vM := lpU 1 (LL_M_verified_73 r) 32 0 R3; (let X10 : vM := (LF_M_decode R8 r).1; if ((LF_M_decode R8 r).2) = true then (let R14 : vM := lpU 1 (LL_M_verified_108 r) 32 0 X10; (let X17 : vM := (LF_M_hashMessage R14 r 64 nm); let X18 : vM := (LF_M_hashNumber X17 r (r 33)); let X19 : vM := (LF_M_set X18 (r 26) (nI 0)); let X20 : vM := (LF_M_minus X19 (r 20) (r 26) (r 20) (r 10)); let X21 : vM := (LF_M_multiply X20 r (r 33)); let X22 : vM := (LF_M_copy X21 (r 22) (r 18)); let X23 : vM := (LF_M_copy X22 (r 23) (r 19)); let X24 : vM := (LF_M_fromBase X23 r (r 31)); let X25 : vM := (LF_M_add X24 r (r 18) (r 19) (r 22) (r 23)); let X26 : vM := (LF_M_encode X25 r (r 37) (r 18) (r 19)); Sum.elim (fun r => r) (fun (s31 : Unit) => (X26, (nI 0))) (lpE 1 (LL_M_verified_267 X26 r) 32 0 ()))) else (X10, (nI 2)))) else (R3, (nI 1)))
abbrev rm_M_verified : Room := { frames := 6, cells := 0, slots := 0, locals := 152 }
set_option maxHeartbeats 4000000 in
set_option maxRecDepth 100000 in
theorem v_M_verified {l : Launch} {D : va_G} {g : ClassId → FieldType → Prop} {E : Nat → Prop} {H0 : Heap} {X : vM} {o : Nat} {r : Nat → Nat} {i : Nat → Int32} {nm : Nat} (hM : mo_ D g H0 o r i) (hE : ¬ E o) (hW : ∀ q ∈ mo_wr, E (r q.1)) (hm : i 6 = nI nm) (hnm : nm ≤ 65536) (hV : mm g H0 = X) : Met l y_M_verified (.code y_M_verified b_M_verified 2 (some .int) :: G_) rm_M_verified (sx_Pc [.ref o] H0 D g) (vx_Qi g E H0 (LF_M_verified X r nm).1 (LF_M_verified X r nm).2) 0 0 E := by
  refine vx_mi (own := R_M) (by decide) rfl rfl rfl (Nat.le_of_ble_eq_true rfl) ?_
  intro p e s m args below meth c Q ls EE hl hret
  obtain ⟨hx, hb, hml, hown, hts, hG, hK⟩ := id EE
  have hS : sx_S g E E H0 H0 [] := sx_S.rf
  have hl : lv_has ls 2 [(0, .ref o)] := hl
  refine lv_iconst (v := nI 0) hx hb d_M_verified_0 (by decide +kernel) ?_
  refine lv_istore_n (lv' := [(1, .int (nI (0))), (0, .ref o)]) hx hb d_M_verified_1 rfl hl (by decide) rfl (fun ls hl => ?_)
  obtain ⟨R3, eR3⟩ : ∃ t : vM, lpU 1 (LL_M_verified_2 r) 16 0 X = t := ⟨_, rfl⟩
  refine lpU_go (σ := vM) (P := fun i1 s2 H locs ls => sx_S g E E H0 H locs ∧ mm g H = s2 ∧ lv_has ls 2 [(1, .int (nI (i1))), (0, .ref o)]) (Wd := fun H locs ls => W p l e rm_M_verified s m args below meth c H locs 0 0 Q (F0 m 2 ls [])) (N := 16) (d := 1) (by decide) ?_ ?_ 16 0 _ (by omega) eR3 _ _ _ ⟨hS, hV, lv_sub hl [0, 1] rfl⟩
  · intro i1 s2 H locs ls hii1 hP ihi1
    obtain ⟨hS, hV, hl⟩ := hP
    refine lv_iload_n hx hb d_M_verified_2 rfl (lv_at hl 0 rfl) ?_
    refine lv_bipush (v := nI 16) hx hb d_M_verified_3 (by decide +kernel) ?_
    refine lv_icmp_ge (tgt := 55) hx hb d_M_verified_5 (by decide) (fun q => absurd q (nI_ge (by omega) (by omega))) (fun _ => ?_)
    refine lv_aload_n hx hb d_M_verified_8 rfl (lv_at hl 1 rfl) ?_
    refine sx_get EE (hS.1.ob hE hM.1) rfl i_M 31 (by decide) rfl fl_M_91 rfl d_M_verified_9 ?_
    refine lv_iload_n hx hb d_M_verified_12 rfl (lv_at hl 0 rfl) ?_
    refine lv_aload_n hx hb d_M_verified_13 rfl (lv_at hl 1 rfl) ?_
    refine sx_get EE (hS.1.ob hE hM.1) rfl i_M 1 (by decide) rfl fl_M_8 rfl d_M_verified_14 ?_
    refine lv_bipush (v := nI 64) hx hb d_M_verified_17 (by decide +kernel) ?_
    refine lv_iconst (v := nI 2) hx hb d_M_verified_19 (by decide +kernel) ?_
    refine lv_iload_n hx hb d_M_verified_20 rfl (lv_at hl 0 rfl) ?_
    refine lv_imul hx hb d_M_verified_21 ?_
    refine sx_ti (y := nI (2 * i1)) (pk_mul _ _) ?_
    refine lv_iadd hx hb d_M_verified_22 ?_
    refine sx_ti (y := nI (64 + (2 * i1))) (nI_add _ _) ?_
    refine vx_bald hx hb hG hS hV (mo_1 hM) (by omega) (by decide) d_M_verified_23 ?_
    refine lv_sipush (v := nI 255) hx hb d_M_verified_24 (by decide +kernel) ?_
    refine lv_iand hx hb d_M_verified_27 ?_
    refine lv_aload_n hx hb d_M_verified_28 rfl (lv_at hl 1 rfl) ?_
    refine sx_get EE (hS.1.ob hE hM.1) rfl i_M 1 (by decide) rfl fl_M_8 rfl d_M_verified_29 ?_
    refine lv_bipush (v := nI 65) hx hb d_M_verified_32 (by decide +kernel) ?_
    refine lv_iconst (v := nI 2) hx hb d_M_verified_34 (by decide +kernel) ?_
    refine lv_iload_n hx hb d_M_verified_35 rfl (lv_at hl 0 rfl) ?_
    refine lv_imul hx hb d_M_verified_36 ?_
    refine sx_ti (y := nI (2 * i1)) (pk_mul _ _) ?_
    refine lv_iadd hx hb d_M_verified_37 ?_
    refine sx_ti (y := nI (65 + (2 * i1))) (nI_add _ _) ?_
    refine vx_bald hx hb hG hS hV (mo_1 hM) (by omega) (by decide) d_M_verified_38 ?_
    refine lv_sipush (v := nI 255) hx hb d_M_verified_39 (by decide +kernel) ?_
    refine lv_iand hx hb d_M_verified_42 ?_
    refine lv_bipush (v := nI 8) hx hb d_M_verified_43 (by decide +kernel) ?_
    refine lv_ishl hx hb d_M_verified_45 ?_
    refine lv_ior hx hb d_M_verified_46 ?_
    refine lv_i2l hx hb d_M_verified_47 rfl ?_
    refine vx_last hx hb hG hS hV (mo_31 hM) (mow_31 hW) (by omega) (by decide) d_M_verified_48 (fun H locs X4 eX4 hS hV => ?_)
    refine lv_iinc (v := nI (i1 + 1)) (lv' := [(1, .int (nI (i1 + 1))), (0, .ref o)]) hx hb d_M_verified_49 hl (k := 0) rfl (sx_inc _ _) (by decide) rfl (fun ls hl => ?_)
    refine lv_goto (tgt := 2) hx hb d_M_verified_52 (by decide) ?_
    exact ihi1 X4 _ _ _ (by subst eX4; exact rfl) ⟨hS, hV, lv_sub hl [0, 1] rfl⟩
  · intro H locs ls hP
    obtain ⟨hS, hV, hl⟩ := hP
    refine lv_iload_n hx hb d_M_verified_2 rfl (lv_at hl 0 rfl) ?_
    refine lv_bipush (v := nI 16) hx hb d_M_verified_3 (by decide +kernel) ?_
    refine lv_icmp_ge (tgt := 55) hx hb d_M_verified_5 (by decide) (fun _ => ?_) (fun q => absurd (nI_le (by omega) (by omega)) q)
    refine lv_aload_n hx hb d_M_verified_55 rfl (lv_at hl 1 rfl) ?_
    refine sx_get EE (hS.1.ob hE hM.1) rfl i_M 31 (by decide) rfl fl_M_91 rfl d_M_verified_56 ?_
    refine lv_aload_n hx hb d_M_verified_59 rfl (lv_at hl 1 rfl) ?_
    refine sx_get EE (hS.1.ob hE hM.1) rfl i_M 12 (by decide) rfl fl_M_34 rfl d_M_verified_60 ?_
    refine vx_gi (sx_runS (As := [.ref (r 31), .ref (r 12)]) (rest := []) EE (v_M_below (X := R3) (hS.a (mo_31 hM)) (hS.a (mo_12 hM)) hV) w_M_215 rfl ⟨rfl, rfl⟩ ⟨Nat.le_of_ble_eq_true rfl, Nat.le_of_ble_eq_true rfl⟩ ⟨Nat.zero_le _, Nat.zero_le _⟩ hl.1 rfl (Nat.le_of_ble_eq_true rfl) d_M_verified_63) hS (fun H locs X_ eX_ hS hV => ?_)
    subst eX_
    refine lv_if_ne (tgt := 71) hx hb d_M_verified_66 (by decide) (fun q66_4 => ?_) (fun q66_4 => ?_)
    · skip
      have q66_4 := vx_b1 q66_4
      refine lv_iconst (v := nI 0) hx hb d_M_verified_71 (by decide +kernel) ?_
      refine lv_istore_n (lv' := [(1, .int (nI (0))), (0, .ref o)]) hx hb d_M_verified_72 rfl hl (by decide) rfl (fun ls hl => ?_)
      obtain ⟨R8, eR8⟩ : ∃ t : vM, lpU 1 (LL_M_verified_73 r) 32 0 R3 = t := ⟨_, rfl⟩
      refine lpU_go (σ := vM) (P := fun i6 s7 H locs ls => sx_S g E E H0 H locs ∧ mm g H = s7 ∧ lv_has ls 2 [(1, .int (nI (i6))), (0, .ref o)]) (Wd := fun H locs ls => W p l e rm_M_verified s m args below meth c H locs 0 0 Q (F0 m 73 ls [])) (N := 32) (d := 1) (by decide) ?_ ?_ 32 0 _ (by omega) eR8 _ _ _ ⟨hS, hV, lv_sub hl [0, 1] rfl⟩
      · intro i6 s7 H locs ls hii6 hP ihi6
        obtain ⟨hS, hV, hl⟩ := hP
        refine lv_iload_n hx hb d_M_verified_73 rfl (lv_at hl 0 rfl) ?_
        refine lv_bipush (v := nI 32) hx hb d_M_verified_74 (by decide +kernel) ?_
        refine lv_icmp_ge (tgt := 97) hx hb d_M_verified_76 (by decide) (fun q => absurd q (nI_ge (by omega) (by omega))) (fun _ => ?_)
        refine lv_aload_n hx hb d_M_verified_79 rfl (lv_at hl 1 rfl) ?_
        refine sx_get EE (hS.1.ob hE hM.1) rfl i_M 35 (by decide) rfl fl_M_103 rfl d_M_verified_80 ?_
        refine lv_iload_n hx hb d_M_verified_83 rfl (lv_at hl 0 rfl) ?_
        refine lv_aload_n hx hb d_M_verified_84 rfl (lv_at hl 1 rfl) ?_
        refine sx_get EE (hS.1.ob hE hM.1) rfl i_M 1 (by decide) rfl fl_M_8 rfl d_M_verified_85 ?_
        refine lv_iload_n hx hb d_M_verified_88 rfl (lv_at hl 0 rfl) ?_
        refine vx_bald hx hb hG hS hV (mo_1 hM) (by omega) (by decide) d_M_verified_89 ?_
        refine vx_bast hx hb hG hS hV (mo_35 hM) (mow_35 hW) (by omega) (by decide) d_M_verified_90 (fun H locs X9 eX9 hS hV => ?_)
        refine lv_iinc (v := nI (i6 + 1)) (lv' := [(1, .int (nI (i6 + 1))), (0, .ref o)]) hx hb d_M_verified_91 hl (k := 0) rfl (sx_inc _ _) (by decide) rfl (fun ls hl => ?_)
        refine lv_goto (tgt := 73) hx hb d_M_verified_94 (by decide) ?_
        exact ihi6 X9 _ _ _ (by subst eX9; exact rfl) ⟨hS, hV, lv_sub hl [0, 1] rfl⟩
      · intro H locs ls hP
        obtain ⟨hS, hV, hl⟩ := hP
        refine lv_iload_n hx hb d_M_verified_73 rfl (lv_at hl 0 rfl) ?_
        refine lv_bipush (v := nI 32) hx hb d_M_verified_74 (by decide +kernel) ?_
        refine lv_icmp_ge (tgt := 97) hx hb d_M_verified_76 (by decide) (fun _ => ?_) (fun q => absurd (nI_le (by omega) (by omega)) q)
        refine lv_aload_n hx hb d_M_verified_97 rfl (lv_at hl 1 rfl) ?_
        refine vx_gi (sx_runV (As := []) (rest := []) EE (hS.1.ob hE hM.1) rfl rfl (v_M_decode (X := R8) (hM.kept hS.1 hE) hE hW hV) w_M_203 rfl ⟨rfl, rfl⟩ ⟨Nat.le_of_ble_eq_true rfl, Nat.le_of_ble_eq_true rfl⟩ ⟨Nat.zero_le _, Nat.zero_le _⟩ hl.1 rfl (Nat.le_of_ble_eq_true rfl) d_M_verified_98) hS (fun H locs X10 eX10 hS hV => ?_)
        refine lv_if_ne (tgt := 106) hx hb d_M_verified_101 (by decide) (fun q101_10 => ?_) (fun q101_10 => ?_)
        · skip
          have q101_10 := vx_b1 q101_10
          refine lv_iconst (v := nI 0) hx hb d_M_verified_106 (by decide +kernel) ?_
          refine lv_istore_n (lv' := [(1, .int (nI (0))), (0, .ref o)]) hx hb d_M_verified_107 rfl hl (by decide) rfl (fun ls hl => ?_)
          obtain ⟨R14, eR14⟩ : ∃ t : vM, lpU 1 (LL_M_verified_108 r) 32 0 X10 = t := ⟨_, rfl⟩
          refine lpU_go (σ := vM) (P := fun i12 s13 H locs ls => sx_S g E E H0 H locs ∧ mm g H = s13 ∧ lv_has ls 2 [(1, .int (nI (i12))), (0, .ref o)]) (Wd := fun H locs ls => W p l e rm_M_verified s m args below meth c H locs 0 0 Q (F0 m 108 ls [])) (N := 32) (d := 1) (by decide) ?_ ?_ 32 0 _ (by omega) eR14 _ _ _ ⟨hS, hV, lv_sub hl [0, 1] rfl⟩
          · intro i12 s13 H locs ls hii12 hP ihi12
            obtain ⟨hS, hV, hl⟩ := hP
            refine lv_iload_n hx hb d_M_verified_108 rfl (lv_at hl 0 rfl) ?_
            refine lv_bipush (v := nI 32) hx hb d_M_verified_109 (by decide +kernel) ?_
            refine lv_icmp_ge (tgt := 150) hx hb d_M_verified_111 (by decide) (fun q => absurd q (nI_ge (by omega) (by omega))) (fun _ => ?_)
            refine lv_aload_n hx hb d_M_verified_114 rfl (lv_at hl 1 rfl) ?_
            refine sx_get EE (hS.1.ob hE hM.1) rfl i_M 38 (by decide) rfl fl_M_113 rfl d_M_verified_115 ?_
            refine lv_iload_n hx hb d_M_verified_118 rfl (lv_at hl 0 rfl) ?_
            refine lv_aload_n hx hb d_M_verified_119 rfl (lv_at hl 1 rfl) ?_
            refine sx_get EE (hS.1.ob hE hM.1) rfl i_M 1 (by decide) rfl fl_M_8 rfl d_M_verified_120 ?_
            refine lv_bipush (v := nI 32) hx hb d_M_verified_123 (by decide +kernel) ?_
            refine lv_iload_n hx hb d_M_verified_125 rfl (lv_at hl 0 rfl) ?_
            refine lv_iadd hx hb d_M_verified_126 ?_
            refine sx_ti (y := nI (32 + i12)) (nI_add _ _) ?_
            refine vx_bald hx hb hG hS hV (mo_1 hM) (by omega) (by decide) d_M_verified_127 ?_
            refine vx_bast hx hb hG hS hV (mo_38 hM) (mow_38 hW) (by omega) (by decide) d_M_verified_128 (fun H locs X15 eX15 hS hV => ?_)
            refine lv_aload_n hx hb d_M_verified_129 rfl (lv_at hl 1 rfl) ?_
            refine sx_get EE (hS.1.ob hE hM.1) rfl i_M 38 (by decide) rfl fl_M_113 rfl d_M_verified_130 ?_
            refine lv_bipush (v := nI 32) hx hb d_M_verified_133 (by decide +kernel) ?_
            refine lv_iload_n hx hb d_M_verified_135 rfl (lv_at hl 0 rfl) ?_
            refine lv_iadd hx hb d_M_verified_136 ?_
            refine sx_ti (y := nI (32 + i12)) (nI_add _ _) ?_
            refine lv_aload_n hx hb d_M_verified_137 rfl (lv_at hl 1 rfl) ?_
            refine sx_get EE (hS.1.ob hE hM.1) rfl i_M 1 (by decide) rfl fl_M_8 rfl d_M_verified_138 ?_
            refine lv_iload_n hx hb d_M_verified_141 rfl (lv_at hl 0 rfl) ?_
            refine vx_bald hx hb hG hS hV (mo_1 hM) (by omega) (by decide) d_M_verified_142 ?_
            refine vx_bast hx hb hG hS hV (mo_38 hM) (mow_38 hW) (by omega) (by decide) d_M_verified_143 (fun H locs X16 eX16 hS hV => ?_)
            refine lv_iinc (v := nI (i12 + 1)) (lv' := [(1, .int (nI (i12 + 1))), (0, .ref o)]) hx hb d_M_verified_144 hl (k := 0) rfl (sx_inc _ _) (by decide) rfl (fun ls hl => ?_)
            refine lv_goto (tgt := 108) hx hb d_M_verified_147 (by decide) ?_
            exact ihi12 X16 _ _ _ (by subst eX15 eX16; exact rfl) ⟨hS, hV, lv_sub hl [0, 1] rfl⟩
          · intro H locs ls hP
            obtain ⟨hS, hV, hl⟩ := hP
            refine lv_iload_n hx hb d_M_verified_108 rfl (lv_at hl 0 rfl) ?_
            refine lv_bipush (v := nI 32) hx hb d_M_verified_109 (by decide +kernel) ?_
            refine lv_icmp_ge (tgt := 150) hx hb d_M_verified_111 (by decide) (fun _ => ?_) (fun q => absurd (nI_le (by omega) (by omega)) q)
            refine lv_aload_n hx hb d_M_verified_150 rfl (lv_at hl 1 rfl) ?_
            refine lv_bipush (v := nI 64) hx hb d_M_verified_151 (by decide +kernel) ?_
            refine vx_gv (sx_runV (As := [.int (nI (64))]) (rest := []) EE (hS.1.ob hE hM.1) rfl rfl (v_M_hashMessage (X := R14) (hM.kept hS.1 hE) hE hW (by omega) hm hnm hV) w_M_343 rfl ⟨rfl, rfl⟩ ⟨Nat.le_of_ble_eq_true rfl, Nat.le_of_ble_eq_true rfl⟩ ⟨Nat.zero_le _, Nat.zero_le _⟩ hl.1 rfl (Nat.le_of_ble_eq_true rfl) d_M_verified_153) hS (fun H locs X17 eX17 hS hV => ?_)
            refine lv_aload_n hx hb d_M_verified_156 rfl (lv_at hl 1 rfl) ?_
            refine lv_aload_n hx hb d_M_verified_157 rfl (lv_at hl 1 rfl) ?_
            refine sx_get EE (hS.1.ob hE hM.1) rfl i_M 33 (by decide) rfl fl_M_97 rfl d_M_verified_158 ?_
            refine vx_gv (sx_runV (As := [.ref (r 33)]) (rest := []) EE (hS.1.ob hE hM.1) rfl rfl (v_M_hashNumber (X := X17) (hM.kept hS.1 hE) hE hW (hS.a (mo_33 hM)) (mow_33 hW) hV) w_M_346 rfl ⟨rfl, rfl⟩ ⟨Nat.le_of_ble_eq_true rfl, Nat.le_of_ble_eq_true rfl⟩ ⟨Nat.zero_le _, Nat.zero_le _⟩ hl.1 rfl (Nat.le_of_ble_eq_true rfl) d_M_verified_161) hS (fun H locs X18 eX18 hS hV => ?_)
            refine lv_aload_n hx hb d_M_verified_164 rfl (lv_at hl 1 rfl) ?_
            refine sx_get EE (hS.1.ob hE hM.1) rfl i_M 26 (by decide) rfl fl_M_76 rfl d_M_verified_165 ?_
            refine lv_iconst (v := nI 0) hx hb d_M_verified_168 (by decide +kernel) ?_
            refine vx_gv (sx_runS (As := [.ref (r 26), .int (nI (0))]) (rest := []) EE (v_M_set (X := X18) (hS.a (mo_26 hM)) (mow_26 hW) hV) w_M_177 rfl ⟨rfl, rfl⟩ ⟨Nat.le_of_ble_eq_true rfl, Nat.le_of_ble_eq_true rfl⟩ ⟨Nat.zero_le _, Nat.zero_le _⟩ hl.1 rfl (Nat.le_of_ble_eq_true rfl) d_M_verified_169) hS (fun H locs X19 eX19 hS hV => ?_)
            refine lv_aload_n hx hb d_M_verified_172 rfl (lv_at hl 1 rfl) ?_
            refine sx_get EE (hS.1.ob hE hM.1) rfl i_M 20 (by decide) rfl fl_M_58 rfl d_M_verified_173 ?_
            refine lv_aload_n hx hb d_M_verified_176 rfl (lv_at hl 1 rfl) ?_
            refine sx_get EE (hS.1.ob hE hM.1) rfl i_M 26 (by decide) rfl fl_M_76 rfl d_M_verified_177 ?_
            refine lv_aload_n hx hb d_M_verified_180 rfl (lv_at hl 1 rfl) ?_
            refine sx_get EE (hS.1.ob hE hM.1) rfl i_M 20 (by decide) rfl fl_M_58 rfl d_M_verified_181 ?_
            refine lv_aload_n hx hb d_M_verified_184 rfl (lv_at hl 1 rfl) ?_
            refine sx_get EE (hS.1.ob hE hM.1) rfl i_M 10 (by decide) rfl fl_M_27 rfl d_M_verified_185 ?_
            refine vx_gv (sx_runS (As := [.ref (r 20), .ref (r 26), .ref (r 20), .ref (r 10)]) (rest := []) EE (v_M_minus (X := X19) (hS.a (mo_20 hM)) (mow_20 hW) (hS.a (mo_26 hM)) (hS.a (mo_20 hM)) (hS.a (mo_10 hM)) hV) w_M_192 rfl ⟨rfl, rfl⟩ ⟨Nat.le_of_ble_eq_true rfl, Nat.le_of_ble_eq_true rfl⟩ ⟨Nat.zero_le _, Nat.zero_le _⟩ hl.1 rfl (Nat.le_of_ble_eq_true rfl) d_M_verified_188) hS (fun H locs X20 eX20 hS hV => ?_)
            refine lv_aload_n hx hb d_M_verified_191 rfl (lv_at hl 1 rfl) ?_
            refine lv_aload_n hx hb d_M_verified_192 rfl (lv_at hl 1 rfl) ?_
            refine sx_get EE (hS.1.ob hE hM.1) rfl i_M 33 (by decide) rfl fl_M_97 rfl d_M_verified_193 ?_
            refine vx_gv (sx_runV (As := [.ref (r 33)]) (rest := []) EE (hS.1.ob hE hM.1) rfl rfl (v_M_multiply (X := X20) (hM.kept hS.1 hE) hE hW (hS.a (mo_33 hM)) hV) w_M_287 rfl ⟨rfl, rfl⟩ ⟨Nat.le_of_ble_eq_true rfl, Nat.le_of_ble_eq_true rfl⟩ ⟨Nat.zero_le _, Nat.zero_le _⟩ hl.1 rfl (Nat.le_of_ble_eq_true rfl) d_M_verified_196) hS (fun H locs X21 eX21 hS hV => ?_)
            refine lv_aload_n hx hb d_M_verified_199 rfl (lv_at hl 1 rfl) ?_
            refine sx_get EE (hS.1.ob hE hM.1) rfl i_M 22 (by decide) rfl fl_M_64 rfl d_M_verified_200 ?_
            refine lv_aload_n hx hb d_M_verified_203 rfl (lv_at hl 1 rfl) ?_
            refine sx_get EE (hS.1.ob hE hM.1) rfl i_M 18 (by decide) rfl fl_M_52 rfl d_M_verified_204 ?_
            refine vx_gv (sx_runS (As := [.ref (r 22), .ref (r 18)]) (rest := []) EE (v_M_copy (X := X21) (hS.a (mo_22 hM)) (mow_22 hW) (hS.a (mo_18 hM)) hV) w_M_207 rfl ⟨rfl, rfl⟩ ⟨Nat.le_of_ble_eq_true rfl, Nat.le_of_ble_eq_true rfl⟩ ⟨Nat.zero_le _, Nat.zero_le _⟩ hl.1 rfl (Nat.le_of_ble_eq_true rfl) d_M_verified_207) hS (fun H locs X22 eX22 hS hV => ?_)
            refine lv_aload_n hx hb d_M_verified_210 rfl (lv_at hl 1 rfl) ?_
            refine sx_get EE (hS.1.ob hE hM.1) rfl i_M 23 (by decide) rfl fl_M_67 rfl d_M_verified_211 ?_
            refine lv_aload_n hx hb d_M_verified_214 rfl (lv_at hl 1 rfl) ?_
            refine sx_get EE (hS.1.ob hE hM.1) rfl i_M 19 (by decide) rfl fl_M_55 rfl d_M_verified_215 ?_
            refine vx_gv (sx_runS (As := [.ref (r 23), .ref (r 19)]) (rest := []) EE (v_M_copy (X := X22) (hS.a (mo_23 hM)) (mow_23 hW) (hS.a (mo_19 hM)) hV) w_M_207 rfl ⟨rfl, rfl⟩ ⟨Nat.le_of_ble_eq_true rfl, Nat.le_of_ble_eq_true rfl⟩ ⟨Nat.zero_le _, Nat.zero_le _⟩ hl.1 rfl (Nat.le_of_ble_eq_true rfl) d_M_verified_218) hS (fun H locs X23 eX23 hS hV => ?_)
            refine lv_aload_n hx hb d_M_verified_221 rfl (lv_at hl 1 rfl) ?_
            refine lv_aload_n hx hb d_M_verified_222 rfl (lv_at hl 1 rfl) ?_
            refine sx_get EE (hS.1.ob hE hM.1) rfl i_M 31 (by decide) rfl fl_M_91 rfl d_M_verified_223 ?_
            refine vx_gv (sx_runV (As := [.ref (r 31)]) (rest := []) EE (hS.1.ob hE hM.1) rfl rfl (v_M_fromBase (X := X23) (hM.kept hS.1 hE) hE hW (hS.a (mo_31 hM)) hV) w_M_302 rfl ⟨rfl, rfl⟩ ⟨Nat.le_of_ble_eq_true rfl, Nat.le_of_ble_eq_true rfl⟩ ⟨Nat.zero_le _, Nat.zero_le _⟩ hl.1 rfl (Nat.le_of_ble_eq_true rfl) d_M_verified_226) hS (fun H locs X24 eX24 hS hV => ?_)
            refine lv_aload_n hx hb d_M_verified_229 rfl (lv_at hl 1 rfl) ?_
            refine lv_aload_n hx hb d_M_verified_230 rfl (lv_at hl 1 rfl) ?_
            refine sx_get EE (hS.1.ob hE hM.1) rfl i_M 18 (by decide) rfl fl_M_52 rfl d_M_verified_231 ?_
            refine lv_aload_n hx hb d_M_verified_234 rfl (lv_at hl 1 rfl) ?_
            refine sx_get EE (hS.1.ob hE hM.1) rfl i_M 19 (by decide) rfl fl_M_55 rfl d_M_verified_235 ?_
            refine lv_aload_n hx hb d_M_verified_238 rfl (lv_at hl 1 rfl) ?_
            refine sx_get EE (hS.1.ob hE hM.1) rfl i_M 22 (by decide) rfl fl_M_64 rfl d_M_verified_239 ?_
            refine lv_aload_n hx hb d_M_verified_242 rfl (lv_at hl 1 rfl) ?_
            refine sx_get EE (hS.1.ob hE hM.1) rfl i_M 23 (by decide) rfl fl_M_67 rfl d_M_verified_243 ?_
            refine vx_gv (sx_runV (As := [.ref (r 18), .ref (r 19), .ref (r 22), .ref (r 23)]) (rest := []) EE (hS.1.ob hE hM.1) rfl rfl (v_M_add (X := X24) (hM.kept hS.1 hE) hE hW (hS.a (mo_18 hM)) (mow_18 hW) (hS.a (mo_19 hM)) (mow_19 hW) (hS.a (mo_22 hM)) (hS.a (mo_23 hM)) hV) w_M_284 rfl ⟨rfl, rfl⟩ ⟨Nat.le_of_ble_eq_true rfl, Nat.le_of_ble_eq_true rfl⟩ ⟨Nat.zero_le _, Nat.zero_le _⟩ hl.1 rfl (Nat.le_of_ble_eq_true rfl) d_M_verified_246) hS (fun H locs X25 eX25 hS hV => ?_)
            refine lv_aload_n hx hb d_M_verified_249 rfl (lv_at hl 1 rfl) ?_
            refine lv_aload_n hx hb d_M_verified_250 rfl (lv_at hl 1 rfl) ?_
            refine sx_get EE (hS.1.ob hE hM.1) rfl i_M 37 (by decide) rfl fl_M_109 rfl d_M_verified_251 ?_
            refine lv_aload_n hx hb d_M_verified_254 rfl (lv_at hl 1 rfl) ?_
            refine sx_get EE (hS.1.ob hE hM.1) rfl i_M 18 (by decide) rfl fl_M_52 rfl d_M_verified_255 ?_
            refine lv_aload_n hx hb d_M_verified_258 rfl (lv_at hl 1 rfl) ?_
            refine sx_get EE (hS.1.ob hE hM.1) rfl i_M 19 (by decide) rfl fl_M_55 rfl d_M_verified_259 ?_
            refine vx_gv (sx_runV (As := [.ref (r 37), .ref (r 18), .ref (r 19)]) (rest := []) EE (hS.1.ob hE hM.1) rfl rfl (v_M_encode (X := X25) (hM.kept hS.1 hE) hE hW (hS.a (mo_37 hM)) (mow_37 hW) (hS.a (mo_18 hM)) (hS.a (mo_19 hM)) hV) w_M_305 rfl ⟨rfl, rfl⟩ ⟨Nat.le_of_ble_eq_true rfl, Nat.le_of_ble_eq_true rfl⟩ ⟨Nat.zero_le _, Nat.zero_le _⟩ hl.1 rfl (Nat.le_of_ble_eq_true rfl) d_M_verified_262) hS (fun H locs X26 eX26 hS hV => ?_)
            refine lv_iconst (v := nI 0) hx hb d_M_verified_265 (by decide +kernel) ?_
            refine lv_istore_n (lv' := [(1, .int (nI (0))), (0, .ref o)]) hx hb d_M_verified_266 rfl hl (by decide) rfl (fun ls hl => ?_)
            obtain ⟨R29, eR29⟩ : ∃ t : ((vM × Int32) ⊕ Unit), lpE 1 (LL_M_verified_267 X26 r) 32 0 () = t := ⟨_, rfl⟩
            refine lpE_go (σ := Unit) (P := fun i27 s28 H locs ls => sx_S g E E H0 H locs ∧ mm g H = X26 ∧ lv_has ls 2 [(1, .int (nI (i27))), (0, .ref o)]) (Wd := fun H locs ls => W p l e rm_M_verified s m args below meth c H locs 0 0 Q (F0 m 267 ls [])) (N := 32) (d := 1) (by decide) ?_ ?_ 32 0 _ (by omega) eR29 _ _ _ ⟨hS, hV, lv_sub hl [0, 1] rfl⟩
            · intro i27 s28 H locs ls hii27 hP ihi27 hxR29
              obtain ⟨hS, hV, hl⟩ := hP
              refine lv_iload_n hx hb d_M_verified_267 rfl (lv_at hl 0 rfl) ?_
              refine lv_bipush (v := nI 32) hx hb d_M_verified_268 (by decide +kernel) ?_
              refine lv_icmp_ge (tgt := 299) hx hb d_M_verified_270 (by decide) (fun q => absurd q (nI_ge (by omega) (by omega))) (fun _ => ?_)
              refine lv_aload_n hx hb d_M_verified_273 rfl (lv_at hl 1 rfl) ?_
              refine sx_get EE (hS.1.ob hE hM.1) rfl i_M 37 (by decide) rfl fl_M_109 rfl d_M_verified_274 ?_
              refine lv_iload_n hx hb d_M_verified_277 rfl (lv_at hl 0 rfl) ?_
              refine vx_bald hx hb hG hS hV (mo_37 hM) (by omega) (by decide) d_M_verified_278 ?_
              refine lv_aload_n hx hb d_M_verified_279 rfl (lv_at hl 1 rfl) ?_
              refine sx_get EE (hS.1.ob hE hM.1) rfl i_M 1 (by decide) rfl fl_M_8 rfl d_M_verified_280 ?_
              refine lv_bipush (v := nI 32) hx hb d_M_verified_283 (by decide +kernel) ?_
              refine lv_iload_n hx hb d_M_verified_285 rfl (lv_at hl 0 rfl) ?_
              refine lv_iadd hx hb d_M_verified_286 ?_
              refine sx_ti (y := nI (32 + i27)) (nI_add _ _) ?_
              refine vx_bald hx hb hG hS hV (mo_1 hM) (by omega) (by decide) d_M_verified_287 ?_
              refine lv_icmp_eq (tgt := 293) hx hb d_M_verified_288 (by decide) (fun q288_29 => ?_) (fun q288_29 => ?_)
              · skip
                refine lv_iinc (v := nI (i27 + 1)) (lv' := [(1, .int (nI (i27 + 1))), (0, .ref o)]) hx hb d_M_verified_293 hl (k := 0) rfl (sx_inc _ _) (by decide) rfl (fun ls hl => ?_)
                refine lv_goto (tgt := 267) hx hb d_M_verified_296 (by decide) ?_
                exact ihi27 () _ _ _ (vx_p q288_29 rfl) ⟨hS, hV, lv_sub hl [0, 1] rfl⟩
              · skip
                refine lv_iconst (v := nI 3) hx hb d_M_verified_291 (by decide +kernel) ?_
                have hrR29 := hxR29 ((X26, (nI 3))) (vx_n q288_29 rfl)
                have hp : LF_M_verified X r nm = (X26, (nI 3)) := (by subst eR3 eR8 eX10 eR14 eX17 eX18 eX19 eX20 eX21 eX22 eX23 eX24 eX25 eX26 eR29; exact (vx_p q66_4 (vx_p q101_10 (vx_l hrR29 rfl))))
                exact hret _ _ _ _ _ _ (congrArg Prod.fst hp :) (congrArg Prod.snd hp :) hS hV d_M_verified_292
            · intro s31 H locs ls erR29 hP
              obtain ⟨hS, hV, hl⟩ := hP
              refine lv_iload_n hx hb d_M_verified_267 rfl (lv_at hl 0 rfl) ?_
              refine lv_bipush (v := nI 32) hx hb d_M_verified_268 (by decide +kernel) ?_
              refine lv_icmp_ge (tgt := 299) hx hb d_M_verified_270 (by decide) (fun _ => ?_) (fun q => absurd (nI_le (by omega) (by omega)) q)
              refine lv_iconst (v := nI 0) hx hb d_M_verified_299 (by decide +kernel) ?_
              have hp : LF_M_verified X r nm = (X26, (nI 0)) := (by subst eR3 eR8 eX10 eR14 eX17 eX18 eX19 eX20 eX21 eX22 eX23 eX24 eX25 eX26 eR29; exact (vx_p q66_4 (vx_p q101_10 (vx_r erR29 rfl))))
              exact hret _ _ _ _ _ _ (congrArg Prod.fst hp :) (congrArg Prod.snd hp :) hS hV d_M_verified_300
        · skip
          have q101_10 := vx_bf (vx_b0 q101_10)
          refine lv_iconst (v := nI 2) hx hb d_M_verified_104 (by decide +kernel) ?_
          have hp : LF_M_verified X r nm = (X10, (nI 2)) := (by subst eR3 eR8 eX10; exact (vx_p q66_4 (vx_n q101_10 rfl)))
          exact hret _ _ _ _ _ _ (congrArg Prod.fst hp :) (congrArg Prod.snd hp :) hS hV d_M_verified_105
    · skip
      have q66_4 := vx_bf (vx_b0 q66_4)
      refine lv_iconst (v := nI 1) hx hb d_M_verified_69 (by decide +kernel) ?_
      have hp : LF_M_verified X r nm = (R3, (nI 1)) := (by subst eR3; exact (vx_n q66_4 rfl))
      exact hret _ _ _ _ _ _ (congrArg Prod.fst hp :) (congrArg Prod.snd hp :) hS hV d_M_verified_70
