abbrev rm_Pt_setAffine : Room := { frames := 2, cells := 0, slots := 0, locals := 121 }
set_option maxHeartbeats 4000000 in
set_option maxRecDepth 100000 in
theorem c_Pt_setAffine {l : Launch} {D : va_G} {g : ClassId → FieldType → Prop} {E : Nat → Prop} {H0 : Heap} {o : Nat} {r : Nat → Nat} {a0 : Nat} {a1 : Nat} (hM : o4_ D g H0 4 o r) (hE : ¬ E o) (hW : ∀ k, k < 4 → E (r k)) (f0 : sx_A g .long H0 a0 10) (f1 : sx_A g .long H0 a1 10) : Met l y_Pt_setAffine (.code y_Pt_setAffine b_Pt_setAffine 3 none :: G_) rm_Pt_setAffine (sx_Pc [.ref o, .ref a0, .ref a1] H0 D g) (sx_Qv g E H0) 0 0 E := by
  refine sx_mv (own := R_Pt) (by decide) rfl rfl rfl (Nat.le_of_ble_eq_true rfl) ?_
  intro p e s m args below meth c Q ls EE hl hret
  obtain ⟨hx, hb, hml, hown, hts, hG, hK⟩ := id EE
  have hS : sx_S g E E H0 H0 [] := sx_S.rf
  have hl : lv_has ls 3 [(0, .ref o), (1, .ref a0), (2, .ref a1)] := hl
  refine lv_aload_n hx hb d_Pt_setAffine_0 rfl (lv_at hl 0 rfl) ?_
  refine sx_get EE (hS.1.ob hE hM.1) rfl i_Pt 0 (by decide) rfl fl_Pt_9 rfl d_Pt_setAffine_1 ?_
  refine lv_aload_n hx hb d_Pt_setAffine_4 rfl (lv_at hl 1 rfl) ?_
  refine sx_gv (sx_runS (As := [.ref (r 0), .ref a0]) (rest := []) EE (c_F_copy (hS.a (hM.2 0 (by decide)).1) (hW 0 (by decide)) (hS.a f0)) w_Pt_28 rfl ⟨rfl, rfl⟩ ⟨Nat.le_of_ble_eq_true rfl, Nat.le_of_ble_eq_true rfl⟩ ⟨Nat.zero_le _, Nat.zero_le _⟩ hl.1 rfl (Nat.le_of_ble_eq_true rfl) d_Pt_setAffine_5) hS (fun H locs hS => ?_)
  refine lv_aload_n hx hb d_Pt_setAffine_8 rfl (lv_at hl 0 rfl) ?_
  refine sx_get EE (hS.1.ob hE hM.1) rfl i_Pt 1 (by decide) rfl fl_Pt_15 rfl d_Pt_setAffine_9 ?_
  refine lv_aload_n hx hb d_Pt_setAffine_12 rfl (lv_at hl 2 rfl) ?_
  refine sx_gv (sx_runS (As := [.ref (r 1), .ref a1]) (rest := []) EE (c_F_copy (hS.a (hM.2 1 (by decide)).1) (hW 1 (by decide)) (hS.a f1)) w_Pt_28 rfl ⟨rfl, rfl⟩ ⟨Nat.le_of_ble_eq_true rfl, Nat.le_of_ble_eq_true rfl⟩ ⟨Nat.zero_le _, Nat.zero_le _⟩ hl.1 rfl (Nat.le_of_ble_eq_true rfl) d_Pt_setAffine_13) hS (fun H locs hS => ?_)
  refine lv_aload_n hx hb d_Pt_setAffine_16 rfl (lv_at hl 0 rfl) ?_
  refine sx_get EE (hS.1.ob hE hM.1) rfl i_Pt 2 (by decide) rfl fl_Pt_18 rfl d_Pt_setAffine_17 ?_
  refine lv_lconst (v := 1) hx hb d_Pt_setAffine_20 (by decide +kernel) ?_
  refine sx_gv (sx_runS (As := [.ref (r 2), .long 1]) (rest := []) EE (c_F_set (hS.a (hM.2 2 (by decide)).1) (hS.1.2.2.2 _ _ (hM.2 2 (by decide)).2) (hW 2 (by decide))) w_Pt_24 rfl ⟨rfl, rfl⟩ ⟨Nat.le_of_ble_eq_true rfl, Nat.le_of_ble_eq_true rfl⟩ ⟨Nat.zero_le _, Nat.zero_le _⟩ hl.1 rfl (Nat.le_of_ble_eq_true rfl) d_Pt_setAffine_21) hS (fun H locs hS => ?_)
  refine lv_aload_n hx hb d_Pt_setAffine_24 rfl (lv_at hl 0 rfl) ?_
  refine sx_get EE (hS.1.ob hE hM.1) rfl i_Pt 3 (by decide) rfl fl_Pt_21 rfl d_Pt_setAffine_25 ?_
  refine lv_aload_n hx hb d_Pt_setAffine_28 rfl (lv_at hl 1 rfl) ?_
  refine lv_aload_n hx hb d_Pt_setAffine_29 rfl (lv_at hl 2 rfl) ?_
  refine sx_gv (sx_runS (As := [.ref (r 3), .ref a0, .ref a1]) (rest := []) EE (c_F_times (hS.a (hM.2 3 (by decide)).1) (hW 3 (by decide)) (hS.a f0) (hS.a f1)) w_Pt_32 rfl ⟨rfl, rfl⟩ ⟨Nat.le_of_ble_eq_true rfl, Nat.le_of_ble_eq_true rfl⟩ ⟨Nat.zero_le _, Nat.zero_le _⟩ hl.1 rfl (Nat.le_of_ble_eq_true rfl) d_Pt_setAffine_30) hS (fun H locs hS => ?_)
  exact hret _ _ _ _ hS d_Pt_setAffine_33
abbrev rm_Ad_set : Room := { frames := 2, cells := 0, slots := 0, locals := 99 }
set_option maxHeartbeats 4000000 in
set_option maxRecDepth 100000 in
theorem c_Ad_set {l : Launch} {D : va_G} {g : ClassId → FieldType → Prop} {E : Nat → Prop} {H0 : Heap} {o : Nat} {r : Nat → Nat} {a0 : Nat} {r0 : Nat → Nat} {ts : Nat → Nat} (hM : o4_ D g H0 5 o r) (hE : ¬ E o) (hW : ∀ k, k < 4 → E (r k)) (h0 : o4_ D g H0 4 a0 r0) (n0 : ¬ E a0) (hz : st_H D g E H0 ts) : Met l y_Ad_set (.code y_Ad_set b_Ad_set 2 none :: G_) rm_Ad_set (sx_Pc [.ref o, .ref a0] H0 D g) (sx_Qv g E H0) 0 0 E := by
  refine sx_mv (own := R_Ad) (by decide) rfl rfl rfl (Nat.le_of_ble_eq_true rfl) ?_
  intro p e s m args below meth c Q ls EE hl hret
  obtain ⟨hx, hb, hml, hown, hts, hG, hK⟩ := id EE
  have hS : sx_S g E E H0 H0 [] := sx_S.rf
  have hl : lv_has ls 2 [(0, .ref o), (1, .ref a0)] := hl
  refine lv_aload_n hx hb d_Ad_set_0 rfl (lv_at hl 0 rfl) ?_
  refine sx_get EE (hS.1.ob hE hM.1) rfl i_Ad 0 (by decide) rfl fl_Ad_9 rfl d_Ad_set_1 ?_
  refine lv_aload_n hx hb d_Ad_set_4 rfl (lv_at hl 1 rfl) ?_
  refine sx_getN EE (hS.1.ob n0 h0.1) rfl i_Pt 1 (by decide) rfl fn_Ad_24 rfl d_Ad_set_5 ?_
  refine lv_aload_n hx hb d_Ad_set_8 rfl (lv_at hl 1 rfl) ?_
  refine sx_getN EE (hS.1.ob n0 h0.1) rfl i_Pt 0 (by decide) rfl fn_Ad_29 rfl d_Ad_set_9 ?_
  refine sx_gv (sx_runS (As := [.ref (r 0), .ref (r0 1), .ref (r0 0)]) (rest := []) EE (c_F_subtract (hS.a (hM.2 0 (by decide)).1) (hW 0 (by decide)) (hS.a (h0.2 1 (by decide)).1) (hS.a (h0.2 0 (by decide)).1)) w_Ad_32 rfl ⟨rfl, rfl⟩ ⟨Nat.le_of_ble_eq_true rfl, Nat.le_of_ble_eq_true rfl⟩ ⟨Nat.zero_le _, Nat.zero_le _⟩ hl.1 rfl (Nat.le_of_ble_eq_true rfl) d_Ad_set_12) hS (fun H locs hS => ?_)
  refine lv_aload_n hx hb d_Ad_set_15 rfl (lv_at hl 0 rfl) ?_
  refine sx_get EE (hS.1.ob hE hM.1) rfl i_Ad 1 (by decide) rfl fl_Ad_15 rfl d_Ad_set_16 ?_
  refine lv_aload_n hx hb d_Ad_set_19 rfl (lv_at hl 1 rfl) ?_
  refine sx_getN EE (hS.1.ob n0 h0.1) rfl i_Pt 1 (by decide) rfl fn_Ad_24 rfl d_Ad_set_20 ?_
  refine lv_aload_n hx hb d_Ad_set_23 rfl (lv_at hl 1 rfl) ?_
  refine sx_getN EE (hS.1.ob n0 h0.1) rfl i_Pt 0 (by decide) rfl fn_Ad_29 rfl d_Ad_set_24 ?_
  refine sx_gv (sx_runS (As := [.ref (r 1), .ref (r0 1), .ref (r0 0)]) (rest := []) EE (c_F_add (hS.a (hM.2 1 (by decide)).1) (hW 1 (by decide)) (hS.a (h0.2 1 (by decide)).1) (hS.a (h0.2 0 (by decide)).1)) w_Ad_36 rfl ⟨rfl, rfl⟩ ⟨Nat.le_of_ble_eq_true rfl, Nat.le_of_ble_eq_true rfl⟩ ⟨Nat.zero_le _, Nat.zero_le _⟩ hl.1 rfl (Nat.le_of_ble_eq_true rfl) d_Ad_set_27) hS (fun H locs hS => ?_)
  refine lv_aload_n hx hb d_Ad_set_30 rfl (lv_at hl 0 rfl) ?_
  refine sx_get EE (hS.1.ob hE hM.1) rfl i_Ad 2 (by decide) rfl fl_Ad_18 rfl d_Ad_set_31 ?_
  refine lv_aload_n hx hb d_Ad_set_34 rfl (lv_at hl 1 rfl) ?_
  refine sx_getN EE (hS.1.ob n0 h0.1) rfl i_Pt 2 (by decide) rfl fn_Ad_39 rfl d_Ad_set_35 ?_
  refine lv_aload_n hx hb d_Ad_set_38 rfl (lv_at hl 1 rfl) ?_
  refine sx_getN EE (hS.1.ob n0 h0.1) rfl i_Pt 2 (by decide) rfl fn_Ad_39 rfl d_Ad_set_39 ?_
  refine sx_gv (sx_runS (As := [.ref (r 2), .ref (r0 2), .ref (r0 2)]) (rest := []) EE (c_F_add (hS.a (hM.2 2 (by decide)).1) (hW 2 (by decide)) (hS.a (h0.2 2 (by decide)).1) (hS.a (h0.2 2 (by decide)).1)) w_Ad_36 rfl ⟨rfl, rfl⟩ ⟨Nat.le_of_ble_eq_true rfl, Nat.le_of_ble_eq_true rfl⟩ ⟨Nat.zero_le _, Nat.zero_le _⟩ hl.1 rfl (Nat.le_of_ble_eq_true rfl) d_Ad_set_42) hS (fun H locs hS => ?_)
  refine lv_aload_n hx hb d_Ad_set_45 rfl (lv_at hl 0 rfl) ?_
  refine sx_get EE (hS.1.ob hE hM.1) rfl i_Ad 3 (by decide) rfl fl_Ad_21 rfl d_Ad_set_46 ?_
  refine lv_aload_n hx hb d_Ad_set_49 rfl (lv_at hl 1 rfl) ?_
  refine sx_getN EE (hS.1.ob n0 h0.1) rfl i_Pt 3 (by decide) rfl fn_Ad_42 rfl d_Ad_set_50 ?_
  obtain ⟨cz, z1, z2, z3, z4, z5⟩ := (hz.kept hS.1).2.1
  refine sx_getsN EE hK.2.2.1 z1 z2 z3 fn_Ad_45 d_Ad_set_53 ?_
  refine sx_gv (sx_runS (As := [.ref (r 3), .ref (r0 3), .ref (ts 1)]) (rest := []) EE (c_F_times (hS.a (hM.2 3 (by decide)).1) (hW 3 (by decide)) (hS.a (h0.2 3 (by decide)).1) (hS.a hz.2.2.1)) w_Ad_50 rfl ⟨rfl, rfl⟩ ⟨Nat.le_of_ble_eq_true rfl, Nat.le_of_ble_eq_true rfl⟩ ⟨Nat.zero_le _, Nat.zero_le _⟩ hl.1 rfl (Nat.le_of_ble_eq_true rfl) d_Ad_set_56) hS (fun H locs hS => ?_)
  exact hret _ _ _ _ hS d_Ad_set_59
abbrev rm_Ed_join : Room := { frames := 2, cells := 0, slots := 0, locals := 99 }
set_option maxHeartbeats 4000000 in
set_option maxRecDepth 100000 in
theorem c_Ed_join {l : Launch} {D : va_G} {g : ClassId → FieldType → Prop} {E : Nat → Prop} {H0 : Heap} {o : Nat} {r : Nat → Nat} {a0 : Nat} {r0 : Nat → Nat} (hM : ed_ D g H0 o r) (hE : ¬ E o) (hW : ∀ k, 7 ≤ k → k < 15 → E (r k)) (h0 : o4_ D g H0 4 a0 r0) (n0 : ¬ E a0) (w0 : ∀ k, k < 4 → E (r0 k)) : Met l y_Ed_join (.code y_Ed_join b_Ed_join 2 none :: G_) rm_Ed_join (sx_Pc [.ref o, .ref a0] H0 D g) (sx_Qv g E H0) 0 0 E := by
  refine sx_mv (own := R_Ed) (by decide) rfl rfl rfl (Nat.le_of_ble_eq_true rfl) ?_
  intro p e s m args below meth c Q ls EE hl hret
  obtain ⟨hx, hb, hml, hown, hts, hG, hK⟩ := id EE
  have hS : sx_S g E E H0 H0 [] := sx_S.rf
  have hl : lv_has ls 2 [(0, .ref o), (1, .ref a0)] := hl
  refine lv_aload_n hx hb d_Ed_join_0 rfl (lv_at hl 1 rfl) ?_
  refine sx_getN EE (hS.1.ob n0 h0.1) rfl i_Pt 0 (by decide) rfl fn_Ed_94 rfl d_Ed_join_1 ?_
  refine lv_aload_n hx hb d_Ed_join_4 rfl (lv_at hl 0 rfl) ?_
  refine sx_get EE (hS.1.ob hE hM.1) rfl i_Ed 11 (by decide) rfl fl_Ed_52 rfl d_Ed_join_5 ?_
  refine lv_aload_n hx hb d_Ed_join_8 rfl (lv_at hl 0 rfl) ?_
  refine sx_get EE (hS.1.ob hE hM.1) rfl i_Ed 12 (by decide) rfl fl_Ed_55 rfl d_Ed_join_9 ?_
  refine sx_gv (sx_runS (As := [.ref (r0 0), .ref (r 11), .ref (r 12)]) (rest := []) EE (c_F_times (hS.a (h0.2 0 (by decide)).1) (w0 0 (by decide)) (hS.a (hM.2 11 (by decide) (by decide))) (hS.a (hM.2 12 (by decide) (by decide)))) w_Ed_104 rfl ⟨rfl, rfl⟩ ⟨Nat.le_of_ble_eq_true rfl, Nat.le_of_ble_eq_true rfl⟩ ⟨Nat.zero_le _, Nat.zero_le _⟩ hl.1 rfl (Nat.le_of_ble_eq_true rfl) d_Ed_join_12) hS (fun H locs hS => ?_)
  refine lv_aload_n hx hb d_Ed_join_15 rfl (lv_at hl 1 rfl) ?_
  refine sx_getN EE (hS.1.ob n0 h0.1) rfl i_Pt 1 (by decide) rfl fn_Ed_91 rfl d_Ed_join_16 ?_
  refine lv_aload_n hx hb d_Ed_join_19 rfl (lv_at hl 0 rfl) ?_
  refine sx_get EE (hS.1.ob hE hM.1) rfl i_Ed 13 (by decide) rfl fl_Ed_58 rfl d_Ed_join_20 ?_
  refine lv_aload_n hx hb d_Ed_join_23 rfl (lv_at hl 0 rfl) ?_
  refine sx_get EE (hS.1.ob hE hM.1) rfl i_Ed 14 (by decide) rfl fl_Ed_61 rfl d_Ed_join_24 ?_
  refine sx_gv (sx_runS (As := [.ref (r0 1), .ref (r 13), .ref (r 14)]) (rest := []) EE (c_F_times (hS.a (h0.2 1 (by decide)).1) (w0 1 (by decide)) (hS.a (hM.2 13 (by decide) (by decide))) (hS.a (hM.2 14 (by decide) (by decide)))) w_Ed_104 rfl ⟨rfl, rfl⟩ ⟨Nat.le_of_ble_eq_true rfl, Nat.le_of_ble_eq_true rfl⟩ ⟨Nat.zero_le _, Nat.zero_le _⟩ hl.1 rfl (Nat.le_of_ble_eq_true rfl) d_Ed_join_27) hS (fun H locs hS => ?_)
  refine lv_aload_n hx hb d_Ed_join_30 rfl (lv_at hl 1 rfl) ?_
  refine sx_getN EE (hS.1.ob n0 h0.1) rfl i_Pt 3 (by decide) rfl fn_Ed_112 rfl d_Ed_join_31 ?_
  refine lv_aload_n hx hb d_Ed_join_34 rfl (lv_at hl 0 rfl) ?_
  refine sx_get EE (hS.1.ob hE hM.1) rfl i_Ed 11 (by decide) rfl fl_Ed_52 rfl d_Ed_join_35 ?_
  refine lv_aload_n hx hb d_Ed_join_38 rfl (lv_at hl 0 rfl) ?_
  refine sx_get EE (hS.1.ob hE hM.1) rfl i_Ed 14 (by decide) rfl fl_Ed_61 rfl d_Ed_join_39 ?_
  refine sx_gv (sx_runS (As := [.ref (r0 3), .ref (r 11), .ref (r 14)]) (rest := []) EE (c_F_times (hS.a (h0.2 3 (by decide)).1) (w0 3 (by decide)) (hS.a (hM.2 11 (by decide) (by decide))) (hS.a (hM.2 14 (by decide) (by decide)))) w_Ed_104 rfl ⟨rfl, rfl⟩ ⟨Nat.le_of_ble_eq_true rfl, Nat.le_of_ble_eq_true rfl⟩ ⟨Nat.zero_le _, Nat.zero_le _⟩ hl.1 rfl (Nat.le_of_ble_eq_true rfl) d_Ed_join_42) hS (fun H locs hS => ?_)
  refine lv_aload_n hx hb d_Ed_join_45 rfl (lv_at hl 1 rfl) ?_
  refine sx_getN EE (hS.1.ob n0 h0.1) rfl i_Pt 2 (by decide) rfl fn_Ed_118 rfl d_Ed_join_46 ?_
  refine lv_aload_n hx hb d_Ed_join_49 rfl (lv_at hl 0 rfl) ?_
  refine sx_get EE (hS.1.ob hE hM.1) rfl i_Ed 12 (by decide) rfl fl_Ed_55 rfl d_Ed_join_50 ?_
  refine lv_aload_n hx hb d_Ed_join_53 rfl (lv_at hl 0 rfl) ?_
  refine sx_get EE (hS.1.ob hE hM.1) rfl i_Ed 13 (by decide) rfl fl_Ed_58 rfl d_Ed_join_54 ?_
  refine sx_gv (sx_runS (As := [.ref (r0 2), .ref (r 12), .ref (r 13)]) (rest := []) EE (c_F_times (hS.a (h0.2 2 (by decide)).1) (w0 2 (by decide)) (hS.a (hM.2 12 (by decide) (by decide))) (hS.a (hM.2 13 (by decide) (by decide)))) w_Ed_104 rfl ⟨rfl, rfl⟩ ⟨Nat.le_of_ble_eq_true rfl, Nat.le_of_ble_eq_true rfl⟩ ⟨Nat.zero_le _, Nat.zero_le _⟩ hl.1 rfl (Nat.le_of_ble_eq_true rfl) d_Ed_join_57) hS (fun H locs hS => ?_)
  exact hret _ _ _ _ hS d_Ed_join_60
abbrev rm_Ed_add : Room := { frames := 3, cells := 0, slots := 0, locals := 120 }
set_option maxHeartbeats 4000000 in
set_option maxRecDepth 100000 in
theorem c_Ed_add {l : Launch} {D : va_G} {g : ClassId → FieldType → Prop} {E : Nat → Prop} {H0 : Heap} {o : Nat} {r : Nat → Nat} {a0 : Nat} {r0 : Nat → Nat} {a1 : Nat} {r1 : Nat → Nat} (hM : ed_ D g H0 o r) (hE : ¬ E o) (hW : ∀ k, 7 ≤ k → k < 15 → E (r k)) (h0 : o4_ D g H0 4 a0 r0) (n0 : ¬ E a0) (w0 : ∀ k, k < 4 → E (r0 k)) (h1 : o4_ D g H0 5 a1 r1) (n1 : ¬ E a1) : Met l y_Ed_add (.code y_Ed_add b_Ed_add 3 none :: G_) rm_Ed_add (sx_Pc [.ref o, .ref a0, .ref a1] H0 D g) (sx_Qv g E H0) 0 0 E := by
  refine sx_mv (own := R_Ed) (by decide) rfl rfl rfl (Nat.le_of_ble_eq_true rfl) ?_
  intro p e s m args below meth c Q ls EE hl hret
  obtain ⟨hx, hb, hml, hown, hts, hG, hK⟩ := id EE
  have hS : sx_S g E E H0 H0 [] := sx_S.rf
  have hl : lv_has ls 3 [(0, .ref o), (1, .ref a0), (2, .ref a1)] := hl
  refine lv_aload_n hx hb d_Ed_add_0 rfl (lv_at hl 0 rfl) ?_
  refine sx_get EE (hS.1.ob hE hM.1) rfl i_Ed 7 (by decide) rfl fl_Ed_39 rfl d_Ed_add_1 ?_
  refine lv_aload_n hx hb d_Ed_add_4 rfl (lv_at hl 1 rfl) ?_
  refine sx_getN EE (hS.1.ob n0 h0.1) rfl i_Pt 1 (by decide) rfl fn_Ed_91 rfl d_Ed_add_5 ?_
  refine lv_aload_n hx hb d_Ed_add_8 rfl (lv_at hl 1 rfl) ?_
  refine sx_getN EE (hS.1.ob n0 h0.1) rfl i_Pt 0 (by decide) rfl fn_Ed_94 rfl d_Ed_add_9 ?_
  refine sx_gv (sx_runS (As := [.ref (r 7), .ref (r0 1), .ref (r0 0)]) (rest := []) EE (c_F_subtract (hS.a (hM.2 7 (by decide) (by decide))) (hW 7 (by decide) (by decide)) (hS.a (h0.2 1 (by decide)).1) (hS.a (h0.2 0 (by decide)).1)) w_Ed_97 rfl ⟨rfl, rfl⟩ ⟨Nat.le_of_ble_eq_true rfl, Nat.le_of_ble_eq_true rfl⟩ ⟨Nat.zero_le _, Nat.zero_le _⟩ hl.1 rfl (Nat.le_of_ble_eq_true rfl) d_Ed_add_12) hS (fun H locs hS => ?_)
  refine lv_aload_n hx hb d_Ed_add_15 rfl (lv_at hl 0 rfl) ?_
  refine sx_get EE (hS.1.ob hE hM.1) rfl i_Ed 7 (by decide) rfl fl_Ed_39 rfl d_Ed_add_16 ?_
  refine lv_aload_n hx hb d_Ed_add_19 rfl (lv_at hl 0 rfl) ?_
  refine sx_get EE (hS.1.ob hE hM.1) rfl i_Ed 7 (by decide) rfl fl_Ed_39 rfl d_Ed_add_20 ?_
  refine lv_aload_n hx hb d_Ed_add_23 rfl (lv_at hl 2 rfl) ?_
  refine sx_getN EE (hS.1.ob n1 h1.1) rfl i_Ad 0 (by decide) rfl fn_Ed_101 rfl d_Ed_add_24 ?_
  refine sx_gv (sx_runS (As := [.ref (r 7), .ref (r 7), .ref (r1 0)]) (rest := []) EE (c_F_times (hS.a (hM.2 7 (by decide) (by decide))) (hW 7 (by decide) (by decide)) (hS.a (hM.2 7 (by decide) (by decide))) (hS.a (h1.2 0 (by decide)).1)) w_Ed_104 rfl ⟨rfl, rfl⟩ ⟨Nat.le_of_ble_eq_true rfl, Nat.le_of_ble_eq_true rfl⟩ ⟨Nat.zero_le _, Nat.zero_le _⟩ hl.1 rfl (Nat.le_of_ble_eq_true rfl) d_Ed_add_27) hS (fun H locs hS => ?_)
  refine lv_aload_n hx hb d_Ed_add_30 rfl (lv_at hl 0 rfl) ?_
  refine sx_get EE (hS.1.ob hE hM.1) rfl i_Ed 8 (by decide) rfl fl_Ed_43 rfl d_Ed_add_31 ?_
  refine lv_aload_n hx hb d_Ed_add_34 rfl (lv_at hl 1 rfl) ?_
  refine sx_getN EE (hS.1.ob n0 h0.1) rfl i_Pt 1 (by decide) rfl fn_Ed_91 rfl d_Ed_add_35 ?_
  refine lv_aload_n hx hb d_Ed_add_38 rfl (lv_at hl 1 rfl) ?_
  refine sx_getN EE (hS.1.ob n0 h0.1) rfl i_Pt 0 (by decide) rfl fn_Ed_94 rfl d_Ed_add_39 ?_
  refine sx_gv (sx_runS (As := [.ref (r 8), .ref (r0 1), .ref (r0 0)]) (rest := []) EE (c_F_add (hS.a (hM.2 8 (by decide) (by decide))) (hW 8 (by decide) (by decide)) (hS.a (h0.2 1 (by decide)).1) (hS.a (h0.2 0 (by decide)).1)) w_Ed_107 rfl ⟨rfl, rfl⟩ ⟨Nat.le_of_ble_eq_true rfl, Nat.le_of_ble_eq_true rfl⟩ ⟨Nat.zero_le _, Nat.zero_le _⟩ hl.1 rfl (Nat.le_of_ble_eq_true rfl) d_Ed_add_42) hS (fun H locs hS => ?_)
  refine lv_aload_n hx hb d_Ed_add_45 rfl (lv_at hl 0 rfl) ?_
  refine sx_get EE (hS.1.ob hE hM.1) rfl i_Ed 8 (by decide) rfl fl_Ed_43 rfl d_Ed_add_46 ?_
  refine lv_aload_n hx hb d_Ed_add_49 rfl (lv_at hl 0 rfl) ?_
  refine sx_get EE (hS.1.ob hE hM.1) rfl i_Ed 8 (by decide) rfl fl_Ed_43 rfl d_Ed_add_50 ?_
  refine lv_aload_n hx hb d_Ed_add_53 rfl (lv_at hl 2 rfl) ?_
  refine sx_getN EE (hS.1.ob n1 h1.1) rfl i_Ad 1 (by decide) rfl fn_Ed_109 rfl d_Ed_add_54 ?_
  refine sx_gv (sx_runS (As := [.ref (r 8), .ref (r 8), .ref (r1 1)]) (rest := []) EE (c_F_times (hS.a (hM.2 8 (by decide) (by decide))) (hW 8 (by decide) (by decide)) (hS.a (hM.2 8 (by decide) (by decide))) (hS.a (h1.2 1 (by decide)).1)) w_Ed_104 rfl ⟨rfl, rfl⟩ ⟨Nat.le_of_ble_eq_true rfl, Nat.le_of_ble_eq_true rfl⟩ ⟨Nat.zero_le _, Nat.zero_le _⟩ hl.1 rfl (Nat.le_of_ble_eq_true rfl) d_Ed_add_57) hS (fun H locs hS => ?_)
  refine lv_aload_n hx hb d_Ed_add_60 rfl (lv_at hl 0 rfl) ?_
  refine sx_get EE (hS.1.ob hE hM.1) rfl i_Ed 9 (by decide) rfl fl_Ed_46 rfl d_Ed_add_61 ?_
  refine lv_aload_n hx hb d_Ed_add_64 rfl (lv_at hl 1 rfl) ?_
  refine sx_getN EE (hS.1.ob n0 h0.1) rfl i_Pt 3 (by decide) rfl fn_Ed_112 rfl d_Ed_add_65 ?_
  refine lv_aload_n hx hb d_Ed_add_68 rfl (lv_at hl 2 rfl) ?_
  refine sx_getN EE (hS.1.ob n1 h1.1) rfl i_Ad 3 (by decide) rfl fn_Ed_115 rfl d_Ed_add_69 ?_
  refine sx_gv (sx_runS (As := [.ref (r 9), .ref (r0 3), .ref (r1 3)]) (rest := []) EE (c_F_times (hS.a (hM.2 9 (by decide) (by decide))) (hW 9 (by decide) (by decide)) (hS.a (h0.2 3 (by decide)).1) (hS.a (h1.2 3 (by decide)).1)) w_Ed_104 rfl ⟨rfl, rfl⟩ ⟨Nat.le_of_ble_eq_true rfl, Nat.le_of_ble_eq_true rfl⟩ ⟨Nat.zero_le _, Nat.zero_le _⟩ hl.1 rfl (Nat.le_of_ble_eq_true rfl) d_Ed_add_72) hS (fun H locs hS => ?_)
  refine lv_aload_n hx hb d_Ed_add_75 rfl (lv_at hl 0 rfl) ?_
  refine sx_get EE (hS.1.ob hE hM.1) rfl i_Ed 10 (by decide) rfl fl_Ed_49 rfl d_Ed_add_76 ?_
  refine lv_aload_n hx hb d_Ed_add_79 rfl (lv_at hl 1 rfl) ?_
  refine sx_getN EE (hS.1.ob n0 h0.1) rfl i_Pt 2 (by decide) rfl fn_Ed_118 rfl d_Ed_add_80 ?_
  refine lv_aload_n hx hb d_Ed_add_83 rfl (lv_at hl 2 rfl) ?_
  refine sx_getN EE (hS.1.ob n1 h1.1) rfl i_Ad 2 (by decide) rfl fn_Ed_121 rfl d_Ed_add_84 ?_
  refine sx_gv (sx_runS (As := [.ref (r 10), .ref (r0 2), .ref (r1 2)]) (rest := []) EE (c_F_times (hS.a (hM.2 10 (by decide) (by decide))) (hW 10 (by decide) (by decide)) (hS.a (h0.2 2 (by decide)).1) (hS.a (h1.2 2 (by decide)).1)) w_Ed_104 rfl ⟨rfl, rfl⟩ ⟨Nat.le_of_ble_eq_true rfl, Nat.le_of_ble_eq_true rfl⟩ ⟨Nat.zero_le _, Nat.zero_le _⟩ hl.1 rfl (Nat.le_of_ble_eq_true rfl) d_Ed_add_87) hS (fun H locs hS => ?_)
  refine lv_aload_n hx hb d_Ed_add_90 rfl (lv_at hl 0 rfl) ?_
  refine sx_get EE (hS.1.ob hE hM.1) rfl i_Ed 11 (by decide) rfl fl_Ed_52 rfl d_Ed_add_91 ?_
  refine lv_aload_n hx hb d_Ed_add_94 rfl (lv_at hl 0 rfl) ?_
  refine sx_get EE (hS.1.ob hE hM.1) rfl i_Ed 8 (by decide) rfl fl_Ed_43 rfl d_Ed_add_95 ?_
  refine lv_aload_n hx hb d_Ed_add_98 rfl (lv_at hl 0 rfl) ?_
  refine sx_get EE (hS.1.ob hE hM.1) rfl i_Ed 7 (by decide) rfl fl_Ed_39 rfl d_Ed_add_99 ?_
  refine sx_gv (sx_runS (As := [.ref (r 11), .ref (r 8), .ref (r 7)]) (rest := []) EE (c_F_subtract (hS.a (hM.2 11 (by decide) (by decide))) (hW 11 (by decide) (by decide)) (hS.a (hM.2 8 (by decide) (by decide))) (hS.a (hM.2 7 (by decide) (by decide)))) w_Ed_97 rfl ⟨rfl, rfl⟩ ⟨Nat.le_of_ble_eq_true rfl, Nat.le_of_ble_eq_true rfl⟩ ⟨Nat.zero_le _, Nat.zero_le _⟩ hl.1 rfl (Nat.le_of_ble_eq_true rfl) d_Ed_add_102) hS (fun H locs hS => ?_)
  refine lv_aload_n hx hb d_Ed_add_105 rfl (lv_at hl 0 rfl) ?_
  refine sx_get EE (hS.1.ob hE hM.1) rfl i_Ed 12 (by decide) rfl fl_Ed_55 rfl d_Ed_add_106 ?_
  refine lv_aload_n hx hb d_Ed_add_109 rfl (lv_at hl 0 rfl) ?_
  refine sx_get EE (hS.1.ob hE hM.1) rfl i_Ed 10 (by decide) rfl fl_Ed_49 rfl d_Ed_add_110 ?_
  refine lv_aload_n hx hb d_Ed_add_113 rfl (lv_at hl 0 rfl) ?_
  refine sx_get EE (hS.1.ob hE hM.1) rfl i_Ed 9 (by decide) rfl fl_Ed_46 rfl d_Ed_add_114 ?_
  refine sx_gv (sx_runS (As := [.ref (r 12), .ref (r 10), .ref (r 9)]) (rest := []) EE (c_F_subtract (hS.a (hM.2 12 (by decide) (by decide))) (hW 12 (by decide) (by decide)) (hS.a (hM.2 10 (by decide) (by decide))) (hS.a (hM.2 9 (by decide) (by decide)))) w_Ed_97 rfl ⟨rfl, rfl⟩ ⟨Nat.le_of_ble_eq_true rfl, Nat.le_of_ble_eq_true rfl⟩ ⟨Nat.zero_le _, Nat.zero_le _⟩ hl.1 rfl (Nat.le_of_ble_eq_true rfl) d_Ed_add_117) hS (fun H locs hS => ?_)
  refine lv_aload_n hx hb d_Ed_add_120 rfl (lv_at hl 0 rfl) ?_
  refine sx_get EE (hS.1.ob hE hM.1) rfl i_Ed 13 (by decide) rfl fl_Ed_58 rfl d_Ed_add_121 ?_
  refine lv_aload_n hx hb d_Ed_add_124 rfl (lv_at hl 0 rfl) ?_
  refine sx_get EE (hS.1.ob hE hM.1) rfl i_Ed 10 (by decide) rfl fl_Ed_49 rfl d_Ed_add_125 ?_
  refine lv_aload_n hx hb d_Ed_add_128 rfl (lv_at hl 0 rfl) ?_
  refine sx_get EE (hS.1.ob hE hM.1) rfl i_Ed 9 (by decide) rfl fl_Ed_46 rfl d_Ed_add_129 ?_
  refine sx_gv (sx_runS (As := [.ref (r 13), .ref (r 10), .ref (r 9)]) (rest := []) EE (c_F_add (hS.a (hM.2 13 (by decide) (by decide))) (hW 13 (by decide) (by decide)) (hS.a (hM.2 10 (by decide) (by decide))) (hS.a (hM.2 9 (by decide) (by decide)))) w_Ed_107 rfl ⟨rfl, rfl⟩ ⟨Nat.le_of_ble_eq_true rfl, Nat.le_of_ble_eq_true rfl⟩ ⟨Nat.zero_le _, Nat.zero_le _⟩ hl.1 rfl (Nat.le_of_ble_eq_true rfl) d_Ed_add_132) hS (fun H locs hS => ?_)
  refine lv_aload_n hx hb d_Ed_add_135 rfl (lv_at hl 0 rfl) ?_
  refine sx_get EE (hS.1.ob hE hM.1) rfl i_Ed 14 (by decide) rfl fl_Ed_61 rfl d_Ed_add_136 ?_
  refine lv_aload_n hx hb d_Ed_add_139 rfl (lv_at hl 0 rfl) ?_
  refine sx_get EE (hS.1.ob hE hM.1) rfl i_Ed 8 (by decide) rfl fl_Ed_43 rfl d_Ed_add_140 ?_
  refine lv_aload_n hx hb d_Ed_add_143 rfl (lv_at hl 0 rfl) ?_
  refine sx_get EE (hS.1.ob hE hM.1) rfl i_Ed 7 (by decide) rfl fl_Ed_39 rfl d_Ed_add_144 ?_
  refine sx_gv (sx_runS (As := [.ref (r 14), .ref (r 8), .ref (r 7)]) (rest := []) EE (c_F_add (hS.a (hM.2 14 (by decide) (by decide))) (hW 14 (by decide) (by decide)) (hS.a (hM.2 8 (by decide) (by decide))) (hS.a (hM.2 7 (by decide) (by decide)))) w_Ed_107 rfl ⟨rfl, rfl⟩ ⟨Nat.le_of_ble_eq_true rfl, Nat.le_of_ble_eq_true rfl⟩ ⟨Nat.zero_le _, Nat.zero_le _⟩ hl.1 rfl (Nat.le_of_ble_eq_true rfl) d_Ed_add_147) hS (fun H locs hS => ?_)
  refine lv_aload_n hx hb d_Ed_add_150 rfl (lv_at hl 0 rfl) ?_
  refine lv_aload_n hx hb d_Ed_add_151 rfl (lv_at hl 1 rfl) ?_
  refine sx_gv (sx_runV (As := [.ref a0]) (rest := []) EE (hS.1.ob hE hM.1) rfl rfl (c_Ed_join (hM.kept hS.1 hE) hE hW (h0.kept hS.1 n0) n0 w0) w_Ed_124 rfl ⟨rfl, rfl⟩ ⟨Nat.le_of_ble_eq_true rfl, Nat.le_of_ble_eq_true rfl⟩ ⟨Nat.zero_le _, Nat.zero_le _⟩ hl.1 rfl (Nat.le_of_ble_eq_true rfl) d_Ed_add_152) hS (fun H locs hS => ?_)
  exact hret _ _ _ _ hS d_Ed_add_155
abbrev rm_Ed_fillMultiples : Room := { frames := 4, cells := 0, slots := 0, locals := 142 }
set_option maxHeartbeats 4000000 in
set_option maxRecDepth 100000 in
theorem c_Ed_fillMultiples {l : Launch} {D : va_G} {g : ClassId → FieldType → Prop} {E : Nat → Prop} {H0 : Heap} {o : Nat} {r : Nat → Nat} {a0 : Nat} {a1 : Nat} {r1 : Nat → Nat} {ts : Nat → Nat} (hM : ed_ D g H0 o r) (hE : ¬ E o) (hW : ∀ k, 7 ≤ k → k < 15 → E (r k)) (h0 : ra_ D g E H0 a0) (h1 : o4_ D g H0 4 a1 r1) (n1 : ¬ E a1) (w1 : ∀ k, k < 4 → E (r1 k)) (hz : st_H D g E H0 ts) : Met l y_Ed_fillMultiples (.code y_Ed_fillMultiples b_Ed_fillMultiples 4 none :: G_) rm_Ed_fillMultiples (sx_Pc [.ref o, .ref a0, .ref a1] H0 D g) (sx_Qv g E H0) 0 0 E := by
  refine sx_mv (own := R_Ed) (by decide) rfl rfl rfl (Nat.le_of_ble_eq_true rfl) ?_
  intro p e s m args below meth c Q ls EE hl hret
  obtain ⟨hx, hb, hml, hown, hts, hG, hK⟩ := id EE
  have hS : sx_S g E E H0 H0 [] := sx_S.rf
  have hl : lv_has ls 4 [(0, .ref o), (1, .ref a0), (2, .ref a1)] := hl
  refine lv_aload_n hx hb d_Ed_fillMultiples_0 rfl (lv_at hl 1 rfl) ?_
  refine lv_iconst (v := nI 1) hx hb d_Ed_fillMultiples_1 (by decide +kernel) ?_
  refine sx_aald hx hb hG hS h0 (by omega) d_Ed_fillMultiples_2 (fun b1 rb1 hb1 nb1 wb1 => ?_)
  refine lv_aload_n hx hb d_Ed_fillMultiples_3 rfl (lv_at hl 2 rfl) ?_
  refine sx_gv (sx_runV (As := [.ref a1]) (rest := []) EE (hS.1.ob nb1 hb1.1) rfl rfl (c_Ad_set (hb1.kept hS.1 nb1) nb1 wb1 (h1.kept hS.1 n1) n1 (hz.kept hS.1)) w_Ed_83 rfl ⟨rfl, rfl⟩ ⟨Nat.le_of_ble_eq_true rfl, Nat.le_of_ble_eq_true rfl⟩ ⟨Nat.zero_le _, Nat.zero_le _⟩ hl.1 rfl (Nat.le_of_ble_eq_true rfl) d_Ed_fillMultiples_4) hS (fun H locs hS => ?_)
  refine lv_iconst (v := nI 2) hx hb d_Ed_fillMultiples_7 (by decide +kernel) ?_
  refine lv_istore_n (lv' := [(3, .int (nI (2))), (0, .ref o), (1, .ref a0), (2, .ref a1)]) hx hb d_Ed_fillMultiples_8 rfl hl (by decide) rfl (fun ls hl => ?_)
  have lp9 : ∀ (k i2 : Nat) (H : Heap) (locs : List Loc) (ls : Array Slot), i2 + k = 16 → sx_S g E E H0 H locs → lv_has ls 4 [(3, .int (nI (i2))), (0, .ref o), (1, .ref a0), (2, .ref a1)] → W p l e rm_Ed_fillMultiples s m args below meth c H locs 0 0 Q (F0 m 9 ls []) := by
    intro k
    induction k with
    | zero =>
      intro i2  H locs ls hi  hS hl
      refine lv_iload_n hx hb d_Ed_fillMultiples_9 rfl (lv_at hl 0 rfl) ?_
      refine lv_bipush (v := nI 16) hx hb d_Ed_fillMultiples_10 (by decide +kernel) ?_
      refine lv_icmp_ge (tgt := 36) hx hb d_Ed_fillMultiples_12 (by decide) (fun _ => ?_) (fun q => absurd (nI_le (by omega) (by omega)) q)
      exact hret _ _ _ _ hS d_Ed_fillMultiples_36
    | succ k ih9 =>
      intro i2  H locs ls hi  hS hl
      refine lv_iload_n hx hb d_Ed_fillMultiples_9 rfl (lv_at hl 0 rfl) ?_
      refine lv_bipush (v := nI 16) hx hb d_Ed_fillMultiples_10 (by decide +kernel) ?_
      refine lv_icmp_ge (tgt := 36) hx hb d_Ed_fillMultiples_12 (by decide) (fun q => absurd q (nI_ge (by omega) (by omega))) (fun _ => ?_)
      refine lv_aload_n hx hb d_Ed_fillMultiples_15 rfl (lv_at hl 1 rfl) ?_
      refine lv_aload_n hx hb d_Ed_fillMultiples_16 rfl (lv_at hl 3 rfl) ?_
      refine lv_aload_n hx hb d_Ed_fillMultiples_17 rfl (lv_at hl 2 rfl) ?_
      refine lv_iconst (v := nI 1) hx hb d_Ed_fillMultiples_18 (by decide +kernel) ?_
      refine sx_aald hx hb hG hS h0 (by omega) d_Ed_fillMultiples_19 (fun b3 rb3 hb3 nb3 wb3 => ?_)
      refine sx_gv (sx_runV (As := [.ref a1, .ref b3]) (rest := []) EE (hS.1.ob hE hM.1) rfl rfl (c_Ed_add (hM.kept hS.1 hE) hE hW (h1.kept hS.1 n1) n1 w1 (hb3.kept hS.1 nb3) nb3) w_Ed_87 rfl ⟨rfl, rfl⟩ ⟨Nat.le_of_ble_eq_true rfl, Nat.le_of_ble_eq_true rfl⟩ ⟨Nat.zero_le _, Nat.zero_le _⟩ hl.1 rfl (Nat.le_of_ble_eq_true rfl) d_Ed_fillMultiples_20) hS (fun H locs hS => ?_)
      refine lv_aload_n hx hb d_Ed_fillMultiples_23 rfl (lv_at hl 2 rfl) ?_
      refine lv_iload_n hx hb d_Ed_fillMultiples_24 rfl (lv_at hl 0 rfl) ?_
      refine sx_aald hx hb hG hS h0 (by omega) d_Ed_fillMultiples_25 (fun b4 rb4 hb4 nb4 wb4 => ?_)
      refine lv_aload_n hx hb d_Ed_fillMultiples_26 rfl (lv_at hl 3 rfl) ?_
      refine sx_gv (sx_runV (As := [.ref a1]) (rest := []) EE (hS.1.ob nb4 hb4.1) rfl rfl (c_Ad_set (hb4.kept hS.1 nb4) nb4 wb4 (h1.kept hS.1 n1) n1 (hz.kept hS.1)) w_Ed_83 rfl ⟨rfl, rfl⟩ ⟨Nat.le_of_ble_eq_true rfl, Nat.le_of_ble_eq_true rfl⟩ ⟨Nat.zero_le _, Nat.zero_le _⟩ hl.1 rfl (Nat.le_of_ble_eq_true rfl) d_Ed_fillMultiples_27) hS (fun H locs hS => ?_)
      refine lv_iinc (v := nI (i2 + 1)) (lv' := [(3, .int (nI (i2 + 1))), (0, .ref o), (1, .ref a0), (2, .ref a1)]) hx hb d_Ed_fillMultiples_30 hl (k := 0) rfl (sx_inc _ _) (by decide) rfl (fun ls hl => ?_)
      refine lv_goto (tgt := 9) hx hb d_Ed_fillMultiples_33 (by decide) ?_
      exact ih9 (i2 + 1)  _ _ _ (by omega)  hS (lv_sub hl [0, 1, 2, 3] rfl)
  exact lp9 (14) 2  _ _ _ (by omega)  hS (lv_sub hl [0, 1, 2, 3] rfl)
