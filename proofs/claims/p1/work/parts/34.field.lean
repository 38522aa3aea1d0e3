abbrev rm_JA_fill : Room := { frames := 0, cells := 0, slots := 0, locals := 0 }
set_option maxHeartbeats 4000000 in
set_option maxRecDepth 100000 in
theorem c_JA_fill {l : Launch} {D : va_G} {g : ClassId → FieldType → Prop} {E : Nat → Prop} {H0 : Heap} {a0 : Nat} {v1 : Int64} (f0 : sx_A g .long H0 a0 10) (x0 : sx_L H0 a0 10) (o0 : E a0) : Met l y_JA_fill (.code y_JA_fill b_JA_fill 5 none :: G_) rm_JA_fill (sx_Pc [.ref a0, .long v1] H0 D g) (sx_Qv g E H0) 0 0 E := by
  refine sx_mv (own := R_JA) (by decide) rfl rfl rfl (Nat.le_of_ble_eq_true rfl) ?_
  intro p e s m args below meth c Q ls EE hl hret
  obtain ⟨hx, hb, hml, hown, hts, hG, hK⟩ := id EE
  have hS : sx_S g E E H0 H0 [] := sx_S.rf
  have hl : lv_has ls 5 [(0, .ref a0), (1, .long v1)] := hl
  refine lv_iconst (v := nI 0) hx hb d_JA_fill_0 (by decide +kernel) ?_
  refine lv_istore_n (lv' := [(3, .int (nI (0))), (0, .ref a0), (1, .long v1)]) hx hb d_JA_fill_1 rfl hl (by decide) rfl (fun ls hl => ?_)
  refine lv_aload_n hx hb d_JA_fill_2 rfl (lv_at hl 1 rfl) ?_
  refine sx_alen hx hb hG hS f0 x0 d_JA_fill_3 ?_
  refine lv_istore (lv' := [(4, .int (nI (10))), (3, .int (nI (0))), (0, .ref a0), (1, .long v1)]) hx hb d_JA_fill_4 hl (by decide) rfl (fun ls hl => ?_)
  have lp6 : ∀ (k i1 : Nat) (H : Heap) (locs : List Loc) (ls : Array Slot), i1 + k = 10 → sx_S g E E H0 H locs → lv_has ls 5 [(4, .int (nI (10))), (3, .int (nI (i1))), (0, .ref a0), (1, .long v1)] → W p l e rm_JA_fill s m args below meth c H locs 0 0 Q (F0 m 6 ls []) := by
    intro k
    induction k with
    | zero =>
      intro i1  H locs ls hi  hS hl
      refine lv_iload_n hx hb d_JA_fill_6 rfl (lv_at hl 1 rfl) ?_
      refine lv_iload hx hb d_JA_fill_7 (lv_at hl 0 rfl) ?_
      refine lv_icmp_ge (tgt := 22) hx hb d_JA_fill_9 (by decide) (fun _ => ?_) (fun q => absurd (nI_le (by omega) (by omega)) q)
      exact hret _ _ _ _ hS d_JA_fill_22
    | succ k ih6 =>
      intro i1  H locs ls hi  hS hl
      refine lv_iload_n hx hb d_JA_fill_6 rfl (lv_at hl 1 rfl) ?_
      refine lv_iload hx hb d_JA_fill_7 (lv_at hl 0 rfl) ?_
      refine lv_icmp_ge (tgt := 22) hx hb d_JA_fill_9 (by decide) (fun q => absurd q (nI_ge (by omega) (by omega))) (fun _ => ?_)
      refine lv_aload_n hx hb d_JA_fill_12 rfl (lv_at hl 2 rfl) ?_
      refine lv_iload_n hx hb d_JA_fill_13 rfl (lv_at hl 1 rfl) ?_
      refine lv_lload_n hx hb d_JA_fill_14 rfl (lv_at hl 3 rfl) ?_
      refine sx_last hx hb hG hS f0 o0 (sx_in (by omega) (by decide)) d_JA_fill_15 (fun H locs hS => ?_)
      refine lv_iinc (v := nI (i1 + 1)) (lv' := [(3, .int (nI (i1 + 1))), (4, .int (nI (10))), (0, .ref a0), (1, .long v1)]) hx hb d_JA_fill_16 hl (k := 1) rfl (sx_inc _ _) (by decide) rfl (fun ls hl => ?_)
      refine lv_goto (tgt := 6) hx hb d_JA_fill_19 (by decide) ?_
      exact ih6 (i1 + 1)  _ _ _ (by omega)  hS (lv_sub hl [1, 0, 2, 3] rfl)
  exact lp6 (10) 0  _ _ _ (by omega)  hS (lv_sub hl [0, 1, 2, 3] rfl)
abbrev rm_F_set : Room := { frames := 1, cells := 0, slots := 0, locals := 24 }
set_option maxHeartbeats 4000000 in
set_option maxRecDepth 100000 in
theorem c_F_set {l : Launch} {D : va_G} {g : ClassId → FieldType → Prop} {E : Nat → Prop} {H0 : Heap} {a0 : Nat} {v1 : Int64} (f0 : sx_A g .long H0 a0 10) (x0 : sx_L H0 a0 10) (o0 : E a0) : Met l y_F_set (.code y_F_set b_F_set 3 none :: G_) rm_F_set (sx_Pc [.ref a0, .long v1] H0 D g) (sx_Qv g E H0) 0 0 E := by
  refine sx_mv (own := R_F) (by decide) rfl rfl rfl (Nat.le_of_ble_eq_true rfl) ?_
  intro p e s m args below meth c Q ls EE hl hret
  obtain ⟨hx, hb, hml, hown, hts, hG, hK⟩ := id EE
  have hS : sx_S g E E H0 H0 [] := sx_S.rf
  have hl : lv_has ls 3 [(0, .ref a0), (1, .long v1)] := hl
  refine lv_aload_n hx hb d_F_set_0 rfl (lv_at hl 0 rfl) ?_
  refine lv_lconst (v := 0) hx hb d_F_set_1 (by decide +kernel) ?_
  refine sx_gv (sx_runS (As := [.ref a0, .long 0]) (rest := []) EE (c_JA_fill (hS.a f0) (hS.1.2.2.2 _ _ x0) o0) w_F_33 rfl ⟨rfl, rfl⟩ ⟨Nat.le_of_ble_eq_true rfl, Nat.le_of_ble_eq_true rfl⟩ ⟨Nat.zero_le _, Nat.zero_le _⟩ hl.1 rfl (Nat.le_of_ble_eq_true rfl) d_F_set_2) hS (fun H locs hS => ?_)
  refine lv_aload_n hx hb d_F_set_5 rfl (lv_at hl 0 rfl) ?_
  refine lv_iconst (v := nI 0) hx hb d_F_set_6 (by decide +kernel) ?_
  refine lv_lload_n hx hb d_F_set_7 rfl (lv_at hl 1 rfl) ?_
  refine sx_last hx hb hG hS f0 o0 (sx_in (by omega) (by decide)) d_F_set_8 (fun H locs hS => ?_)
  exact hret _ _ _ _ hS d_F_set_9
abbrev rm_F_copy : Room := { frames := 1, cells := 0, slots := 0, locals := 100 }
set_option maxHeartbeats 4000000 in
set_option maxRecDepth 100000 in
theorem c_F_copy {l : Launch} {D : va_G} {g : ClassId → FieldType → Prop} {E : Nat → Prop} {H0 : Heap} {a0 : Nat} {a1 : Nat} (f0 : sx_A g .long H0 a0 10) (o0 : E a0) (f1 : sx_A g .long H0 a1 10) : Met l y_F_copy (.code y_F_copy b_F_copy 2 none :: G_) rm_F_copy (sx_Pc [.ref a0, .ref a1] H0 D g) (sx_Qv g E H0) 0 0 E := by
  refine sx_mv (own := R_F) (by decide) rfl rfl rfl (Nat.le_of_ble_eq_true rfl) ?_
  intro p e s m args below meth c Q ls EE hl hret
  obtain ⟨hx, hb, hml, hown, hts, hG, hK⟩ := id EE
  have hS : sx_S g E E H0 H0 [] := sx_S.rf
  have hl : lv_has ls 2 [(0, .ref a0), (1, .ref a1)] := hl
  refine lv_aload_n hx hb d_F_copy_0 rfl (lv_at hl 1 rfl) ?_
  refine lv_iconst (v := nI 0) hx hb d_F_copy_1 (by decide +kernel) ?_
  refine lv_aload_n hx hb d_F_copy_2 rfl (lv_at hl 0 rfl) ?_
  refine lv_iconst (v := nI 0) hx hb d_F_copy_3 (by decide +kernel) ?_
  refine lv_bipush (v := nI 10) hx hb d_F_copy_4 (by decide +kernel) ?_
  refine sx_cpy hx hb (by rw [hml]; exact hl.1.symm) hown (hts (.methodLink R_F 39 arraycopyName) (by decide +kernel)) (hts (.native arraycopyName) (by decide +kernel)) (hts (.static arraycopyName) (by decide +kernel)) (hts (.initialized "java/lang/System") (by decide +kernel)) hG hS (f1.le (by decide)) (f0.le (by decide)) o0 (by decide) (Nat.le_of_ble_eq_true rfl) (Nat.le_of_ble_eq_true rfl) d_F_copy_6 (fun H locs hS => ?_)
  exact hret _ _ _ _ hS d_F_copy_9
abbrev rm_F_add : Room := { frames := 0, cells := 0, slots := 0, locals := 0 }
set_option maxHeartbeats 4000000 in
set_option maxRecDepth 100000 in
theorem c_F_add {l : Launch} {D : va_G} {g : ClassId → FieldType → Prop} {E : Nat → Prop} {H0 : Heap} {a0 : Nat} {a1 : Nat} {a2 : Nat} (f0 : sx_A g .long H0 a0 10) (o0 : E a0) (f1 : sx_A g .long H0 a1 10) (f2 : sx_A g .long H0 a2 10) : Met l y_F_add (.code y_F_add b_F_add 4 none :: G_) rm_F_add (sx_Pc [.ref a0, .ref a1, .ref a2] H0 D g) (sx_Qv g E H0) 0 0 E := by
  refine sx_mv (own := R_F) (by decide) rfl rfl rfl (Nat.le_of_ble_eq_true rfl) ?_
  intro p e s m args below meth c Q ls EE hl hret
  obtain ⟨hx, hb, hml, hown, hts, hG, hK⟩ := id EE
  have hS : sx_S g E E H0 H0 [] := sx_S.rf
  have hl : lv_has ls 4 [(0, .ref a0), (1, .ref a1), (2, .ref a2)] := hl
  refine lv_iconst (v := nI 0) hx hb d_F_add_0 (by decide +kernel) ?_
  refine lv_istore_n (lv' := [(3, .int (nI (0))), (0, .ref a0), (1, .ref a1), (2, .ref a2)]) hx hb d_F_add_1 rfl hl (by decide) rfl (fun ls hl => ?_)
  have lp2 : ∀ (k i1 : Nat) (H : Heap) (locs : List Loc) (ls : Array Slot), i1 + k = 10 → sx_S g E E H0 H locs → lv_has ls 4 [(3, .int (nI (i1))), (0, .ref a0), (1, .ref a1), (2, .ref a2)] → W p l e rm_F_add s m args below meth c H locs 0 0 Q (F0 m 2 ls []) := by
    intro k
    induction k with
    | zero =>
      intro i1  H locs ls hi  hS hl
      refine lv_iload_n hx hb d_F_add_2 rfl (lv_at hl 0 rfl) ?_
      refine lv_bipush (v := nI 10) hx hb d_F_add_3 (by decide +kernel) ?_
      refine lv_icmp_ge (tgt := 24) hx hb d_F_add_5 (by decide) (fun _ => ?_) (fun q => absurd (nI_le (by omega) (by omega)) q)
      exact hret _ _ _ _ hS d_F_add_24
    | succ k ih2 =>
      intro i1  H locs ls hi  hS hl
      refine lv_iload_n hx hb d_F_add_2 rfl (lv_at hl 0 rfl) ?_
      refine lv_bipush (v := nI 10) hx hb d_F_add_3 (by decide +kernel) ?_
      refine lv_icmp_ge (tgt := 24) hx hb d_F_add_5 (by decide) (fun q => absurd q (nI_ge (by omega) (by omega))) (fun _ => ?_)
      refine lv_aload_n hx hb d_F_add_8 rfl (lv_at hl 1 rfl) ?_
      refine lv_iload_n hx hb d_F_add_9 rfl (lv_at hl 0 rfl) ?_
      refine lv_aload_n hx hb d_F_add_10 rfl (lv_at hl 2 rfl) ?_
      refine lv_iload_n hx hb d_F_add_11 rfl (lv_at hl 0 rfl) ?_
      refine sx_lald hx hb hG hS f1 (sx_in (by omega) (by decide)) d_F_add_12 (fun z2 => ?_)
      refine lv_aload_n hx hb d_F_add_13 rfl (lv_at hl 3 rfl) ?_
      refine lv_iload_n hx hb d_F_add_14 rfl (lv_at hl 0 rfl) ?_
      refine sx_lald hx hb hG hS f2 (sx_in (by omega) (by decide)) d_F_add_15 (fun z3 => ?_)
      refine sx_ladd hx hb d_F_add_16 (fun z4 => ?_)
      refine sx_last hx hb hG hS f0 o0 (sx_in (by omega) (by decide)) d_F_add_17 (fun H locs hS => ?_)
      refine lv_iinc (v := nI (i1 + 1)) (lv' := [(3, .int (nI (i1 + 1))), (0, .ref a0), (1, .ref a1), (2, .ref a2)]) hx hb d_F_add_18 hl (k := 0) rfl (sx_inc _ _) (by decide) rfl (fun ls hl => ?_)
      refine lv_goto (tgt := 2) hx hb d_F_add_21 (by decide) ?_
      exact ih2 (i1 + 1)  _ _ _ (by omega)  hS (lv_sub hl [0, 1, 2, 3] rfl)
  exact lp2 (10) 0  _ _ _ (by omega)  hS (lv_sub hl [0, 1, 2, 3] rfl)
abbrev rm_F_subtract : Room := { frames := 0, cells := 0, slots := 0, locals := 0 }
set_option maxHeartbeats 4000000 in
set_option maxRecDepth 100000 in
theorem c_F_subtract {l : Launch} {D : va_G} {g : ClassId → FieldType → Prop} {E : Nat → Prop} {H0 : Heap} {a0 : Nat} {a1 : Nat} {a2 : Nat} (f0 : sx_A g .long H0 a0 10) (o0 : E a0) (f1 : sx_A g .long H0 a1 10) (f2 : sx_A g .long H0 a2 10) : Met l y_F_subtract (.code y_F_subtract b_F_subtract 4 none :: G_) rm_F_subtract (sx_Pc [.ref a0, .ref a1, .ref a2] H0 D g) (sx_Qv g E H0) 0 0 E := by
  refine sx_mv (own := R_F) (by decide) rfl rfl rfl (Nat.le_of_ble_eq_true rfl) ?_
  intro p e s m args below meth c Q ls EE hl hret
  obtain ⟨hx, hb, hml, hown, hts, hG, hK⟩ := id EE
  have hS : sx_S g E E H0 H0 [] := sx_S.rf
  have hl : lv_has ls 4 [(0, .ref a0), (1, .ref a1), (2, .ref a2)] := hl
  refine lv_iconst (v := nI 0) hx hb d_F_subtract_0 (by decide +kernel) ?_
  refine lv_istore_n (lv' := [(3, .int (nI (0))), (0, .ref a0), (1, .ref a1), (2, .ref a2)]) hx hb d_F_subtract_1 rfl hl (by decide) rfl (fun ls hl => ?_)
  have lp2 : ∀ (k i1 : Nat) (H : Heap) (locs : List Loc) (ls : Array Slot), i1 + k = 10 → sx_S g E E H0 H locs → lv_has ls 4 [(3, .int (nI (i1))), (0, .ref a0), (1, .ref a1), (2, .ref a2)] → W p l e rm_F_subtract s m args below meth c H locs 0 0 Q (F0 m 2 ls []) := by
    intro k
    induction k with
    | zero =>
      intro i1  H locs ls hi  hS hl
      refine lv_iload_n hx hb d_F_subtract_2 rfl (lv_at hl 0 rfl) ?_
      refine lv_bipush (v := nI 10) hx hb d_F_subtract_3 (by decide +kernel) ?_
      refine lv_icmp_ge (tgt := 24) hx hb d_F_subtract_5 (by decide) (fun _ => ?_) (fun q => absurd (nI_le (by omega) (by omega)) q)
      exact hret _ _ _ _ hS d_F_subtract_24
    | succ k ih2 =>
      intro i1  H locs ls hi  hS hl
      refine lv_iload_n hx hb d_F_subtract_2 rfl (lv_at hl 0 rfl) ?_
      refine lv_bipush (v := nI 10) hx hb d_F_subtract_3 (by decide +kernel) ?_
      refine lv_icmp_ge (tgt := 24) hx hb d_F_subtract_5 (by decide) (fun q => absurd q (nI_ge (by omega) (by omega))) (fun _ => ?_)
      refine lv_aload_n hx hb d_F_subtract_8 rfl (lv_at hl 1 rfl) ?_
      refine lv_iload_n hx hb d_F_subtract_9 rfl (lv_at hl 0 rfl) ?_
      refine lv_aload_n hx hb d_F_subtract_10 rfl (lv_at hl 2 rfl) ?_
      refine lv_iload_n hx hb d_F_subtract_11 rfl (lv_at hl 0 rfl) ?_
      refine sx_lald hx hb hG hS f1 (sx_in (by omega) (by decide)) d_F_subtract_12 (fun z2 => ?_)
      refine lv_aload_n hx hb d_F_subtract_13 rfl (lv_at hl 3 rfl) ?_
      refine lv_iload_n hx hb d_F_subtract_14 rfl (lv_at hl 0 rfl) ?_
      refine sx_lald hx hb hG hS f2 (sx_in (by omega) (by decide)) d_F_subtract_15 (fun z3 => ?_)
      refine sx_lsub hx hb d_F_subtract_16 (fun z4 => ?_)
      refine sx_last hx hb hG hS f0 o0 (sx_in (by omega) (by decide)) d_F_subtract_17 (fun H locs hS => ?_)
      refine lv_iinc (v := nI (i1 + 1)) (lv' := [(3, .int (nI (i1 + 1))), (0, .ref a0), (1, .ref a1), (2, .ref a2)]) hx hb d_F_subtract_18 hl (k := 0) rfl (sx_inc _ _) (by decide) rfl (fun ls hl => ?_)
      refine lv_goto (tgt := 2) hx hb d_F_subtract_21 (by decide) ?_
      exact ih2 (i1 + 1)  _ _ _ (by omega)  hS (lv_sub hl [0, 1, 2, 3] rfl)
  exact lp2 (10) 0  _ _ _ (by omega)  hS (lv_sub hl [0, 1, 2, 3] rfl)
abbrev rm_F_carry : Room := { frames := 0, cells := 0, slots := 0, locals := 0 }
set_option maxHeartbeats 4000000 in
set_option maxRecDepth 100000 in
theorem c_F_carry {l : Launch} {D : va_G} {g : ClassId → FieldType → Prop} {E : Nat → Prop} {H0 : Heap} {a0 : Nat} (f0 : sx_A g .long H0 a0 10) (o0 : E a0) : Met l y_F_carry (.code y_F_carry b_F_carry 8 none :: G_) rm_F_carry (sx_Pc [.ref a0] H0 D g) (sx_Qv g E H0) 0 0 E := by
  refine sx_mv (own := R_F) (by decide) rfl rfl rfl (Nat.le_of_ble_eq_true rfl) ?_
  intro p e s m args below meth c Q ls EE hl hret
  obtain ⟨hx, hb, hml, hown, hts, hG, hK⟩ := id EE
  have hS : sx_S g E E H0 H0 [] := sx_S.rf
  have hl : lv_has ls 8 [(0, .ref a0)] := hl
  refine lv_lconst (v := 0) hx hb d_F_carry_0 (by decide +kernel) ?_
  refine lv_lstore_n (lv' := [(1, .long 0), (0, .ref a0)]) hx hb d_F_carry_1 rfl hl (by decide) rfl (fun ls hl => ?_)
  refine lv_iconst (v := nI 0) hx hb d_F_carry_2 (by decide +kernel) ?_
  refine lv_istore_n (lv' := [(3, .int (nI (0))), (1, .long 0), (0, .ref a0)]) hx hb d_F_carry_3 rfl hl (by decide) rfl (fun ls hl => ?_)
  have lp4 : ∀ (k i2 : Nat) (w1 : Int64) (H : Heap) (locs : List Loc) (ls : Array Slot), i2 + 2 * k = 10 → sx_S g E E H0 H locs → lv_has ls 8 [(3, .int (nI (i2))), (1, .long w1), (0, .ref a0)] → W p l e rm_F_carry s m args below meth c H locs 0 0 Q (F0 m 4 ls []) := by
    intro k
    induction k with
    | zero =>
      intro i2 w1 H locs ls hi  hS hl
      refine lv_iload_n hx hb d_F_carry_4 rfl (lv_at hl 0 rfl) ?_
      refine lv_bipush (v := nI 10) hx hb d_F_carry_5 (by decide +kernel) ?_
      refine lv_icmp_ge (tgt := 74) hx hb d_F_carry_7 (by decide) (fun _ => ?_) (fun q => absurd (nI_le (by omega) (by omega)) q)
      refine lv_aload_n hx hb d_F_carry_74 rfl (lv_at hl 2 rfl) ?_
      refine lv_iconst (v := nI 0) hx hb d_F_carry_75 (by decide +kernel) ?_
      refine sx_lald hx hb hG hS f0 (sx_in (by omega) (by decide)) d_F_carry_76 (fun z3 => ?_)
      refine lv_ldc2 (v := (19)) hx hb hown (hts (.constantLong R_F 51 (19)) (by decide +kernel)) d_F_carry_77 ?_
      refine lv_lload_n hx hb d_F_carry_80 rfl (lv_at hl 1 rfl) ?_
      refine sx_lmul hx hb d_F_carry_81 (fun z4 => ?_)
      refine sx_ladd hx hb d_F_carry_82 (fun z5 => ?_)
      refine lv_lstore_n (lv' := [(3, .long z5), (1, .long w1), (0, .ref a0)]) hx hb d_F_carry_83 rfl hl (by decide) rfl (fun ls hl => ?_)
      refine lv_lload_n hx hb d_F_carry_84 rfl (lv_at hl 0 rfl) ?_
      refine lv_ldc2 (v := (33554432)) hx hb hown (hts (.constantLong R_F 53 (33554432)) (by decide +kernel)) d_F_carry_85 ?_
      refine sx_ladd hx hb d_F_carry_88 (fun z6 => ?_)
      refine lv_bipush (v := nI 26) hx hb d_F_carry_89 (by decide +kernel) ?_
      refine sx_lshr hx hb d_F_carry_91 (fun z7 => ?_)
      refine lv_lstore_n (lv' := [(1, .long z7), (3, .long z5), (0, .ref a0)]) hx hb d_F_carry_92 rfl hl (by decide) rfl (fun ls hl => ?_)
      refine lv_aload_n hx hb d_F_carry_93 rfl (lv_at hl 2 rfl) ?_
      refine lv_iconst (v := nI 0) hx hb d_F_carry_94 (by decide +kernel) ?_
      refine lv_lload_n hx hb d_F_carry_95 rfl (lv_at hl 1 rfl) ?_
      refine lv_lload_n hx hb d_F_carry_96 rfl (lv_at hl 0 rfl) ?_
      refine lv_bipush (v := nI 26) hx hb d_F_carry_97 (by decide +kernel) ?_
      refine sx_lshl hx hb d_F_carry_99 (fun z8 => ?_)
      refine sx_lsub hx hb d_F_carry_100 (fun z9 => ?_)
      refine sx_last hx hb hG hS f0 o0 (sx_in (by omega) (by decide)) d_F_carry_101 (fun H locs hS => ?_)
      refine lv_aload_n hx hb d_F_carry_102 rfl (lv_at hl 2 rfl) ?_
      refine lv_iconst (v := nI 1) hx hb d_F_carry_103 (by decide +kernel) ?_
      refine lv_dup2_11 hx hb d_F_carry_104 rfl rfl ?_
      refine sx_lald hx hb hG hS f0 (sx_in (by omega) (by decide)) d_F_carry_105 (fun z10 => ?_)
      refine lv_lload_n hx hb d_F_carry_106 rfl (lv_at hl 0 rfl) ?_
      refine sx_ladd hx hb d_F_carry_107 (fun z11 => ?_)
      refine sx_last hx hb hG hS f0 o0 (sx_in (by omega) (by decide)) d_F_carry_108 (fun H locs hS => ?_)
      exact hret _ _ _ _ hS d_F_carry_109
    | succ k ih4 =>
      intro i2 w1 H locs ls hi  hS hl
      refine lv_iload_n hx hb d_F_carry_4 rfl (lv_at hl 0 rfl) ?_
      refine lv_bipush (v := nI 10) hx hb d_F_carry_5 (by decide +kernel) ?_
      refine lv_icmp_ge (tgt := 74) hx hb d_F_carry_7 (by decide) (fun q => absurd q (nI_ge (by omega) (by omega))) (fun _ => ?_)
      refine lv_aload_n hx hb d_F_carry_10 rfl (lv_at hl 2 rfl) ?_
      refine lv_iload_n hx hb d_F_carry_11 rfl (lv_at hl 0 rfl) ?_
      refine sx_lald hx hb hG hS f0 (sx_in (by omega) (by decide)) d_F_carry_12 (fun z12 => ?_)
      refine lv_lload_n hx hb d_F_carry_13 rfl (lv_at hl 1 rfl) ?_
      refine sx_ladd hx hb d_F_carry_14 (fun z13 => ?_)
      refine lv_lstore (lv' := [(4, .long z13), (3, .int (nI (i2))), (1, .long w1), (0, .ref a0)]) hx hb d_F_carry_15 hl (by decide) rfl (fun ls hl => ?_)
      refine lv_lload hx hb d_F_carry_17 (lv_at hl 0 rfl) ?_
      refine lv_ldc2 (v := (33554432)) hx hb hown (hts (.constantLong R_F 53 (33554432)) (by decide +kernel)) d_F_carry_19 ?_
      refine sx_ladd hx hb d_F_carry_22 (fun z14 => ?_)
      refine lv_bipush (v := nI 26) hx hb d_F_carry_23 (by decide +kernel) ?_
      refine sx_lshr hx hb d_F_carry_25 (fun z15 => ?_)
      refine lv_lstore_n (lv' := [(1, .long z15), (4, .long z13), (3, .int (nI (i2))), (0, .ref a0)]) hx hb d_F_carry_26 rfl hl (by decide) rfl (fun ls hl => ?_)
      refine lv_aload_n hx hb d_F_carry_27 rfl (lv_at hl 3 rfl) ?_
      refine lv_iload_n hx hb d_F_carry_28 rfl (lv_at hl 2 rfl) ?_
      refine lv_lload hx hb d_F_carry_29 (lv_at hl 1 rfl) ?_
      refine lv_lload_n hx hb d_F_carry_31 rfl (lv_at hl 0 rfl) ?_
      refine lv_bipush (v := nI 26) hx hb d_F_carry_32 (by decide +kernel) ?_
      refine sx_lshl hx hb d_F_carry_34 (fun z16 => ?_)
      refine sx_lsub hx hb d_F_carry_35 (fun z17 => ?_)
      refine sx_last hx hb hG hS f0 o0 (sx_in (by omega) (by decide)) d_F_carry_36 (fun H locs hS => ?_)
      refine lv_aload_n hx hb d_F_carry_37 rfl (lv_at hl 3 rfl) ?_
      refine lv_iload_n hx hb d_F_carry_38 rfl (lv_at hl 2 rfl) ?_
      refine lv_iconst (v := nI 1) hx hb d_F_carry_39 (by decide +kernel) ?_
      refine lv_iadd hx hb d_F_carry_40 ?_
      refine sx_ti (y := nI (i2 + 1)) (nI_add _ _) ?_
      refine sx_lald hx hb hG hS f0 (sx_in (by omega) (by decide)) d_F_carry_41 (fun z18 => ?_)
      refine lv_lload_n hx hb d_F_carry_42 rfl (lv_at hl 0 rfl) ?_
      refine sx_ladd hx hb d_F_carry_43 (fun z19 => ?_)
      refine lv_lstore (lv' := [(6, .long z19), (1, .long z15), (4, .long z13), (3, .int (nI (i2))), (0, .ref a0)]) hx hb d_F_carry_44 hl (by decide) rfl (fun ls hl => ?_)
      refine lv_lload hx hb d_F_carry_46 (lv_at hl 0 rfl) ?_
      refine lv_ldc2 (v := (16777216)) hx hb hown (hts (.constantLong R_F 55 (16777216)) (by decide +kernel)) d_F_carry_48 ?_
      refine sx_ladd hx hb d_F_carry_51 (fun z20 => ?_)
      refine lv_bipush (v := nI 25) hx hb d_F_carry_52 (by decide +kernel) ?_
      refine sx_lshr hx hb d_F_carry_54 (fun z21 => ?_)
      refine lv_lstore_n (lv' := [(1, .long z21), (6, .long z19), (4, .long z13), (3, .int (nI (i2))), (0, .ref a0)]) hx hb d_F_carry_55 rfl hl (by decide) rfl (fun ls hl => ?_)
      refine lv_aload_n hx hb d_F_carry_56 rfl (lv_at hl 4 rfl) ?_
      refine lv_iload_n hx hb d_F_carry_57 rfl (lv_at hl 3 rfl) ?_
      refine lv_iconst (v := nI 1) hx hb d_F_carry_58 (by decide +kernel) ?_
      refine lv_iadd hx hb d_F_carry_59 ?_
      refine sx_ti (y := nI (i2 + 1)) (nI_add _ _) ?_
      refine lv_lload hx hb d_F_carry_60 (lv_at hl 1 rfl) ?_
      refine lv_lload_n hx hb d_F_carry_62 rfl (lv_at hl 0 rfl) ?_
      refine lv_bipush (v := nI 25) hx hb d_F_carry_63 (by decide +kernel) ?_
      refine sx_lshl hx hb d_F_carry_65 (fun z22 => ?_)
      refine sx_lsub hx hb d_F_carry_66 (fun z23 => ?_)
      refine sx_last hx hb hG hS f0 o0 (sx_in (by omega) (by decide)) d_F_carry_67 (fun H locs hS => ?_)
      refine lv_iinc (v := nI (i2 + 2)) (lv' := [(3, .int (nI (i2 + 2))), (1, .long z21), (6, .long z19), (4, .long z13), (0, .ref a0)]) hx hb d_F_carry_68 hl (k := 3) rfl (sx_inc _ _) (by decide) rfl (fun ls hl => ?_)
      refine lv_goto (tgt := 4) hx hb d_F_carry_71 (by decide) ?_
      exact ih4 (i2 + 2) z21 _ _ _ (by omega)  hS (lv_sub hl [0, 1, 4] rfl)
  exact lp4 (5) 0 0 _ _ _ (by omega)  hS (lv_sub hl [0, 1, 2] rfl)
