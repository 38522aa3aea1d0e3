abbrev rm_M_copy : Room := { frames := 0, cells := 0, slots := 0, locals := 0 }
set_option maxHeartbeats 4000000 in
set_option maxRecDepth 100000 in
theorem c_M_copy {l : Launch} {D : va_G} {g : ClassId → FieldType → Prop} {E : Nat → Prop} {H0 : Heap} {a0 : Nat} {a1 : Nat} (f0 : sx_A g .long H0 a0 16) (o0 : E a0) (f1 : sx_A g .long H0 a1 16) : Met l y_M_copy (.code y_M_copy b_M_copy 3 none :: G_) rm_M_copy (sx_Pc [.ref a0, .ref a1] H0 D g) (sx_Qv g E H0) 0 0 E := by
  refine sx_mv (own := R_M) (by decide) rfl rfl rfl (Nat.le_of_ble_eq_true rfl) ?_
  intro p e s m args below meth c Q ls EE hl hret
  obtain ⟨hx, hb, hml, hown, hts, hG, hK⟩ := id EE
  have hS : sx_S g E E H0 H0 [] := sx_S.rf
  have hl : lv_has ls 3 [(0, .ref a0), (1, .ref a1)] := hl
  refine lv_iconst (v := nI 0) hx hb d_M_copy_0 (by decide +kernel) ?_
  refine lv_istore_n (lv' := [(2, .int (nI (0))), (0, .ref a0), (1, .ref a1)]) hx hb d_M_copy_1 rfl hl (by decide) rfl (fun ls hl => ?_)
  have lp2 : ∀ (k i1 : Nat) (H : Heap) (locs : List Loc) (ls : Array Slot), i1 + k = 16 → sx_S g E E H0 H locs → lv_has ls 3 [(2, .int (nI (i1))), (0, .ref a0), (1, .ref a1)] → W p l e rm_M_copy s m args below meth c H locs 0 0 Q (F0 m 2 ls []) := by
    intro k
    induction k with
    | zero =>
      intro i1  H locs ls hi  hS hl
      refine lv_iload_n hx hb d_M_copy_2 rfl (lv_at hl 0 rfl) ?_
      refine lv_bipush (v := nI 16) hx hb d_M_copy_3 (by decide +kernel) ?_
      refine lv_icmp_ge (tgt := 20) hx hb d_M_copy_5 (by decide) (fun _ => ?_) (fun q => absurd (nI_le (by omega) (by omega)) q)
      exact hret _ _ _ _ hS d_M_copy_20
    | succ k ih2 =>
      intro i1  H locs ls hi  hS hl
      refine lv_iload_n hx hb d_M_copy_2 rfl (lv_at hl 0 rfl) ?_
      refine lv_bipush (v := nI 16) hx hb d_M_copy_3 (by decide +kernel) ?_
      refine lv_icmp_ge (tgt := 20) hx hb d_M_copy_5 (by decide) (fun q => absurd q (nI_ge (by omega) (by omega))) (fun _ => ?_)
      refine lv_aload_n hx hb d_M_copy_8 rfl (lv_at hl 1 rfl) ?_
      refine lv_iload_n hx hb d_M_copy_9 rfl (lv_at hl 0 rfl) ?_
      refine lv_aload_n hx hb d_M_copy_10 rfl (lv_at hl 2 rfl) ?_
      refine lv_iload_n hx hb d_M_copy_11 rfl (lv_at hl 0 rfl) ?_
      refine sx_lald hx hb hG hS f1 (sx_in (by omega) (by decide)) d_M_copy_12 (fun z2 => ?_)
      refine sx_last hx hb hG hS f0 o0 (sx_in (by omega) (by decide)) d_M_copy_13 (fun H locs hS => ?_)
      refine lv_iinc (v := nI (i1 + 1)) (lv' := [(2, .int (nI (i1 + 1))), (0, .ref a0), (1, .ref a1)]) hx hb d_M_copy_14 hl (k := 0) rfl (sx_inc _ _) (by decide) rfl (fun ls hl => ?_)
      refine lv_goto (tgt := 2) hx hb d_M_copy_17 (by decide) ?_
      exact ih2 (i1 + 1)  _ _ _ (by omega)  hS (lv_sub hl [0, 1, 2] rfl)
  exact lp2 (16) 0  _ _ _ (by omega)  hS (lv_sub hl [0, 1, 2] rfl)
abbrev rm_M_set : Room := { frames := 0, cells := 0, slots := 0, locals := 0 }
set_option maxHeartbeats 4000000 in
set_option maxRecDepth 100000 in
theorem c_M_set {l : Launch} {D : va_G} {g : ClassId → FieldType → Prop} {E : Nat → Prop} {H0 : Heap} {a0 : Nat} {v1 : Int32} (f0 : sx_A g .long H0 a0 16) (o0 : E a0) : Met l y_M_set (.code y_M_set b_M_set 3 none :: G_) rm_M_set (sx_Pc [.ref a0, .int v1] H0 D g) (sx_Qv g E H0) 0 0 E := by
  refine sx_mv (own := R_M) (by decide) rfl rfl rfl (Nat.le_of_ble_eq_true rfl) ?_
  intro p e s m args below meth c Q ls EE hl hret
  obtain ⟨hx, hb, hml, hown, hts, hG, hK⟩ := id EE
  have hS : sx_S g E E H0 H0 [] := sx_S.rf
  have hl : lv_has ls 3 [(0, .ref a0), (1, .int v1)] := hl
  refine lv_iconst (v := nI 0) hx hb d_M_set_0 (by decide +kernel) ?_
  refine lv_istore_n (lv' := [(2, .int (nI (0))), (0, .ref a0), (1, .int v1)]) hx hb d_M_set_1 rfl hl (by decide) rfl (fun ls hl => ?_)
  have lp2 : ∀ (k i1 : Nat) (H : Heap) (locs : List Loc) (ls : Array Slot), i1 + k = 16 → sx_S g E E H0 H locs → lv_has ls 3 [(2, .int (nI (i1))), (0, .ref a0), (1, .int v1)] → W p l e rm_M_set s m args below meth c H locs 0 0 Q (F0 m 2 ls []) := by
    intro k
    induction k with
    | zero =>
      intro i1  H locs ls hi  hS hl
      refine lv_iload_n hx hb d_M_set_2 rfl (lv_at hl 0 rfl) ?_
      refine lv_bipush (v := nI 16) hx hb d_M_set_3 (by decide +kernel) ?_
      refine lv_icmp_ge (tgt := 27) hx hb d_M_set_5 (by decide) (fun _ => ?_) (fun q => absurd (nI_le (by omega) (by omega)) q)
      exact hret _ _ _ _ hS d_M_set_27
    | succ k ih2 =>
      intro i1  H locs ls hi  hS hl
      refine lv_iload_n hx hb d_M_set_2 rfl (lv_at hl 0 rfl) ?_
      refine lv_bipush (v := nI 16) hx hb d_M_set_3 (by decide +kernel) ?_
      refine lv_icmp_ge (tgt := 27) hx hb d_M_set_5 (by decide) (fun q => absurd q (nI_ge (by omega) (by omega))) (fun _ => ?_)
      refine lv_aload_n hx hb d_M_set_8 rfl (lv_at hl 1 rfl) ?_
      refine lv_iload_n hx hb d_M_set_9 rfl (lv_at hl 0 rfl) ?_
      refine lv_iload_n hx hb d_M_set_10 rfl (lv_at hl 0 rfl) ?_
      have jn20_3 : ∀ (w3 : Int64) (H : Heap) (locs : List Loc) (ls : Array Slot), sx_S g E E H0 H locs → lv_has ls 3 [(2, .int (nI (i1))), (0, .ref a0), (1, .int v1)] → W p l e rm_M_set s m args below meth c H locs 0 0 Q (F0 m 20 ls [.long w3, .int (nI (i1)), .ref a0]) := by
        intro w3 H locs ls  hS hl
        refine sx_last hx hb hG hS f0 o0 (sx_in (by omega) (by decide)) d_M_set_20 (fun H locs hS => ?_)
        refine lv_iinc (v := nI (i1 + 1)) (lv' := [(2, .int (nI (i1 + 1))), (0, .ref a0), (1, .int v1)]) hx hb d_M_set_21 hl (k := 0) rfl (sx_inc _ _) (by decide) rfl (fun ls hl => ?_)
        refine lv_goto (tgt := 2) hx hb d_M_set_24 (by decide) ?_
        exact ih2 (i1 + 1)  _ _ _ (by omega)  hS (lv_sub hl [0, 1, 2] rfl)
      refine lv_if_ne (tgt := 19) hx hb d_M_set_11 (by decide) (fun q11 => ?_) (fun q11 => ?_)
      · skip
        have q11 : ¬ (i1 = 0) := fun z => q11 ((nI_eq (a := i1) (b := 0) (by omega) (by omega)).mpr z)
        refine lv_lconst (v := 0) hx hb d_M_set_19 (by decide +kernel) ?_
        exact jn20_3 0 _ _ _  hS (lv_sub hl [0, 1, 2] rfl)
      · skip
        have q11 : i1 = 0 := (nI_eq (a := i1) (b := 0) (by omega) (by omega)).mp q11
        refine lv_iload_n hx hb d_M_set_14 rfl (lv_at hl 2 rfl) ?_
        refine sx_i2l hx hb d_M_set_15 (fun z5 => ?_)
        refine lv_goto (tgt := 20) hx hb d_M_set_16 (by decide) ?_
        exact jn20_3 z5 _ _ _  hS (lv_sub hl [0, 1, 2] rfl)
  exact lp2 (16) 0  _ _ _ (by omega)  hS (lv_sub hl [0, 1, 2] rfl)
abbrev rm_M_zero : Room := { frames := 0, cells := 0, slots := 0, locals := 0 }
set_option maxHeartbeats 4000000 in
set_option maxRecDepth 100000 in
theorem c_M_zero {l : Launch} {D : va_G} {g : ClassId → FieldType → Prop} {E : Nat → Prop} {H0 : Heap} {a0 : Nat} (f0 : sx_A g .long H0 a0 16) : Met l y_M_zero (.code y_M_zero b_M_zero 2 (some .boolean) :: G_) rm_M_zero (sx_Pc [.ref a0] H0 D g) (sx_Qz g E H0) 0 0 E := by
  refine sx_mz (own := R_M) (by decide) rfl rfl rfl (Nat.le_of_ble_eq_true rfl) ?_
  intro p e s m args below meth c Q ls EE hl hret
  obtain ⟨hx, hb, hml, hown, hts, hG, hK⟩ := id EE
  have hS : sx_S g E E H0 H0 [] := sx_S.rf
  have hl : lv_has ls 2 [(0, .ref a0)] := hl
  refine lv_iconst (v := nI 0) hx hb d_M_zero_0 (by decide +kernel) ?_
  refine lv_istore_n (lv' := [(1, .int (nI (0))), (0, .ref a0)]) hx hb d_M_zero_1 rfl hl (by decide) rfl (fun ls hl => ?_)
  have lp2 : ∀ (k i1 : Nat) (H : Heap) (locs : List Loc) (ls : Array Slot), i1 + k = 16 → sx_S g E E H0 H locs → lv_has ls 2 [(1, .int (nI (i1))), (0, .ref a0)] → W p l e rm_M_zero s m args below meth c H locs 0 0 Q (F0 m 2 ls []) := by
    intro k
    induction k with
    | zero =>
      intro i1  H locs ls hi  hS hl
      refine lv_iload_n hx hb d_M_zero_2 rfl (lv_at hl 0 rfl) ?_
      refine lv_bipush (v := nI 16) hx hb d_M_zero_3 (by decide +kernel) ?_
      refine lv_icmp_ge (tgt := 24) hx hb d_M_zero_5 (by decide) (fun _ => ?_) (fun q => absurd (nI_le (by omega) (by omega)) q)
      refine lv_iconst (v := nI 1) hx hb d_M_zero_24 (by decide +kernel) ?_
      exact hret _ _ _ _ (1) (by omega) hS d_M_zero_25
    | succ k ih2 =>
      intro i1  H locs ls hi  hS hl
      refine lv_iload_n hx hb d_M_zero_2 rfl (lv_at hl 0 rfl) ?_
      refine lv_bipush (v := nI 16) hx hb d_M_zero_3 (by decide +kernel) ?_
      refine lv_icmp_ge (tgt := 24) hx hb d_M_zero_5 (by decide) (fun q => absurd q (nI_ge (by omega) (by omega))) (fun _ => ?_)
      refine lv_aload_n hx hb d_M_zero_8 rfl (lv_at hl 1 rfl) ?_
      refine lv_iload_n hx hb d_M_zero_9 rfl (lv_at hl 0 rfl) ?_
      refine sx_lald hx hb hG hS f0 (sx_in (by omega) (by decide)) d_M_zero_10 (fun z2 => ?_)
      refine lv_lconst (v := 0) hx hb d_M_zero_11 (by decide +kernel) ?_
      refine sx_lcmp hx hb d_M_zero_12 (fun z3 => ?_)
      refine lv_if_eq (tgt := 18) hx hb d_M_zero_13 (by decide) (fun _ => ?_) (fun _ => ?_)
      · skip
        refine lv_iinc (v := nI (i1 + 1)) (lv' := [(1, .int (nI (i1 + 1))), (0, .ref a0)]) hx hb d_M_zero_18 hl (k := 0) rfl (sx_inc _ _) (by decide) rfl (fun ls hl => ?_)
        refine lv_goto (tgt := 2) hx hb d_M_zero_21 (by decide) ?_
        exact ih2 (i1 + 1)  _ _ _ (by omega)  hS (lv_sub hl [0, 1] rfl)
      · skip
        refine lv_iconst (v := nI 0) hx hb d_M_zero_16 (by decide +kernel) ?_
        exact hret _ _ _ _ (0) (by omega) hS d_M_zero_17
  exact lp2 (16) 0  _ _ _ (by omega)  hS (lv_sub hl [0, 1] rfl)
abbrev rm_M_below : Room := { frames := 0, cells := 0, slots := 0, locals := 0 }
set_option maxHeartbeats 4000000 in
set_option maxRecDepth 100000 in
theorem c_M_below {l : Launch} {D : va_G} {g : ClassId → FieldType → Prop} {E : Nat → Prop} {H0 : Heap} {a0 : Nat} {a1 : Nat} (f0 : sx_A g .long H0 a0 16) (f1 : sx_A g .long H0 a1 16) : Met l y_M_below (.code y_M_below b_M_below 3 (some .boolean) :: G_) rm_M_below (sx_Pc [.ref a0, .ref a1] H0 D g) (sx_Qz g E H0) 0 0 E := by
  refine sx_mz (own := R_M) (by decide) rfl rfl rfl (Nat.le_of_ble_eq_true rfl) ?_
  intro p e s m args below meth c Q ls EE hl hret
  obtain ⟨hx, hb, hml, hown, hts, hG, hK⟩ := id EE
  have hS : sx_S g E E H0 H0 [] := sx_S.rf
  have hl : lv_has ls 3 [(0, .ref a0), (1, .ref a1)] := hl
  refine lv_bipush (v := nI 15) hx hb d_M_below_0 (by decide +kernel) ?_
  refine lv_istore_n (lv' := [(2, .int (nI (15))), (0, .ref a0), (1, .ref a1)]) hx hb d_M_below_2 rfl hl (by decide) rfl (fun ls hl => ?_)
  have lp3 : ∀ (i1 : Nat) (xi1 : Int32) (H : Heap) (locs : List Loc) (ls : Array Slot), xi1 = nI i1 - 1 → i1 ≤ 15 + 1 → sx_S g E E H0 H locs → lv_has ls 3 [(2, .int xi1), (0, .ref a0), (1, .ref a1)] → W p l e rm_M_below s m args below meth c H locs 0 0 Q (F0 m 3 ls []) := by
    intro i1
    induction i1 with
    | zero =>
      intro xi1  H locs ls ex hi  hS hl
      refine lv_iload_n hx hb d_M_below_3 rfl (lv_at hl 0 rfl) ?_
      refine lv_if_lt (tgt := 39) hx hb d_M_below_4 (by decide) (fun _ => ?_) (fun q => absurd (by rw [ex]; decide +kernel) q)
      refine lv_iconst (v := nI 0) hx hb d_M_below_39 (by decide +kernel) ?_
      exact hret _ _ _ _ (0) (by omega) hS d_M_below_40
    | succ i1 ih3 =>
      intro xi1  H locs ls ex hi  hS hl
      rw [nI_pred] at ex
      subst ex
      refine lv_iload_n hx hb d_M_below_3 rfl (lv_at hl 0 rfl) ?_
      refine lv_if_lt (tgt := 39) hx hb d_M_below_4 (by decide) (fun q => absurd q (nI_pos (by omega))) (fun _ => ?_)
      refine lv_aload_n hx hb d_M_below_7 rfl (lv_at hl 1 rfl) ?_
      refine lv_iload_n hx hb d_M_below_8 rfl (lv_at hl 0 rfl) ?_
      refine sx_lald hx hb hG hS f0 (sx_in (by omega) (by decide)) d_M_below_9 (fun z2 => ?_)
      refine lv_aload_n hx hb d_M_below_10 rfl (lv_at hl 2 rfl) ?_
      refine lv_iload_n hx hb d_M_below_11 rfl (lv_at hl 0 rfl) ?_
      refine sx_lald hx hb hG hS f1 (sx_in (by omega) (by decide)) d_M_below_12 (fun z3 => ?_)
      refine sx_lcmp hx hb d_M_below_13 (fun z4 => ?_)
      refine lv_if_eq (tgt := 33) hx hb d_M_below_14 (by decide) (fun _ => ?_) (fun _ => ?_)
      · skip
        refine lv_iinc (v := nI i1 - 1) (lv' := [(2, .int (nI i1 - 1)), (0, .ref a0), (1, .ref a1)]) hx hb d_M_below_33 hl (k := 0) rfl (sx_dn _) (by decide) rfl (fun ls hl => ?_)
        refine lv_goto (tgt := 3) hx hb d_M_below_36 (by decide) ?_
        exact ih3 _  _ _ _ rfl (by omega)  hS (lv_sub hl [0, 1, 2] rfl)
      · skip
        refine lv_aload_n hx hb d_M_below_17 rfl (lv_at hl 1 rfl) ?_
        refine lv_iload_n hx hb d_M_below_18 rfl (lv_at hl 0 rfl) ?_
        refine sx_lald hx hb hG hS f0 (sx_in (by omega) (by decide)) d_M_below_19 (fun z5 => ?_)
        refine lv_aload_n hx hb d_M_below_20 rfl (lv_at hl 2 rfl) ?_
        refine lv_iload_n hx hb d_M_below_21 rfl (lv_at hl 0 rfl) ?_
        refine sx_lald hx hb hG hS f1 (sx_in (by omega) (by decide)) d_M_below_22 (fun z6 => ?_)
        refine sx_lcmp hx hb d_M_below_23 (fun z7 => ?_)
        have jn32_8 : ∀ (n8 : Nat) (H : Heap) (locs : List Loc) (ls : Array Slot), n8 ≤ 1 → sx_S g E E H0 H locs → lv_has ls 3 [(2, .int (nI (i1))), (0, .ref a0), (1, .ref a1)] → W p l e rm_M_below s m args below meth c H locs 0 0 Q (F0 m 32 ls [.int (nI (n8))]) := by
          intro n8 H locs ls h_n8 hS hl
          exact hret _ _ _ _ (n8) (by omega) hS d_M_below_32
        refine lv_if_ge (tgt := 31) hx hb d_M_below_24 (by decide) (fun _ => ?_) (fun _ => ?_)
        · skip
          refine lv_iconst (v := nI 0) hx hb d_M_below_31 (by decide +kernel) ?_
          exact jn32_8 0 _ _ _ (by omega) hS (lv_sub hl [0, 1, 2] rfl)
        · skip
          refine lv_iconst (v := nI 1) hx hb d_M_below_27 (by decide +kernel) ?_
          refine lv_goto (tgt := 32) hx hb d_M_below_28 (by decide) ?_
          exact jn32_8 1 _ _ _ (by omega) hS (lv_sub hl [0, 1, 2] rfl)
  exact lp3 16 _  _ _ _ (nI_pred _).symm (by omega)  hS (lv_sub hl [0, 1, 2] rfl)
abbrev rm_M_alike : Room := { frames := 0, cells := 0, slots := 0, locals := 0 }
set_option maxHeartbeats 4000000 in
set_option maxRecDepth 100000 in
theorem c_M_alike {l : Launch} {D : va_G} {g : ClassId → FieldType → Prop} {E : Nat → Prop} {H0 : Heap} {a0 : Nat} {a1 : Nat} (f0 : sx_A g .long H0 a0 16) (f1 : sx_A g .long H0 a1 16) : Met l y_M_alike (.code y_M_alike b_M_alike 3 (some .boolean) :: G_) rm_M_alike (sx_Pc [.ref a0, .ref a1] H0 D g) (sx_Qz g E H0) 0 0 E := by
  refine sx_mz (own := R_M) (by decide) rfl rfl rfl (Nat.le_of_ble_eq_true rfl) ?_
  intro p e s m args below meth c Q ls EE hl hret
  obtain ⟨hx, hb, hml, hown, hts, hG, hK⟩ := id EE
  have hS : sx_S g E E H0 H0 [] := sx_S.rf
  have hl : lv_has ls 3 [(0, .ref a0), (1, .ref a1)] := hl
  refine lv_iconst (v := nI 0) hx hb d_M_alike_0 (by decide +kernel) ?_
  refine lv_istore_n (lv' := [(2, .int (nI (0))), (0, .ref a0), (1, .ref a1)]) hx hb d_M_alike_1 rfl hl (by decide) rfl (fun ls hl => ?_)
  have lp2 : ∀ (k i1 : Nat) (H : Heap) (locs : List Loc) (ls : Array Slot), i1 + k = 16 → sx_S g E E H0 H locs → lv_has ls 3 [(2, .int (nI (i1))), (0, .ref a0), (1, .ref a1)] → W p l e rm_M_alike s m args below meth c H locs 0 0 Q (F0 m 2 ls []) := by
    intro k
    induction k with
    | zero =>
      intro i1  H locs ls hi  hS hl
      refine lv_iload_n hx hb d_M_alike_2 rfl (lv_at hl 0 rfl) ?_
      refine lv_bipush (v := nI 16) hx hb d_M_alike_3 (by decide +kernel) ?_
      refine lv_icmp_ge (tgt := 26) hx hb d_M_alike_5 (by decide) (fun _ => ?_) (fun q => absurd (nI_le (by omega) (by omega)) q)
      refine lv_iconst (v := nI 1) hx hb d_M_alike_26 (by decide +kernel) ?_
      exact hret _ _ _ _ (1) (by omega) hS d_M_alike_27
    | succ k ih2 =>
      intro i1  H locs ls hi  hS hl
      refine lv_iload_n hx hb d_M_alike_2 rfl (lv_at hl 0 rfl) ?_
      refine lv_bipush (v := nI 16) hx hb d_M_alike_3 (by decide +kernel) ?_
      refine lv_icmp_ge (tgt := 26) hx hb d_M_alike_5 (by decide) (fun q => absurd q (nI_ge (by omega) (by omega))) (fun _ => ?_)
      refine lv_aload_n hx hb d_M_alike_8 rfl (lv_at hl 1 rfl) ?_
      refine lv_iload_n hx hb d_M_alike_9 rfl (lv_at hl 0 rfl) ?_
      refine sx_lald hx hb hG hS f0 (sx_in (by omega) (by decide)) d_M_alike_10 (fun z2 => ?_)
      refine lv_aload_n hx hb d_M_alike_11 rfl (lv_at hl 2 rfl) ?_
      refine lv_iload_n hx hb d_M_alike_12 rfl (lv_at hl 0 rfl) ?_
      refine sx_lald hx hb hG hS f1 (sx_in (by omega) (by decide)) d_M_alike_13 (fun z3 => ?_)
      refine sx_lcmp hx hb d_M_alike_14 (fun z4 => ?_)
      refine lv_if_eq (tgt := 20) hx hb d_M_alike_15 (by decide) (fun _ => ?_) (fun _ => ?_)
      · skip
        refine lv_iinc (v := nI (i1 + 1)) (lv' := [(2, .int (nI (i1 + 1))), (0, .ref a0), (1, .ref a1)]) hx hb d_M_alike_20 hl (k := 0) rfl (sx_inc _ _) (by decide) rfl (fun ls hl => ?_)
        refine lv_goto (tgt := 2) hx hb d_M_alike_23 (by decide) ?_
        exact ih2 (i1 + 1)  _ _ _ (by omega)  hS (lv_sub hl [0, 1, 2] rfl)
      · skip
        refine lv_iconst (v := nI 0) hx hb d_M_alike_18 (by decide +kernel) ?_
        exact hret _ _ _ _ (0) (by omega) hS d_M_alike_19
  exact lp2 (16) 0  _ _ _ (by omega)  hS (lv_sub hl [0, 1, 2] rfl)
abbrev rm_M_less : Room := { frames := 0, cells := 0, slots := 0, locals := 0 }
set_option maxHeartbeats 4000000 in
set_option maxRecDepth 100000 in
theorem c_M_less {l : Launch} {D : va_G} {g : ClassId → FieldType → Prop} {E : Nat → Prop} {H0 : Heap} {a0 : Nat} {a1 : Nat} {a2 : Nat} (f0 : sx_A g .long H0 a0 16) (o0 : E a0) (f1 : sx_A g .long H0 a1 16) (f2 : sx_A g .long H0 a2 16) : Met l y_M_less (.code y_M_less b_M_less 8 none :: G_) rm_M_less (sx_Pc [.ref a0, .ref a1, .ref a2] H0 D g) (sx_Qv g E H0) 0 0 E := by
  refine sx_mv (own := R_M) (by decide) rfl rfl rfl (Nat.le_of_ble_eq_true rfl) ?_
  intro p e s m args below meth c Q ls EE hl hret
  obtain ⟨hx, hb, hml, hown, hts, hG, hK⟩ := id EE
  have hS : sx_S g E E H0 H0 [] := sx_S.rf
  have hl : lv_has ls 8 [(0, .ref a0), (1, .ref a1), (2, .ref a2)] := hl
  refine lv_lconst (v := 0) hx hb d_M_less_0 (by decide +kernel) ?_
  refine lv_lstore_n (lv' := [(3, .long 0), (0, .ref a0), (1, .ref a1), (2, .ref a2)]) hx hb d_M_less_1 rfl hl (by decide) rfl (fun ls hl => ?_)
  refine lv_iconst (v := nI 0) hx hb d_M_less_2 (by decide +kernel) ?_
  refine lv_istore (lv' := [(5, .int (nI (0))), (3, .long 0), (0, .ref a0), (1, .ref a1), (2, .ref a2)]) hx hb d_M_less_3 hl (by decide) rfl (fun ls hl => ?_)
  have lp5 : ∀ (k i2 : Nat) (w1 : Int64) (H : Heap) (locs : List Loc) (ls : Array Slot), i2 + k = 16 → sx_S g E E H0 H locs → lv_has ls 8 [(5, .int (nI (i2))), (3, .long w1), (0, .ref a0), (1, .ref a1), (2, .ref a2)] → W p l e rm_M_less s m args below meth c H locs 0 0 Q (F0 m 5 ls []) := by
    intro k
    induction k with
    | zero =>
      intro i2 w1 H locs ls hi  hS hl
      refine lv_iload hx hb d_M_less_5 (lv_at hl 0 rfl) ?_
      refine lv_bipush (v := nI 16) hx hb d_M_less_7 (by decide +kernel) ?_
      refine lv_icmp_ge (tgt := 54) hx hb d_M_less_9 (by decide) (fun _ => ?_) (fun q => absurd (nI_le (by omega) (by omega)) q)
      exact hret _ _ _ _ hS d_M_less_54
    | succ k ih5 =>
      intro i2 w1 H locs ls hi  hS hl
      refine lv_iload hx hb d_M_less_5 (lv_at hl 0 rfl) ?_
      refine lv_bipush (v := nI 16) hx hb d_M_less_7 (by decide +kernel) ?_
      refine lv_icmp_ge (tgt := 54) hx hb d_M_less_9 (by decide) (fun q => absurd q (nI_ge (by omega) (by omega))) (fun _ => ?_)
      refine lv_aload_n hx hb d_M_less_12 rfl (lv_at hl 3 rfl) ?_
      refine lv_iload hx hb d_M_less_13 (lv_at hl 0 rfl) ?_
      refine sx_lald hx hb hG hS f1 (sx_in (by omega) (by decide)) d_M_less_15 (fun z3 => ?_)
      refine lv_aload_n hx hb d_M_less_16 rfl (lv_at hl 4 rfl) ?_
      refine lv_iload hx hb d_M_less_17 (lv_at hl 0 rfl) ?_
      refine sx_lald hx hb hG hS f2 (sx_in (by omega) (by decide)) d_M_less_19 (fun z4 => ?_)
      refine sx_lsub hx hb d_M_less_20 (fun z5 => ?_)
      refine lv_lload_n hx hb d_M_less_21 rfl (lv_at hl 1 rfl) ?_
      refine sx_lsub hx hb d_M_less_22 (fun z6 => ?_)
      refine lv_lstore (lv' := [(6, .long z6), (5, .int (nI (i2))), (3, .long w1), (0, .ref a0), (1, .ref a1), (2, .ref a2)]) hx hb d_M_less_23 hl (by decide) rfl (fun ls hl => ?_)
      refine lv_lload hx hb d_M_less_25 (lv_at hl 0 rfl) ?_
      refine lv_lconst (v := 0) hx hb d_M_less_27 (by decide +kernel) ?_
      refine sx_lcmp hx hb d_M_less_28 (fun z7 => ?_)
      have jn37_8 : ∀ (w8 : Int64) (H : Heap) (locs : List Loc) (ls : Array Slot), sx_S g E E H0 H locs → lv_has ls 8 [(6, .long z6), (5, .int (nI (i2))), (3, .long w1), (0, .ref a0), (1, .ref a1), (2, .ref a2)] → W p l e rm_M_less s m args below meth c H locs 0 0 Q (F0 m 37 ls [.long w8]) := by
        intro w8 H locs ls  hS hl
        refine lv_lstore_n (lv' := [(3, .long w8), (6, .long z6), (5, .int (nI (i2))), (0, .ref a0), (1, .ref a1), (2, .ref a2)]) hx hb d_M_less_37 rfl hl (by decide) rfl (fun ls hl => ?_)
        refine lv_aload_n hx hb d_M_less_38 rfl (lv_at hl 3 rfl) ?_
        refine lv_iload hx hb d_M_less_39 (lv_at hl 2 rfl) ?_
        refine lv_lload hx hb d_M_less_41 (lv_at hl 1 rfl) ?_
        refine lv_ldc2 (v := (65535)) hx hb hown (hts (.constantLong R_M 169 (65535)) (by decide +kernel)) d_M_less_43 ?_
        refine sx_land hx hb d_M_less_46 (fun z10 => ?_)
        refine sx_last hx hb hG hS f0 o0 (sx_in (by omega) (by decide)) d_M_less_47 (fun H locs hS => ?_)
        refine lv_iinc (v := nI (i2 + 1)) (lv' := [(5, .int (nI (i2 + 1))), (3, .long w8), (6, .long z6), (0, .ref a0), (1, .ref a1), (2, .ref a2)]) hx hb d_M_less_48 hl (k := 2) rfl (sx_inc _ _) (by decide) rfl (fun ls hl => ?_)
        refine lv_goto (tgt := 5) hx hb d_M_less_51 (by decide) ?_
        exact ih5 (i2 + 1) w8 _ _ _ (by omega)  hS (lv_sub hl [0, 1, 3, 4, 5] rfl)
      refine lv_if_ge (tgt := 36) hx hb d_M_less_29 (by decide) (fun _ => ?_) (fun _ => ?_)
      · skip
        refine lv_lconst (v := 0) hx hb d_M_less_36 (by decide +kernel) ?_
        exact jn37_8 0 _ _ _  hS (lv_sub hl [0, 1, 2, 3, 4, 5] rfl)
      · skip
        refine lv_lconst (v := 1) hx hb d_M_less_32 (by decide +kernel) ?_
        refine lv_goto (tgt := 37) hx hb d_M_less_33 (by decide) ?_
        exact jn37_8 1 _ _ _  hS (lv_sub hl [0, 1, 2, 3, 4, 5] rfl)
  exact lp5 (16) 0 0 _ _ _ (by omega)  hS (lv_sub hl [0, 1, 2, 3, 4] rfl)
abbrev rm_M_plus : Room := { frames := 1, cells := 0, slots := 0, locals := 27 }
set_option maxHeartbeats 4000000 in
set_option maxRecDepth 100000 in
theorem c_M_plus {l : Launch} {D : va_G} {g : ClassId → FieldType → Prop} {E : Nat → Prop} {H0 : Heap} {a0 : Nat} {a1 : Nat} {a2 : Nat} {a3 : Nat} (f0 : sx_A g .long H0 a0 16) (o0 : E a0) (f1 : sx_A g .long H0 a1 16) (f2 : sx_A g .long H0 a2 16) (f3 : sx_A g .long H0 a3 16) : Met l y_M_plus (.code y_M_plus b_M_plus 7 none :: G_) rm_M_plus (sx_Pc [.ref a0, .ref a1, .ref a2, .ref a3] H0 D g) (sx_Qv g E H0) 0 0 E := by
  refine sx_mv (own := R_M) (by decide) rfl rfl rfl (Nat.le_of_ble_eq_true rfl) ?_
  intro p e s m args below meth c Q ls EE hl hret
  obtain ⟨hx, hb, hml, hown, hts, hG, hK⟩ := id EE
  have hS : sx_S g E E H0 H0 [] := sx_S.rf
  have hl : lv_has ls 7 [(0, .ref a0), (1, .ref a1), (2, .ref a2), (3, .ref a3)] := hl
  refine lv_lconst (v := 0) hx hb d_M_plus_0 (by decide +kernel) ?_
  refine lv_lstore (lv' := [(4, .long 0), (0, .ref a0), (1, .ref a1), (2, .ref a2), (3, .ref a3)]) hx hb d_M_plus_1 hl (by decide) rfl (fun ls hl => ?_)
  refine lv_iconst (v := nI 0) hx hb d_M_plus_3 (by decide +kernel) ?_
  refine lv_istore (lv' := [(6, .int (nI (0))), (4, .long 0), (0, .ref a0), (1, .ref a1), (2, .ref a2), (3, .ref a3)]) hx hb d_M_plus_4 hl (by decide) rfl (fun ls hl => ?_)
  have lp6 : ∀ (k i2 : Nat) (w1 : Int64) (H : Heap) (locs : List Loc) (ls : Array Slot), i2 + k = 16 → sx_S g E E H0 H locs → lv_has ls 7 [(6, .int (nI (i2))), (4, .long w1), (0, .ref a0), (1, .ref a1), (2, .ref a2), (3, .ref a3)] → W p l e rm_M_plus s m args below meth c H locs 0 0 Q (F0 m 6 ls []) := by
    intro k
    induction k with
    | zero =>
      intro i2 w1 H locs ls hi  hS hl
      refine lv_iload hx hb d_M_plus_6 (lv_at hl 0 rfl) ?_
      refine lv_bipush (v := nI 16) hx hb d_M_plus_8 (by decide +kernel) ?_
      refine lv_icmp_ge (tgt := 50) hx hb d_M_plus_10 (by decide) (fun _ => ?_) (fun q => absurd (nI_le (by omega) (by omega)) q)
      refine lv_lload hx hb d_M_plus_50 (lv_at hl 1 rfl) ?_
      refine lv_lconst (v := 0) hx hb d_M_plus_52 (by decide +kernel) ?_
      refine sx_lcmp hx hb d_M_plus_53 (fun z3 => ?_)
      have jn71_4 : ∀ (H : Heap) (locs : List Loc) (ls : Array Slot), sx_S g E E H0 H locs → lv_has ls 7 [(6, .int (nI (i2))), (4, .long w1), (0, .ref a0), (1, .ref a1), (2, .ref a2), (3, .ref a3)] → W p l e rm_M_plus s m args below meth c H locs 0 0 Q (F0 m 71 ls []) := by
        intro  H locs ls  hS hl
        exact hret _ _ _ _ hS d_M_plus_71
      refine lv_if_gt (tgt := 65) hx hb d_M_plus_54 (by decide) (fun _ => ?_) (fun _ => ?_)
      · skip
        refine lv_aload_n hx hb d_M_plus_65 rfl (lv_at hl 2 rfl) ?_
        refine lv_aload_n hx hb d_M_plus_66 rfl (lv_at hl 2 rfl) ?_
        refine lv_aload_n hx hb d_M_plus_67 rfl (lv_at hl 5 rfl) ?_
        refine sx_gv (sx_runS (As := [.ref a0, .ref a0, .ref a3]) (rest := []) EE (c_M_less (hS.a f0) o0 (hS.a f0) (hS.a f3)) w_M_219 rfl ⟨rfl, rfl⟩ ⟨Nat.le_of_ble_eq_true rfl, Nat.le_of_ble_eq_true rfl⟩ ⟨Nat.zero_le _, Nat.zero_le _⟩ hl.1 rfl (Nat.le_of_ble_eq_true rfl) d_M_plus_68) hS (fun H locs hS => ?_)
        exact jn71_4  _ _ _  hS (lv_sub hl [0, 1, 2, 3, 4, 5] rfl)
      · skip
        refine lv_aload_n hx hb d_M_plus_57 rfl (lv_at hl 2 rfl) ?_
        refine lv_aload_n hx hb d_M_plus_58 rfl (lv_at hl 5 rfl) ?_
        refine sx_gn (sx_runS (As := [.ref a0, .ref a3]) (rest := []) EE (c_M_below (hS.a f0) (hS.a f3)) w_M_215 rfl ⟨rfl, rfl⟩ ⟨Nat.le_of_ble_eq_true rfl, Nat.le_of_ble_eq_true rfl⟩ ⟨Nat.zero_le _, Nat.zero_le _⟩ hl.1 rfl (Nat.le_of_ble_eq_true rfl) d_M_plus_59) hS (fun n6 h_n6 H locs hS => ?_)
        have h_n6 : n6 ≤ 1 := h_n6
        refine lv_if_ne (tgt := 71) hx hb d_M_plus_62 (by decide) (fun q62 => ?_) (fun q62 => ?_)
        · skip
          have q62 : ¬ (n6 = 0) := fun z => q62 ((nI_eq (a := n6) (b := 0) (by omega) (by omega)).mpr z)
          exact jn71_4  _ _ _  hS (lv_sub hl [0, 1, 2, 3, 4, 5] rfl)
        · skip
          have q62 : n6 = 0 := (nI_eq (a := n6) (b := 0) (by omega) (by omega)).mp q62
          refine lv_aload_n hx hb d_M_plus_65 rfl (lv_at hl 2 rfl) ?_
          refine lv_aload_n hx hb d_M_plus_66 rfl (lv_at hl 2 rfl) ?_
          refine lv_aload_n hx hb d_M_plus_67 rfl (lv_at hl 5 rfl) ?_
          refine sx_gv (sx_runS (As := [.ref a0, .ref a0, .ref a3]) (rest := []) EE (c_M_less (hS.a f0) o0 (hS.a f0) (hS.a f3)) w_M_219 rfl ⟨rfl, rfl⟩ ⟨Nat.le_of_ble_eq_true rfl, Nat.le_of_ble_eq_true rfl⟩ ⟨Nat.zero_le _, Nat.zero_le _⟩ hl.1 rfl (Nat.le_of_ble_eq_true rfl) d_M_plus_68) hS (fun H locs hS => ?_)
          exact jn71_4  _ _ _  hS (lv_sub hl [0, 1, 2, 3, 4, 5] rfl)
    | succ k ih6 =>
      intro i2 w1 H locs ls hi  hS hl
      refine lv_iload hx hb d_M_plus_6 (lv_at hl 0 rfl) ?_
      refine lv_bipush (v := nI 16) hx hb d_M_plus_8 (by decide +kernel) ?_
      refine lv_icmp_ge (tgt := 50) hx hb d_M_plus_10 (by decide) (fun q => absurd q (nI_ge (by omega) (by omega))) (fun _ => ?_)
      refine lv_lload hx hb d_M_plus_13 (lv_at hl 1 rfl) ?_
      refine lv_aload_n hx hb d_M_plus_15 rfl (lv_at hl 3 rfl) ?_
      refine lv_iload hx hb d_M_plus_16 (lv_at hl 0 rfl) ?_
      refine sx_lald hx hb hG hS f1 (sx_in (by omega) (by decide)) d_M_plus_18 (fun z7 => ?_)
      refine lv_aload_n hx hb d_M_plus_19 rfl (lv_at hl 4 rfl) ?_
      refine lv_iload hx hb d_M_plus_20 (lv_at hl 0 rfl) ?_
      refine sx_lald hx hb hG hS f2 (sx_in (by omega) (by decide)) d_M_plus_22 (fun z8 => ?_)
      refine sx_ladd hx hb d_M_plus_23 (fun z9 => ?_)
      refine sx_ladd hx hb d_M_plus_24 (fun z10 => ?_)
      refine lv_lstore (lv' := [(4, .long z10), (6, .int (nI (i2))), (0, .ref a0), (1, .ref a1), (2, .ref a2), (3, .ref a3)]) hx hb d_M_plus_25 hl (by decide) rfl (fun ls hl => ?_)
      refine lv_aload_n hx hb d_M_plus_27 rfl (lv_at hl 2 rfl) ?_
      refine lv_iload hx hb d_M_plus_28 (lv_at hl 1 rfl) ?_
      refine lv_lload hx hb d_M_plus_30 (lv_at hl 0 rfl) ?_
      refine lv_ldc2 (v := (65535)) hx hb hown (hts (.constantLong R_M 169 (65535)) (by decide +kernel)) d_M_plus_32 ?_
      refine sx_land hx hb d_M_plus_35 (fun z11 => ?_)
      refine sx_last hx hb hG hS f0 o0 (sx_in (by omega) (by decide)) d_M_plus_36 (fun H locs hS => ?_)
      refine lv_lload hx hb d_M_plus_37 (lv_at hl 0 rfl) ?_
      refine lv_bipush (v := nI 16) hx hb d_M_plus_39 (by decide +kernel) ?_
      refine sx_lshr hx hb d_M_plus_41 (fun z12 => ?_)
      refine lv_lstore (lv' := [(4, .long z12), (6, .int (nI (i2))), (0, .ref a0), (1, .ref a1), (2, .ref a2), (3, .ref a3)]) hx hb d_M_plus_42 hl (by decide) rfl (fun ls hl => ?_)
      refine lv_iinc (v := nI (i2 + 1)) (lv' := [(6, .int (nI (i2 + 1))), (4, .long z12), (0, .ref a0), (1, .ref a1), (2, .ref a2), (3, .ref a3)]) hx hb d_M_plus_44 hl (k := 1) rfl (sx_inc _ _) (by decide) rfl (fun ls hl => ?_)
      refine lv_goto (tgt := 6) hx hb d_M_plus_47 (by decide) ?_
      exact ih6 (i2 + 1) z12 _ _ _ (by omega)  hS (lv_sub hl [0, 1, 2, 3, 4, 5] rfl)
  exact lp6 (16) 0 0 _ _ _ (by omega)  hS (lv_sub hl [0, 1, 2, 3, 4, 5] rfl)
abbrev rm_M_minus : Room := { frames := 0, cells := 0, slots := 0, locals := 0 }
set_option maxHeartbeats 4000000 in
set_option maxRecDepth 100000 in
theorem c_M_minus {l : Launch} {D : va_G} {g : ClassId → FieldType → Prop} {E : Nat → Prop} {H0 : Heap} {a0 : Nat} {a1 : Nat} {a2 : Nat} {a3 : Nat} (f0 : sx_A g .long H0 a0 16) (o0 : E a0) (f1 : sx_A g .long H0 a1 16) (f2 : sx_A g .long H0 a2 16) (f3 : sx_A g .long H0 a3 16) : Met l y_M_minus (.code y_M_minus b_M_minus 9 none :: G_) rm_M_minus (sx_Pc [.ref a0, .ref a1, .ref a2, .ref a3] H0 D g) (sx_Qv g E H0) 0 0 E := by
  refine sx_mv (own := R_M) (by decide) rfl rfl rfl (Nat.le_of_ble_eq_true rfl) ?_
  intro p e s m args below meth c Q ls EE hl hret
  obtain ⟨hx, hb, hml, hown, hts, hG, hK⟩ := id EE
  have hS : sx_S g E E H0 H0 [] := sx_S.rf
  have hl : lv_has ls 9 [(0, .ref a0), (1, .ref a1), (2, .ref a2), (3, .ref a3)] := hl
  refine lv_lconst (v := 0) hx hb d_M_minus_0 (by decide +kernel) ?_
  refine lv_lstore (lv' := [(4, .long 0), (0, .ref a0), (1, .ref a1), (2, .ref a2), (3, .ref a3)]) hx hb d_M_minus_1 hl (by decide) rfl (fun ls hl => ?_)
  refine lv_iconst (v := nI 0) hx hb d_M_minus_3 (by decide +kernel) ?_
  refine lv_istore (lv' := [(6, .int (nI (0))), (4, .long 0), (0, .ref a0), (1, .ref a1), (2, .ref a2), (3, .ref a3)]) hx hb d_M_minus_4 hl (by decide) rfl (fun ls hl => ?_)
  have lp6 : ∀ (k i2 : Nat) (w1 : Int64) (H : Heap) (locs : List Loc) (ls : Array Slot), i2 + k = 16 → sx_S g E E H0 H locs → lv_has ls 9 [(6, .int (nI (i2))), (4, .long w1), (0, .ref a0), (1, .ref a1), (2, .ref a2), (3, .ref a3)] → W p l e rm_M_minus s m args below meth c H locs 0 0 Q (F0 m 6 ls []) := by
    intro k
    induction k with
    | zero =>
      intro i2 w1 H locs ls hi  hS hl
      refine lv_iload hx hb d_M_minus_6 (lv_at hl 0 rfl) ?_
      refine lv_bipush (v := nI 16) hx hb d_M_minus_8 (by decide +kernel) ?_
      refine lv_icmp_ge (tgt := 57) hx hb d_M_minus_10 (by decide) (fun _ => ?_) (fun q => absurd (nI_le (by omega) (by omega)) q)
      refine lv_lload hx hb d_M_minus_57 (lv_at hl 1 rfl) ?_
      refine lv_lconst (v := 0) hx hb d_M_minus_59 (by decide +kernel) ?_
      refine sx_lcmp hx hb d_M_minus_60 (fun z3 => ?_)
      refine lv_if_ne (tgt := 65) hx hb d_M_minus_61 (by decide) (fun _ => ?_) (fun _ => ?_)
      · skip
        refine lv_lconst (v := 0) hx hb d_M_minus_65 (by decide +kernel) ?_
        refine lv_lstore (lv' := [(6, .long 0), (4, .long w1), (0, .ref a0), (1, .ref a1), (2, .ref a2), (3, .ref a3)]) hx hb d_M_minus_66 hl (by decide) rfl (fun ls hl => ?_)
        refine lv_iconst (v := nI 0) hx hb d_M_minus_68 (by decide +kernel) ?_
        refine lv_istore (lv' := [(8, .int (nI (0))), (6, .long 0), (4, .long w1), (0, .ref a0), (1, .ref a1), (2, .ref a2), (3, .ref a3)]) hx hb d_M_minus_69 hl (by decide) rfl (fun ls hl => ?_)
        have lp71 : ∀ (k i5 : Nat) (w4 : Int64) (H : Heap) (locs : List Loc) (ls : Array Slot), i5 + k = 16 → sx_S g E E H0 H locs → lv_has ls 9 [(8, .int (nI (i5))), (6, .long w4), (4, .long w1), (0, .ref a0), (1, .ref a1), (2, .ref a2), (3, .ref a3)] → W p l e rm_M_minus s m args below meth c H locs 0 0 Q (F0 m 71 ls []) := by
          intro k
          induction k with
          | zero =>
            intro i5 w4 H locs ls hi  hS hl
            refine lv_iload hx hb d_M_minus_71 (lv_at hl 0 rfl) ?_
            refine lv_bipush (v := nI 16) hx hb d_M_minus_73 (by decide +kernel) ?_
            refine lv_icmp_ge (tgt := 115) hx hb d_M_minus_75 (by decide) (fun _ => ?_) (fun q => absurd (nI_le (by omega) (by omega)) q)
            exact hret _ _ _ _ hS d_M_minus_115
          | succ k ih71 =>
            intro i5 w4 H locs ls hi  hS hl
            refine lv_iload hx hb d_M_minus_71 (lv_at hl 0 rfl) ?_
            refine lv_bipush (v := nI 16) hx hb d_M_minus_73 (by decide +kernel) ?_
            refine lv_icmp_ge (tgt := 115) hx hb d_M_minus_75 (by decide) (fun q => absurd q (nI_ge (by omega) (by omega))) (fun _ => ?_)
            refine lv_lload hx hb d_M_minus_78 (lv_at hl 1 rfl) ?_
            refine lv_aload_n hx hb d_M_minus_80 rfl (lv_at hl 3 rfl) ?_
            refine lv_iload hx hb d_M_minus_81 (lv_at hl 0 rfl) ?_
            refine sx_lald hx hb hG hS f0 (sx_in (by omega) (by decide)) d_M_minus_83 (fun z6 => ?_)
            refine lv_aload_n hx hb d_M_minus_84 rfl (lv_at hl 6 rfl) ?_
            refine lv_iload hx hb d_M_minus_85 (lv_at hl 0 rfl) ?_
            refine sx_lald hx hb hG hS f3 (sx_in (by omega) (by decide)) d_M_minus_87 (fun z7 => ?_)
            refine sx_ladd hx hb d_M_minus_88 (fun z8 => ?_)
            refine sx_ladd hx hb d_M_minus_89 (fun z9 => ?_)
            refine lv_lstore (lv' := [(6, .long z9), (8, .int (nI (i5))), (4, .long w1), (0, .ref a0), (1, .ref a1), (2, .ref a2), (3, .ref a3)]) hx hb d_M_minus_90 hl (by decide) rfl (fun ls hl => ?_)
            refine lv_aload_n hx hb d_M_minus_92 rfl (lv_at hl 3 rfl) ?_
            refine lv_iload hx hb d_M_minus_93 (lv_at hl 1 rfl) ?_
            refine lv_lload hx hb d_M_minus_95 (lv_at hl 0 rfl) ?_
            refine lv_ldc2 (v := (65535)) hx hb hown (hts (.constantLong R_M 169 (65535)) (by decide +kernel)) d_M_minus_97 ?_
            refine sx_land hx hb d_M_minus_100 (fun z10 => ?_)
            refine sx_last hx hb hG hS f0 o0 (sx_in (by omega) (by decide)) d_M_minus_101 (fun H locs hS => ?_)
            refine lv_lload hx hb d_M_minus_102 (lv_at hl 0 rfl) ?_
            refine lv_bipush (v := nI 16) hx hb d_M_minus_104 (by decide +kernel) ?_
            refine sx_lshr hx hb d_M_minus_106 (fun z11 => ?_)
            refine lv_lstore (lv' := [(6, .long z11), (8, .int (nI (i5))), (4, .long w1), (0, .ref a0), (1, .ref a1), (2, .ref a2), (3, .ref a3)]) hx hb d_M_minus_107 hl (by decide) rfl (fun ls hl => ?_)
            refine lv_iinc (v := nI (i5 + 1)) (lv' := [(8, .int (nI (i5 + 1))), (6, .long z11), (4, .long w1), (0, .ref a0), (1, .ref a1), (2, .ref a2), (3, .ref a3)]) hx hb d_M_minus_109 hl (k := 1) rfl (sx_inc _ _) (by decide) rfl (fun ls hl => ?_)
            refine lv_goto (tgt := 71) hx hb d_M_minus_112 (by decide) ?_
            exact ih71 (i5 + 1) z11 _ _ _ (by omega)  hS (lv_sub hl [0, 1, 2, 3, 4, 5, 6] rfl)
        exact lp71 (16) 0 0 _ _ _ (by omega)  hS (lv_sub hl [0, 1, 2, 3, 4, 5, 6] rfl)
      · skip
        exact hret _ _ _ _ hS d_M_minus_64
    | succ k ih6 =>
      intro i2 w1 H locs ls hi  hS hl
      refine lv_iload hx hb d_M_minus_6 (lv_at hl 0 rfl) ?_
      refine lv_bipush (v := nI 16) hx hb d_M_minus_8 (by decide +kernel) ?_
      refine lv_icmp_ge (tgt := 57) hx hb d_M_minus_10 (by decide) (fun q => absurd q (nI_ge (by omega) (by omega))) (fun _ => ?_)
      refine lv_aload_n hx hb d_M_minus_13 rfl (lv_at hl 3 rfl) ?_
      refine lv_iload hx hb d_M_minus_14 (lv_at hl 0 rfl) ?_
      refine sx_lald hx hb hG hS f1 (sx_in (by omega) (by decide)) d_M_minus_16 (fun z12 => ?_)
      refine lv_aload_n hx hb d_M_minus_17 rfl (lv_at hl 4 rfl) ?_
      refine lv_iload hx hb d_M_minus_18 (lv_at hl 0 rfl) ?_
      refine sx_lald hx hb hG hS f2 (sx_in (by omega) (by decide)) d_M_minus_20 (fun z13 => ?_)
      refine sx_lsub hx hb d_M_minus_21 (fun z14 => ?_)
      refine lv_lload hx hb d_M_minus_22 (lv_at hl 1 rfl) ?_
      refine sx_lsub hx hb d_M_minus_24 (fun z15 => ?_)
      refine lv_lstore (lv' := [(7, .long z15), (6, .int (nI (i2))), (4, .long w1), (0, .ref a0), (1, .ref a1), (2, .ref a2), (3, .ref a3)]) hx hb d_M_minus_25 hl (by decide) rfl (fun ls hl => ?_)
      refine lv_lload hx hb d_M_minus_27 (lv_at hl 0 rfl) ?_
      refine lv_lconst (v := 0) hx hb d_M_minus_29 (by decide +kernel) ?_
      refine sx_lcmp hx hb d_M_minus_30 (fun z16 => ?_)
      have jn39_17 : ∀ (w17 : Int64) (H : Heap) (locs : List Loc) (ls : Array Slot), sx_S g E E H0 H locs → lv_has ls 9 [(7, .long z15), (6, .int (nI (i2))), (4, .long w1), (0, .ref a0), (1, .ref a1), (2, .ref a2), (3, .ref a3)] → W p l e rm_M_minus s m args below meth c H locs 0 0 Q (F0 m 39 ls [.long w17]) := by
        intro w17 H locs ls  hS hl
        refine lv_lstore (lv' := [(4, .long w17), (7, .long z15), (6, .int (nI (i2))), (0, .ref a0), (1, .ref a1), (2, .ref a2), (3, .ref a3)]) hx hb d_M_minus_39 hl (by decide) rfl (fun ls hl => ?_)
        refine lv_aload_n hx hb d_M_minus_41 rfl (lv_at hl 3 rfl) ?_
        refine lv_iload hx hb d_M_minus_42 (lv_at hl 2 rfl) ?_
        refine lv_lload hx hb d_M_minus_44 (lv_at hl 1 rfl) ?_
        refine lv_ldc2 (v := (65535)) hx hb hown (hts (.constantLong R_M 169 (65535)) (by decide +kernel)) d_M_minus_46 ?_
        refine sx_land hx hb d_M_minus_49 (fun z19 => ?_)
        refine sx_last hx hb hG hS f0 o0 (sx_in (by omega) (by decide)) d_M_minus_50 (fun H locs hS => ?_)
        refine lv_iinc (v := nI (i2 + 1)) (lv' := [(6, .int (nI (i2 + 1))), (4, .long w17), (7, .long z15), (0, .ref a0), (1, .ref a1), (2, .ref a2), (3, .ref a3)]) hx hb d_M_minus_51 hl (k := 2) rfl (sx_inc _ _) (by decide) rfl (fun ls hl => ?_)
        refine lv_goto (tgt := 6) hx hb d_M_minus_54 (by decide) ?_
        exact ih6 (i2 + 1) w17 _ _ _ (by omega)  hS (lv_sub hl [0, 1, 3, 4, 5, 6] rfl)
      refine lv_if_ge (tgt := 38) hx hb d_M_minus_31 (by decide) (fun _ => ?_) (fun _ => ?_)
      · skip
        refine lv_lconst (v := 0) hx hb d_M_minus_38 (by decide +kernel) ?_
        exact jn39_17 0 _ _ _  hS (lv_sub hl [0, 1, 2, 3, 4, 5, 6] rfl)
      · skip
        refine lv_lconst (v := 1) hx hb d_M_minus_34 (by decide +kernel) ?_
        refine lv_goto (tgt := 39) hx hb d_M_minus_35 (by decide) ?_
        exact jn39_17 1 _ _ _  hS (lv_sub hl [0, 1, 2, 3, 4, 5, 6] rfl)
  exact lp6 (16) 0 0 _ _ _ (by omega)  hS (lv_sub hl [0, 1, 2, 3, 4, 5] rfl)
abbrev rm_M_half : Room := { frames := 0, cells := 0, slots := 0, locals := 0 }
set_option maxHeartbeats 4000000 in
set_option maxRecDepth 100000 in
theorem c_M_half {l : Launch} {D : va_G} {g : ClassId → FieldType → Prop} {E : Nat → Prop} {H0 : Heap} {a0 : Nat} {a1 : Nat} (f0 : sx_A g .long H0 a0 17) (o0 : E a0) (f1 : sx_A g .long H0 a1 16) : Met l y_M_half (.code y_M_half b_M_half 5 none :: G_) rm_M_half (sx_Pc [.ref a0, .ref a1] H0 D g) (sx_Qv g E H0) 0 0 E := by
  refine sx_mv (own := R_M) (by decide) rfl rfl rfl (Nat.le_of_ble_eq_true rfl) ?_
  intro p e s m args below meth c Q ls EE hl hret
  obtain ⟨hx, hb, hml, hown, hts, hG, hK⟩ := id EE
  have hS : sx_S g E E H0 H0 [] := sx_S.rf
  have hl : lv_has ls 5 [(0, .ref a0), (1, .ref a1)] := hl
  refine lv_aload_n hx hb d_M_half_0 rfl (lv_at hl 0 rfl) ?_
  refine lv_iconst (v := nI 0) hx hb d_M_half_1 (by decide +kernel) ?_
  refine sx_lald hx hb hG hS f0 (sx_in (by omega) (by decide)) d_M_half_2 (fun z1 => ?_)
  refine lv_lconst (v := 1) hx hb d_M_half_3 (by decide +kernel) ?_
  refine sx_land hx hb d_M_half_4 (fun z2 => ?_)
  refine lv_lconst (v := 1) hx hb d_M_half_5 (by decide +kernel) ?_
  refine sx_lcmp hx hb d_M_half_6 (fun z3 => ?_)
  have jn62_13 : ∀ (H : Heap) (locs : List Loc) (ls : Array Slot), sx_S g E E H0 H locs → lv_has ls 5 [(0, .ref a0), (1, .ref a1)] → W p l e rm_M_half s m args below meth c H locs 0 0 Q (F0 m 62 ls []) := by
    intro  H locs ls  hS hl
    refine lv_iconst (v := nI 0) hx hb d_M_half_62 (by decide +kernel) ?_
    refine lv_istore_n (lv' := [(2, .int (nI (0))), (0, .ref a0), (1, .ref a1)]) hx hb d_M_half_63 rfl hl (by decide) rfl (fun ls hl => ?_)
    have lp64 : ∀ (k i15 : Nat) (H : Heap) (locs : List Loc) (ls : Array Slot), i15 + k = 16 → sx_S g E E H0 H locs → lv_has ls 5 [(2, .int (nI (i15))), (0, .ref a0), (1, .ref a1)] → W p l e rm_M_half s m args below meth c H locs 0 0 Q (F0 m 64 ls []) := by
      intro k
      induction k with
      | zero =>
        intro i15  H locs ls hi  hS hl
        refine lv_iload_n hx hb d_M_half_64 rfl (lv_at hl 0 rfl) ?_
        refine lv_bipush (v := nI 16) hx hb d_M_half_65 (by decide +kernel) ?_
        refine lv_icmp_ge (tgt := 95) hx hb d_M_half_67 (by decide) (fun _ => ?_) (fun q => absurd (nI_le (by omega) (by omega)) q)
        refine lv_aload_n hx hb d_M_half_95 rfl (lv_at hl 1 rfl) ?_
        refine lv_bipush (v := nI 16) hx hb d_M_half_96 (by decide +kernel) ?_
        refine lv_dup2_11 hx hb d_M_half_98 rfl rfl ?_
        refine sx_lald hx hb hG hS f0 (sx_in (by omega) (by decide)) d_M_half_99 (fun z16 => ?_)
        refine lv_iconst (v := nI 1) hx hb d_M_half_100 (by decide +kernel) ?_
        refine sx_lshr hx hb d_M_half_101 (fun z17 => ?_)
        refine sx_last hx hb hG hS f0 o0 (sx_in (by omega) (by decide)) d_M_half_102 (fun H locs hS => ?_)
        exact hret _ _ _ _ hS d_M_half_103
      | succ k ih64 =>
        intro i15  H locs ls hi  hS hl
        refine lv_iload_n hx hb d_M_half_64 rfl (lv_at hl 0 rfl) ?_
        refine lv_bipush (v := nI 16) hx hb d_M_half_65 (by decide +kernel) ?_
        refine lv_icmp_ge (tgt := 95) hx hb d_M_half_67 (by decide) (fun q => absurd q (nI_ge (by omega) (by omega))) (fun _ => ?_)
        refine lv_aload_n hx hb d_M_half_70 rfl (lv_at hl 1 rfl) ?_
        refine lv_iload_n hx hb d_M_half_71 rfl (lv_at hl 0 rfl) ?_
        refine lv_aload_n hx hb d_M_half_72 rfl (lv_at hl 1 rfl) ?_
        refine lv_iload_n hx hb d_M_half_73 rfl (lv_at hl 0 rfl) ?_
        refine sx_lald hx hb hG hS f0 (sx_in (by omega) (by decide)) d_M_half_74 (fun z18 => ?_)
        refine lv_iconst (v := nI 1) hx hb d_M_half_75 (by decide +kernel) ?_
        refine sx_lshr hx hb d_M_half_76 (fun z19 => ?_)
        refine lv_aload_n hx hb d_M_half_77 rfl (lv_at hl 1 rfl) ?_
        refine lv_iload_n hx hb d_M_half_78 rfl (lv_at hl 0 rfl) ?_
        refine lv_iconst (v := nI 1) hx hb d_M_half_79 (by decide +kernel) ?_
        refine lv_iadd hx hb d_M_half_80 ?_
        refine sx_ti (y := nI (i15 + 1)) (nI_add _ _) ?_
        refine sx_lald hx hb hG hS f0 (sx_in (by omega) (by decide)) d_M_half_81 (fun z20 => ?_)
        refine lv_lconst (v := 1) hx hb d_M_half_82 (by decide +kernel) ?_
        refine sx_land hx hb d_M_half_83 (fun z21 => ?_)
        refine lv_bipush (v := nI 15) hx hb d_M_half_84 (by decide +kernel) ?_
        refine sx_lshl hx hb d_M_half_86 (fun z22 => ?_)
        refine sx_lor hx hb d_M_half_87 (fun z23 => ?_)
        refine sx_last hx hb hG hS f0 o0 (sx_in (by omega) (by decide)) d_M_half_88 (fun H locs hS => ?_)
        refine lv_iinc (v := nI (i15 + 1)) (lv' := [(2, .int (nI (i15 + 1))), (0, .ref a0), (1, .ref a1)]) hx hb d_M_half_89 hl (k := 0) rfl (sx_inc _ _) (by decide) rfl (fun ls hl => ?_)
        refine lv_goto (tgt := 64) hx hb d_M_half_92 (by decide) ?_
        exact ih64 (i15 + 1)  _ _ _ (by omega)  hS (lv_sub hl [0, 1, 2] rfl)
    exact lp64 (16) 0  _ _ _ (by omega)  hS (lv_sub hl [0, 1, 2] rfl)
  refine lv_if_ne (tgt := 62) hx hb d_M_half_7 (by decide) (fun _ => ?_) (fun _ => ?_)
  · skip
    exact jn62_13  _ _ _  hS (lv_sub hl [0, 1] rfl)
  · skip
    refine lv_lconst (v := 0) hx hb d_M_half_10 (by decide +kernel) ?_
    refine lv_lstore_n (lv' := [(2, .long 0), (0, .ref a0), (1, .ref a1)]) hx hb d_M_half_11 rfl hl (by decide) rfl (fun ls hl => ?_)
    refine lv_iconst (v := nI 0) hx hb d_M_half_12 (by decide +kernel) ?_
    refine lv_istore (lv' := [(4, .int (nI (0))), (2, .long 0), (0, .ref a0), (1, .ref a1)]) hx hb d_M_half_13 hl (by decide) rfl (fun ls hl => ?_)
    have lp15 : ∀ (k i25 : Nat) (w24 : Int64) (H : Heap) (locs : List Loc) (ls : Array Slot), i25 + k = 16 → sx_S g E E H0 H locs → lv_has ls 5 [(4, .int (nI (i25))), (2, .long w24), (0, .ref a0), (1, .ref a1)] → W p l e rm_M_half s m args below meth c H locs 0 0 Q (F0 m 15 ls []) := by
      intro k
      induction k with
      | zero =>
        intro i25 w24 H locs ls hi  hS hl
        refine lv_iload hx hb d_M_half_15 (lv_at hl 0 rfl) ?_
        refine lv_bipush (v := nI 16) hx hb d_M_half_17 (by decide +kernel) ?_
        refine lv_icmp_ge (tgt := 54) hx hb d_M_half_19 (by decide) (fun _ => ?_) (fun q => absurd (nI_le (by omega) (by omega)) q)
        refine lv_aload_n hx hb d_M_half_54 rfl (lv_at hl 2 rfl) ?_
        refine lv_bipush (v := nI 16) hx hb d_M_half_55 (by decide +kernel) ?_
        refine lv_dup2_11 hx hb d_M_half_57 rfl rfl ?_
        refine sx_lald hx hb hG hS f0 (sx_in (by omega) (by decide)) d_M_half_58 (fun z26 => ?_)
        refine lv_lload_n hx hb d_M_half_59 rfl (lv_at hl 1 rfl) ?_
        refine sx_ladd hx hb d_M_half_60 (fun z27 => ?_)
        refine sx_last hx hb hG hS f0 o0 (sx_in (by omega) (by decide)) d_M_half_61 (fun H locs hS => ?_)
        exact jn62_13  _ _ _  hS (lv_sub hl [2, 3] rfl)
      | succ k ih15 =>
        intro i25 w24 H locs ls hi  hS hl
        refine lv_iload hx hb d_M_half_15 (lv_at hl 0 rfl) ?_
        refine lv_bipush (v := nI 16) hx hb d_M_half_17 (by decide +kernel) ?_
        refine lv_icmp_ge (tgt := 54) hx hb d_M_half_19 (by decide) (fun q => absurd q (nI_ge (by omega) (by omega))) (fun _ => ?_)
        refine lv_lload_n hx hb d_M_half_22 rfl (lv_at hl 1 rfl) ?_
        refine lv_aload_n hx hb d_M_half_23 rfl (lv_at hl 2 rfl) ?_
        refine lv_iload hx hb d_M_half_24 (lv_at hl 0 rfl) ?_
        refine sx_lald hx hb hG hS f0 (sx_in (by omega) (by decide)) d_M_half_26 (fun z28 => ?_)
        refine lv_aload_n hx hb d_M_half_27 rfl (lv_at hl 3 rfl) ?_
        refine lv_iload hx hb d_M_half_28 (lv_at hl 0 rfl) ?_
        refine sx_lald hx hb hG hS f1 (sx_in (by omega) (by decide)) d_M_half_30 (fun z29 => ?_)
        refine sx_ladd hx hb d_M_half_31 (fun z30 => ?_)
        refine sx_ladd hx hb d_M_half_32 (fun z31 => ?_)
        refine lv_lstore_n (lv' := [(2, .long z31), (4, .int (nI (i25))), (0, .ref a0), (1, .ref a1)]) hx hb d_M_half_33 rfl hl (by decide) rfl (fun ls hl => ?_)
        refine lv_aload_n hx hb d_M_half_34 rfl (lv_at hl 2 rfl) ?_
        refine lv_iload hx hb d_M_half_35 (lv_at hl 1 rfl) ?_
        refine lv_lload_n hx hb d_M_half_37 rfl (lv_at hl 0 rfl) ?_
        refine lv_ldc2 (v := (65535)) hx hb hown (hts (.constantLong R_M 169 (65535)) (by decide +kernel)) d_M_half_38 ?_
        refine sx_land hx hb d_M_half_41 (fun z32 => ?_)
        refine sx_last hx hb hG hS f0 o0 (sx_in (by omega) (by decide)) d_M_half_42 (fun H locs hS => ?_)
        refine lv_lload_n hx hb d_M_half_43 rfl (lv_at hl 0 rfl) ?_
        refine lv_bipush (v := nI 16) hx hb d_M_half_44 (by decide +kernel) ?_
        refine sx_lshr hx hb d_M_half_46 (fun z33 => ?_)
        refine lv_lstore_n (lv' := [(2, .long z33), (4, .int (nI (i25))), (0, .ref a0), (1, .ref a1)]) hx hb d_M_half_47 rfl hl (by decide) rfl (fun ls hl => ?_)
        refine lv_iinc (v := nI (i25 + 1)) (lv' := [(4, .int (nI (i25 + 1))), (2, .long z33), (0, .ref a0), (1, .ref a1)]) hx hb d_M_half_48 hl (k := 1) rfl (sx_inc _ _) (by decide) rfl (fun ls hl => ?_)
        refine lv_goto (tgt := 15) hx hb d_M_half_51 (by decide) ?_
        exact ih15 (i25 + 1) z33 _ _ _ (by omega)  hS (lv_sub hl [0, 1, 2, 3] rfl)
    exact lp15 (16) 0 0 _ _ _ (by omega)  hS (lv_sub hl [0, 1, 2, 3] rfl)
abbrev rm_M_halve : Room := { frames := 0, cells := 0, slots := 0, locals := 0 }
set_option maxHeartbeats 4000000 in
set_option maxRecDepth 100000 in
theorem c_M_halve {l : Launch} {D : va_G} {g : ClassId → FieldType → Prop} {E : Nat → Prop} {H0 : Heap} {a0 : Nat} (f0 : sx_A g .long H0 a0 16) (o0 : E a0) : Met l y_M_halve (.code y_M_halve b_M_halve 2 none :: G_) rm_M_halve (sx_Pc [.ref a0] H0 D g) (sx_Qv g E H0) 0 0 E := by
  refine sx_mv (own := R_M) (by decide) rfl rfl rfl (Nat.le_of_ble_eq_true rfl) ?_
  intro p e s m args below meth c Q ls EE hl hret
  obtain ⟨hx, hb, hml, hown, hts, hG, hK⟩ := id EE
  have hS : sx_S g E E H0 H0 [] := sx_S.rf
  have hl : lv_has ls 2 [(0, .ref a0)] := hl
  refine lv_iconst (v := nI 0) hx hb d_M_halve_0 (by decide +kernel) ?_
  refine lv_istore_n (lv' := [(1, .int (nI (0))), (0, .ref a0)]) hx hb d_M_halve_1 rfl hl (by decide) rfl (fun ls hl => ?_)
  have lp2 : ∀ (k i1 : Nat) (H : Heap) (locs : List Loc) (ls : Array Slot), i1 + k = 16 → sx_S g E E H0 H locs → lv_has ls 2 [(1, .int (nI (i1))), (0, .ref a0)] → W p l e rm_M_halve s m args below meth c H locs 0 0 Q (F0 m 2 ls []) := by
    intro k
    induction k with
    | zero =>
      intro i1  H locs ls hi  hS hl
      refine lv_iload_n hx hb d_M_halve_2 rfl (lv_at hl 0 rfl) ?_
      refine lv_bipush (v := nI 16) hx hb d_M_halve_3 (by decide +kernel) ?_
      refine lv_icmp_ge (tgt := 43) hx hb d_M_halve_5 (by decide) (fun _ => ?_) (fun q => absurd (nI_le (by omega) (by omega)) q)
      exact hret _ _ _ _ hS d_M_halve_43
    | succ k ih2 =>
      intro i1  H locs ls hi  hS hl
      refine lv_iload_n hx hb d_M_halve_2 rfl (lv_at hl 0 rfl) ?_
      refine lv_bipush (v := nI 16) hx hb d_M_halve_3 (by decide +kernel) ?_
      refine lv_icmp_ge (tgt := 43) hx hb d_M_halve_5 (by decide) (fun q => absurd q (nI_ge (by omega) (by omega))) (fun _ => ?_)
      refine lv_aload_n hx hb d_M_halve_8 rfl (lv_at hl 1 rfl) ?_
      refine lv_iload_n hx hb d_M_halve_9 rfl (lv_at hl 0 rfl) ?_
      refine lv_aload_n hx hb d_M_halve_10 rfl (lv_at hl 1 rfl) ?_
      refine lv_iload_n hx hb d_M_halve_11 rfl (lv_at hl 0 rfl) ?_
      refine sx_lald hx hb hG hS f0 (sx_in (by omega) (by decide)) d_M_halve_12 (fun z2 => ?_)
      refine lv_iconst (v := nI 1) hx hb d_M_halve_13 (by decide +kernel) ?_
      refine sx_lshr hx hb d_M_halve_14 (fun z3 => ?_)
      refine lv_iload_n hx hb d_M_halve_15 rfl (lv_at hl 0 rfl) ?_
      refine lv_bipush (v := nI 15) hx hb d_M_halve_16 (by decide +kernel) ?_
      have jn35_7 : ∀ (w7 : Int64) (H : Heap) (locs : List Loc) (ls : Array Slot), sx_S g E E H0 H locs → lv_has ls 2 [(1, .int (nI (i1))), (0, .ref a0)] → W p l e rm_M_halve s m args below meth c H locs 0 0 Q (F0 m 35 ls [.long w7, .long z3, .int (nI (i1)), .ref a0]) := by
        intro w7 H locs ls  hS hl
        refine sx_lor hx hb d_M_halve_35 (fun z9 => ?_)
        refine sx_last hx hb hG hS f0 o0 (sx_in (by omega) (by decide)) d_M_halve_36 (fun H locs hS => ?_)
        refine lv_iinc (v := nI (i1 + 1)) (lv' := [(1, .int (nI (i1 + 1))), (0, .ref a0)]) hx hb d_M_halve_37 hl (k := 0) rfl (sx_inc _ _) (by decide) rfl (fun ls hl => ?_)
        refine lv_goto (tgt := 2) hx hb d_M_halve_40 (by decide) ?_
        exact ih2 (i1 + 1)  _ _ _ (by omega)  hS (lv_sub hl [0, 1] rfl)
      refine lv_icmp_ge (tgt := 34) hx hb d_M_halve_18 (by decide) (fun q18 => ?_) (fun q18 => ?_)
      · skip
        have q18 : 15 ≤ i1 := (nI_leI (a := 15) (b := i1) (by omega) (by omega)).mp q18
        refine lv_lconst (v := 0) hx hb d_M_halve_34 (by decide +kernel) ?_
        exact jn35_7 0 _ _ _  hS (lv_sub hl [0, 1] rfl)
      · skip
        have q18 : ¬ (15 ≤ i1) := fun z => q18 ((nI_leI (a := 15) (b := i1) (by omega) (by omega)).mpr z)
        refine lv_aload_n hx hb d_M_halve_21 rfl (lv_at hl 1 rfl) ?_
        refine lv_iload_n hx hb d_M_halve_22 rfl (lv_at hl 0 rfl) ?_
        refine lv_iconst (v := nI 1) hx hb d_M_halve_23 (by decide +kernel) ?_
        refine lv_iadd hx hb d_M_halve_24 ?_
        refine sx_ti (y := nI (i1 + 1)) (nI_add _ _) ?_
        refine sx_lald hx hb hG hS f0 (sx_in (by omega) (by decide)) d_M_halve_25 (fun z10 => ?_)
        refine lv_lconst (v := 1) hx hb d_M_halve_26 (by decide +kernel) ?_
        refine sx_land hx hb d_M_halve_27 (fun z11 => ?_)
        refine lv_bipush (v := nI 15) hx hb d_M_halve_28 (by decide +kernel) ?_
        refine sx_lshl hx hb d_M_halve_30 (fun z12 => ?_)
        refine lv_goto (tgt := 35) hx hb d_M_halve_31 (by decide) ?_
        exact jn35_7 z12 _ _ _  hS (lv_sub hl [0, 1] rfl)
  exact lp2 (16) 0  _ _ _ (by omega)  hS (lv_sub hl [0, 1] rfl)
abbrev rm_M_one : Room := { frames := 0, cells := 0, slots := 0, locals := 0 }
set_option maxHeartbeats 4000000 in
set_option maxRecDepth 100000 in
theorem c_M_one {l : Launch} {D : va_G} {g : ClassId → FieldType → Prop} {E : Nat → Prop} {H0 : Heap} {a0 : Nat} (f0 : sx_A g .long H0 a0 16) : Met l y_M_one (.code y_M_one b_M_one 2 (some .boolean) :: G_) rm_M_one (sx_Pc [.ref a0] H0 D g) (sx_Qz g E H0) 0 0 E := by
  refine sx_mz (own := R_M) (by decide) rfl rfl rfl (Nat.le_of_ble_eq_true rfl) ?_
  intro p e s m args below meth c Q ls EE hl hret
  obtain ⟨hx, hb, hml, hown, hts, hG, hK⟩ := id EE
  have hS : sx_S g E E H0 H0 [] := sx_S.rf
  have hl : lv_has ls 2 [(0, .ref a0)] := hl
  refine lv_aload_n hx hb d_M_one_0 rfl (lv_at hl 0 rfl) ?_
  refine lv_iconst (v := nI 0) hx hb d_M_one_1 (by decide +kernel) ?_
  refine sx_lald hx hb hG hS f0 (sx_in (by omega) (by decide)) d_M_one_2 (fun z1 => ?_)
  refine lv_lconst (v := 1) hx hb d_M_one_3 (by decide +kernel) ?_
  refine sx_lcmp hx hb d_M_one_4 (fun z2 => ?_)
  refine lv_if_eq (tgt := 10) hx hb d_M_one_5 (by decide) (fun _ => ?_) (fun _ => ?_)
  · skip
    refine lv_iconst (v := nI 1) hx hb d_M_one_10 (by decide +kernel) ?_
    refine lv_istore_n (lv' := [(1, .int (nI (1))), (0, .ref a0)]) hx hb d_M_one_11 rfl hl (by decide) rfl (fun ls hl => ?_)
    have lp12 : ∀ (k i3 : Nat) (H : Heap) (locs : List Loc) (ls : Array Slot), i3 + k = 16 → sx_S g E E H0 H locs → lv_has ls 2 [(1, .int (nI (i3))), (0, .ref a0)] → W p l e rm_M_one s m args below meth c H locs 0 0 Q (F0 m 12 ls []) := by
      intro k
      induction k with
      | zero =>
        intro i3  H locs ls hi  hS hl
        refine lv_iload_n hx hb d_M_one_12 rfl (lv_at hl 0 rfl) ?_
        refine lv_bipush (v := nI 16) hx hb d_M_one_13 (by decide +kernel) ?_
        refine lv_icmp_ge (tgt := 34) hx hb d_M_one_15 (by decide) (fun _ => ?_) (fun q => absurd (nI_le (by omega) (by omega)) q)
        refine lv_iconst (v := nI 1) hx hb d_M_one_34 (by decide +kernel) ?_
        exact hret _ _ _ _ (1) (by omega) hS d_M_one_35
      | succ k ih12 =>
        intro i3  H locs ls hi  hS hl
        refine lv_iload_n hx hb d_M_one_12 rfl (lv_at hl 0 rfl) ?_
        refine lv_bipush (v := nI 16) hx hb d_M_one_13 (by decide +kernel) ?_
        refine lv_icmp_ge (tgt := 34) hx hb d_M_one_15 (by decide) (fun q => absurd q (nI_ge (by omega) (by omega))) (fun _ => ?_)
        refine lv_aload_n hx hb d_M_one_18 rfl (lv_at hl 1 rfl) ?_
        refine lv_iload_n hx hb d_M_one_19 rfl (lv_at hl 0 rfl) ?_
        refine sx_lald hx hb hG hS f0 (sx_in (by omega) (by decide)) d_M_one_20 (fun z4 => ?_)
        refine lv_lconst (v := 0) hx hb d_M_one_21 (by decide +kernel) ?_
        refine sx_lcmp hx hb d_M_one_22 (fun z5 => ?_)
        refine lv_if_eq (tgt := 28) hx hb d_M_one_23 (by decide) (fun _ => ?_) (fun _ => ?_)
        · skip
          refine lv_iinc (v := nI (i3 + 1)) (lv' := [(1, .int (nI (i3 + 1))), (0, .ref a0)]) hx hb d_M_one_28 hl (k := 0) rfl (sx_inc _ _) (by decide) rfl (fun ls hl => ?_)
          refine lv_goto (tgt := 12) hx hb d_M_one_31 (by decide) ?_
          exact ih12 (i3 + 1)  _ _ _ (by omega)  hS (lv_sub hl [0, 1] rfl)
        · skip
          refine lv_iconst (v := nI 0) hx hb d_M_one_26 (by decide +kernel) ?_
          exact hret _ _ _ _ (0) (by omega) hS d_M_one_27
    exact lp12 (15) 1  _ _ _ (by omega)  hS (lv_sub hl [0, 1] rfl)
  · skip
    refine lv_iconst (v := nI 0) hx hb d_M_one_8 (by decide +kernel) ?_
    exact hret _ _ _ _ (0) (by omega) hS d_M_one_9
abbrev rm_M_bit : Room := { frames := 0, cells := 0, slots := 0, locals := 0 }
set_option maxHeartbeats 4000000 in
set_option maxRecDepth 100000 in
theorem c_M_bit {l : Launch} {D : va_G} {g : ClassId → FieldType → Prop} {E : Nat → Prop} {H0 : Heap} {a0 : Nat} {v1 : Nat} (f0 : sx_A g .long H0 a0 16) (h1 : v1 < 256) : Met l y_M_bit (.code y_M_bit b_M_bit 2 (some .int) :: G_) rm_M_bit (sx_Pc [.ref a0, .int (nI v1)] H0 D g) (sx_Qi g E H0) 0 0 E := by
  refine sx_mi (own := R_M) (by decide) rfl rfl rfl (Nat.le_of_ble_eq_true rfl) ?_
  intro p e s m args below meth c Q ls EE hl hret
  obtain ⟨hx, hb, hml, hown, hts, hG, hK⟩ := id EE
  have hS : sx_S g E E H0 H0 [] := sx_S.rf
  have hl : lv_has ls 2 [(0, .ref a0), (1, .int (nI (v1)))] := hl
  refine lv_aload_n hx hb d_M_bit_0 rfl (lv_at hl 0 rfl) ?_
  refine lv_iload_n hx hb d_M_bit_1 rfl (lv_at hl 1 rfl) ?_
  refine lv_iconst (v := nI 4) hx hb d_M_bit_2 (by decide +kernel) ?_
  refine lv_ishr hx hb d_M_bit_3 ?_
  refine sx_ti (y := nI (v1 / 16)) (pk_shrN (by omega) _ 4 (by decide +kernel)) ?_
  refine sx_lald hx hb hG hS f0 (sx_in (by omega) (by decide)) d_M_bit_4 (fun z1 => ?_)
  refine lv_iload_n hx hb d_M_bit_5 rfl (lv_at hl 1 rfl) ?_
  refine lv_bipush (v := nI 15) hx hb d_M_bit_6 (by decide +kernel) ?_
  refine lv_iand hx hb d_M_bit_8 ?_
  refine sx_ti (y := nI (v1 % 16)) (pk_andN (by omega) 4 (by decide +kernel)) ?_
  refine sx_lshr hx hb d_M_bit_9 (fun z2 => ?_)
  refine lv_lconst (v := 1) hx hb d_M_bit_10 (by decide +kernel) ?_
  refine sx_land hx hb d_M_bit_11 (fun z3 => ?_)
  refine sx_l2i hx hb d_M_bit_12 (fun z4 => ?_)
  exact hret _ _ _ _ z4 hS d_M_bit_13
