def LL_JA_fill_6 (a0 : Nat) (v1 : Int64) : Nat → vM → vM := fun i_0 s_1 => (let X_2 : vM := stL s_1 a0 i_0 v1; X_2)
def LF_JA_fill (X : vM) (a0 : Nat) (n0 : Nat) (v1 : Int64) : vM := (let R3 : vM := lpU 1 (LL_JA_fill_6 a0 v1) (n0 - 0) 0 X; R3)
abbrev rm_JA_fill : Room := { frames := 0, cells := 0, slots := 0, locals := 0 }
set_option maxHeartbeats 4000000 in
set_option maxRecDepth 100000 in
theorem v_JA_fill {l : Launch} {D : va_G} {g : ClassId → FieldType → Prop} {E : Nat → Prop} {H0 : Heap} {X : vM} {n0 : Nat} {a0 : Nat} {v1 : Int64} (f0 : sx_A g .long H0 a0 n0) (x0 : sx_L H0 a0 n0) (o0 : E a0) (hn0 : n0 < 2147483648) (hV : mm g H0 = X) : Met l y_JA_fill (.code y_JA_fill b_JA_fill 5 none :: G_) rm_JA_fill (sx_Pc [.ref a0, .long v1] H0 D g) (vx_Qv g E H0 (LF_JA_fill X a0 n0 v1)) 0 0 E := by
  refine vx_mv (own := R_JA) (by decide) rfl rfl rfl (Nat.le_of_ble_eq_true rfl) ?_
  intro p e s m args below meth c Q ls EE hl hret
  obtain ⟨hx, hb, hml, hown, hts, hG, hK⟩ := id EE
  have hS : sx_S g E E H0 H0 [] := sx_S.rf
  have hl : lv_has ls 5 [(0, .ref a0), (1, .long v1)] := hl
  refine lv_iconst (v := nI 0) hx hb d_JA_fill_0 (by decide +kernel) ?_
  refine lv_istore_n (lv' := [(3, .int (nI (0))), (0, .ref a0), (1, .long v1)]) hx hb d_JA_fill_1 rfl hl (by decide) rfl (fun ls hl => ?_)
  refine lv_aload_n hx hb d_JA_fill_2 rfl (lv_at hl 1 rfl) ?_
  refine sx_alen hx hb hG hS f0 x0 d_JA_fill_3 ?_
  refine lv_istore (lv' := [(4, .int (nI (n0))), (3, .int (nI (0))), (0, .ref a0), (1, .long v1)]) hx hb d_JA_fill_4 hl (by decide) rfl (fun ls hl => ?_)
  obtain ⟨R3, eR3⟩ : ∃ t : vM, lpU 1 (LL_JA_fill_6 a0 v1) (n0 - 0) 0 X = t := ⟨_, rfl⟩
  refine lpU_go (σ := vM) (P := fun i1 s2 H locs ls => sx_S g E E H0 H locs ∧ mm g H = s2 ∧ lv_has ls 5 [(4, .int (nI (n0))), (3, .int (nI (i1))), (0, .ref a0), (1, .long v1)]) (Wd := fun H locs ls => W p l e rm_JA_fill s m args below meth c H locs 0 0 Q (F0 m 6 ls [])) (N := n0) (d := 1) (by decide) ?_ ?_ (n0 - 0) 0 _ (by omega) eR3 _ _ _ ⟨hS, hV, lv_sub hl [0, 1, 2, 3] rfl⟩
  · intro i1 s2 H locs ls hii1 hP ihi1
    obtain ⟨hS, hV, hl⟩ := hP
    refine lv_iload_n hx hb d_JA_fill_6 rfl (lv_at hl 1 rfl) ?_
    refine lv_iload hx hb d_JA_fill_7 (lv_at hl 0 rfl) ?_
    refine lv_icmp_ge (tgt := 22) hx hb d_JA_fill_9 (by decide) (fun q => absurd q (nI_ge (by omega) (by omega))) (fun _ => ?_)
    refine lv_aload_n hx hb d_JA_fill_12 rfl (lv_at hl 2 rfl) ?_
    refine lv_iload_n hx hb d_JA_fill_13 rfl (lv_at hl 1 rfl) ?_
    refine lv_lload_n hx hb d_JA_fill_14 rfl (lv_at hl 3 rfl) ?_
    refine vx_last hx hb hG hS hV f0 o0 (by omega) (by omega) d_JA_fill_15 (fun H locs X4 eX4 hS hV => ?_)
    refine lv_iinc (v := nI (i1 + 1)) (lv' := [(3, .int (nI (i1 + 1))), (4, .int (nI (n0))), (0, .ref a0), (1, .long v1)]) hx hb d_JA_fill_16 hl (k := 1) rfl (sx_inc _ _) (by decide) rfl (fun ls hl => ?_)
    refine lv_goto (tgt := 6) hx hb d_JA_fill_19 (by decide) ?_
    exact ihi1 X4 _ _ _ (by subst eX4; exact rfl) ⟨hS, hV, lv_sub hl [1, 0, 2, 3] rfl⟩
  · intro H locs ls hP
    obtain ⟨hS, hV, hl⟩ := hP
    refine lv_iload_n hx hb d_JA_fill_6 rfl (lv_at hl 1 rfl) ?_
    refine lv_iload hx hb d_JA_fill_7 (lv_at hl 0 rfl) ?_
    refine lv_icmp_ge (tgt := 22) hx hb d_JA_fill_9 (by decide) (fun _ => ?_) (fun q => absurd (nI_le (by omega) (by omega)) q)
    exact hret _ _ _ _ _ (by subst eR3; exact rfl) hS hV d_JA_fill_22
def LL_JA_fillB_5 (a0 : Nat) (v1 : Int32) : Nat → vM → vM := fun i_0 s_1 => (let X_2 : vM := stI s_1 a0 i_0 (v1.toInt8.toInt32); X_2)
def LF_JA_fillB (X : vM) (a0 : Nat) (n0 : Nat) (v1 : Int32) : vM := (let R3 : vM := lpU 1 (LL_JA_fillB_5 a0 v1) (n0 - 0) 0 X; R3)
abbrev rm_JA_fillB : Room := { frames := 0, cells := 0, slots := 0, locals := 0 }
set_option maxHeartbeats 4000000 in
set_option maxRecDepth 100000 in
theorem v_JA_fillB {l : Launch} {D : va_G} {g : ClassId → FieldType → Prop} {E : Nat → Prop} {H0 : Heap} {X : vM} {n0 : Nat} {a0 : Nat} {v1 : Int32} (f0 : sx_A g .byte H0 a0 n0) (x0 : sx_L H0 a0 n0) (o0 : E a0) (hn0 : n0 < 2147483648) (hV : mm g H0 = X) : Met l y_JA_fillB (.code y_JA_fillB b_JA_fillB 4 none :: G_) rm_JA_fillB (sx_Pc [.ref a0, .int v1] H0 D g) (vx_Qv g E H0 (LF_JA_fillB X a0 n0 v1)) 0 0 E := by
  refine vx_mv (own := R_JA) (by decide) rfl rfl rfl (Nat.le_of_ble_eq_true rfl) ?_
  intro p e s m args below meth c Q ls EE hl hret
  obtain ⟨hx, hb, hml, hown, hts, hG, hK⟩ := id EE
  have hS : sx_S g E E H0 H0 [] := sx_S.rf
  have hl : lv_has ls 4 [(0, .ref a0), (1, .int v1)] := hl
  refine lv_iconst (v := nI 0) hx hb d_JA_fillB_0 (by decide +kernel) ?_
  refine lv_istore_n (lv' := [(2, .int (nI (0))), (0, .ref a0), (1, .int v1)]) hx hb d_JA_fillB_1 rfl hl (by decide) rfl (fun ls hl => ?_)
  refine lv_aload_n hx hb d_JA_fillB_2 rfl (lv_at hl 1 rfl) ?_
  refine sx_alen hx hb hG hS f0 x0 d_JA_fillB_3 ?_
  refine lv_istore_n (lv' := [(3, .int (nI (n0))), (2, .int (nI (0))), (0, .ref a0), (1, .int v1)]) hx hb d_JA_fillB_4 rfl hl (by decide) rfl (fun ls hl => ?_)
  obtain ⟨R3, eR3⟩ : ∃ t : vM, lpU 1 (LL_JA_fillB_5 a0 v1) (n0 - 0) 0 X = t := ⟨_, rfl⟩
  refine lpU_go (σ := vM) (P := fun i1 s2 H locs ls => sx_S g E E H0 H locs ∧ mm g H = s2 ∧ lv_has ls 4 [(3, .int (nI (n0))), (2, .int (nI (i1))), (0, .ref a0), (1, .int v1)]) (Wd := fun H locs ls => W p l e rm_JA_fillB s m args below meth c H locs 0 0 Q (F0 m 5 ls [])) (N := n0) (d := 1) (by decide) ?_ ?_ (n0 - 0) 0 _ (by omega) eR3 _ _ _ ⟨hS, hV, lv_sub hl [0, 1, 2, 3] rfl⟩
  · intro i1 s2 H locs ls hii1 hP ihi1
    obtain ⟨hS, hV, hl⟩ := hP
    refine lv_iload_n hx hb d_JA_fillB_5 rfl (lv_at hl 1 rfl) ?_
    refine lv_iload_n hx hb d_JA_fillB_6 rfl (lv_at hl 0 rfl) ?_
    refine lv_icmp_ge (tgt := 20) hx hb d_JA_fillB_7 (by decide) (fun q => absurd q (nI_ge (by omega) (by omega))) (fun _ => ?_)
    refine lv_aload_n hx hb d_JA_fillB_10 rfl (lv_at hl 2 rfl) ?_
    refine lv_iload_n hx hb d_JA_fillB_11 rfl (lv_at hl 1 rfl) ?_
    refine lv_iload_n hx hb d_JA_fillB_12 rfl (lv_at hl 3 rfl) ?_
    refine vx_bast hx hb hG hS hV f0 o0 (by omega) (by omega) d_JA_fillB_13 (fun H locs X4 eX4 hS hV => ?_)
    refine lv_iinc (v := nI (i1 + 1)) (lv' := [(2, .int (nI (i1 + 1))), (3, .int (nI (n0))), (0, .ref a0), (1, .int v1)]) hx hb d_JA_fillB_14 hl (k := 1) rfl (sx_inc _ _) (by decide) rfl (fun ls hl => ?_)
    refine lv_goto (tgt := 5) hx hb d_JA_fillB_17 (by decide) ?_
    exact ihi1 X4 _ _ _ (by subst eX4; exact rfl) ⟨hS, hV, lv_sub hl [1, 0, 2, 3] rfl⟩
  · intro H locs ls hP
    obtain ⟨hS, hV, hl⟩ := hP
    refine lv_iload_n hx hb d_JA_fillB_5 rfl (lv_at hl 1 rfl) ?_
    refine lv_iload_n hx hb d_JA_fillB_6 rfl (lv_at hl 0 rfl) ?_
    refine lv_icmp_ge (tgt := 20) hx hb d_JA_fillB_7 (by decide) (fun _ => ?_) (fun q => absurd (nI_le (by omega) (by omega)) q)
    exact hret _ _ _ _ _ (by subst eR3; exact rfl) hS hV d_JA_fillB_20
def LF_JA_rangeCheck (X : vM) (v0 : Nat) (v1 : Nat) (v2 : Nat) : vM := X
abbrev rm_JA_rangeCheck : Room := { frames := 0, cells := 0, slots := 0, locals := 0 }
set_option maxHeartbeats 4000000 in
set_option maxRecDepth 100000 in
theorem v_JA_rangeCheck {l : Launch} {D : va_G} {g : ClassId → FieldType → Prop} {E : Nat → Prop} {H0 : Heap} {X : vM} {v0 : Nat} {v1 : Nat} {v2 : Nat} (h0 : v0 < 2147483648) (h1 : v1 ≤ v2) (h2 : v2 ≤ v0) (hV : mm g H0 = X) : Met l y_JA_rangeCheck (.code y_JA_rangeCheck b_JA_rangeCheck 3 none :: G_) rm_JA_rangeCheck (sx_Pc [.int (nI v0), .int (nI v1), .int (nI v2)] H0 D g) (vx_Qv g E H0 (LF_JA_rangeCheck X v0 v1 v2)) 0 0 E := by
  refine vx_mv (own := R_JA) (by decide) rfl rfl rfl (Nat.le_of_ble_eq_true rfl) ?_
  intro p e s m args below meth c Q ls EE hl hret
  obtain ⟨hx, hb, hml, hown, hts, hG, hK⟩ := id EE
  have hS : sx_S g E E H0 H0 [] := sx_S.rf
  have hl : lv_has ls 3 [(0, .int (nI (v0))), (1, .int (nI (v1))), (2, .int (nI (v2)))] := hl
  refine lv_iload_n hx hb d_JA_rangeCheck_0 rfl (lv_at hl 1 rfl) ?_
  refine lv_iload_n hx hb d_JA_rangeCheck_1 rfl (lv_at hl 2 rfl) ?_
  refine lv_icmp_le (tgt := 46) hx hb d_JA_rangeCheck_2 (by decide) (fun _ => ?_) (fun q2_0 => absurd (show v1 ≤ v2 by omega) (by have q2_0 : ¬ (v1 ≤ v2) := fun z => q2_0 ((nI_leI (a := v1) (b := v2) (by omega) (by omega)).mpr z); exact q2_0))
  refine lv_iload_n hx hb d_JA_rangeCheck_46 rfl (lv_at hl 1 rfl) ?_
  refine lv_if_ge (tgt := 59) hx hb d_JA_rangeCheck_47 (by decide) (fun _ => ?_) (fun q47_1 => absurd (show 0 ≤ v1 by omega) (by have q47_1 : ¬ (0 ≤ v1) := fun z => q47_1 ((nI_leI (a := 0) (b := v1) (by omega) (by omega)).mpr z); exact q47_1))
  refine lv_iload_n hx hb d_JA_rangeCheck_59 rfl (lv_at hl 2 rfl) ?_
  refine lv_iload_n hx hb d_JA_rangeCheck_60 rfl (lv_at hl 0 rfl) ?_
  refine lv_icmp_le (tgt := 73) hx hb d_JA_rangeCheck_61 (by decide) (fun _ => ?_) (fun q61_2 => absurd (show v2 ≤ v0 by omega) (by have q61_2 : ¬ (v2 ≤ v0) := fun z => q61_2 ((nI_leI (a := v2) (b := v0) (by omega) (by omega)).mpr z); exact q61_2))
  exact hret _ _ _ _ _ rfl hS hV d_JA_rangeCheck_73
def LL_JA_fillR_10 (a0 : Nat) (v3 : Int32) : Nat → vM → vM := fun i_0 s_1 => (let X_2 : vM := stI s_1 a0 i_0 (v3.toInt8.toInt32); X_2)
def LF_JA_fillR (X : vM) (a0 : Nat) (n0 : Nat) (v1 : Nat) (v2 : Nat) (v3 : Int32) : vM := (let R3 : vM := lpU 1 (LL_JA_fillR_10 a0 v3) (v2 - v1) v1 X; R3)
abbrev rm_JA_fillR : Room := { frames := 1, cells := 0, slots := 0, locals := 22 }
set_option maxHeartbeats 4000000 in
set_option maxRecDepth 100000 in
theorem v_JA_fillR {l : Launch} {D : va_G} {g : ClassId → FieldType → Prop} {E : Nat → Prop} {H0 : Heap} {X : vM} {n0 : Nat} {a0 : Nat} {v1 : Nat} {v2 : Nat} {v3 : Int32} (f0 : sx_A g .byte H0 a0 n0) (x0 : sx_L H0 a0 n0) (o0 : E a0) (h1 : v1 ≤ v2) (h2 : v2 ≤ n0) (hn0 : n0 < 2147483648) (hV : mm g H0 = X) : Met l y_JA_fillR (.code y_JA_fillR b_JA_fillR 5 none :: G_) rm_JA_fillR (sx_Pc [.ref a0, .int (nI v1), .int (nI v2), .int v3] H0 D g) (vx_Qv g E H0 (LF_JA_fillR X a0 n0 v1 v2 v3)) 0 0 E := by
  refine vx_mv (own := R_JA) (by decide) rfl rfl rfl (Nat.le_of_ble_eq_true rfl) ?_
  intro p e s m args below meth c Q ls EE hl hret
  obtain ⟨hx, hb, hml, hown, hts, hG, hK⟩ := id EE
  have hS : sx_S g E E H0 H0 [] := sx_S.rf
  have hl : lv_has ls 5 [(0, .ref a0), (1, .int (nI (v1))), (2, .int (nI (v2))), (3, .int v3)] := hl
  refine lv_aload_n hx hb d_JA_fillR_0 rfl (lv_at hl 0 rfl) ?_
  refine sx_alen hx hb hG hS f0 x0 d_JA_fillR_1 ?_
  refine lv_iload_n hx hb d_JA_fillR_2 rfl (lv_at hl 1 rfl) ?_
  refine lv_iload_n hx hb d_JA_fillR_3 rfl (lv_at hl 2 rfl) ?_
  refine vx_gv (sx_runS (As := [.int (nI (n0)), .int (nI (v1)), .int (nI (v2))]) (rest := []) EE (v_JA_rangeCheck (X := X) (by omega) (by omega) (by omega) hV) w_JA_13 rfl ⟨rfl, rfl⟩ ⟨Nat.le_of_ble_eq_true rfl, Nat.le_of_ble_eq_true rfl⟩ ⟨Nat.zero_le _, Nat.zero_le _⟩ hl.1 rfl (Nat.le_of_ble_eq_true rfl) d_JA_fillR_4) hS (fun H locs X_ eX_ hS hV => ?_)
  subst eX_
  refine lv_iload_n hx hb d_JA_fillR_7 rfl (lv_at hl 1 rfl) ?_
  refine lv_istore (lv' := [(4, .int (nI (v1))), (0, .ref a0), (1, .int (nI (v1))), (2, .int (nI (v2))), (3, .int v3)]) hx hb d_JA_fillR_8 hl (by decide) rfl (fun ls hl => ?_)
  obtain ⟨R3, eR3⟩ : ∃ t : vM, lpU 1 (LL_JA_fillR_10 a0 v3) (v2 - v1) v1 X = t := ⟨_, rfl⟩
  refine lpU_go (σ := vM) (P := fun i1 s2 H locs ls => v1 ≤ i1 ∧ sx_S g E E H0 H locs ∧ mm g H = s2 ∧ lv_has ls 5 [(4, .int (nI (i1))), (0, .ref a0), (2, .int (nI (v2))), (3, .int v3)]) (Wd := fun H locs ls => W p l e rm_JA_fillR s m args below meth c H locs 0 0 Q (F0 m 10 ls [])) (N := v2) (d := 1) (by decide) ?_ ?_ (v2 - v1) v1 _ (by omega) eR3 _ _ _ ⟨(by omega), hS, hV, lv_sub hl [0, 1, 3, 4] rfl⟩
  · intro i1 s2 H locs ls hii1 hP ihi1
    obtain ⟨hxs2_0, hS, hV, hl⟩ := hP
    refine lv_iload hx hb d_JA_fillR_10 (lv_at hl 0 rfl) ?_
    refine lv_iload_n hx hb d_JA_fillR_12 rfl (lv_at hl 2 rfl) ?_
    refine lv_icmp_ge (tgt := 27) hx hb d_JA_fillR_13 (by decide) (fun q => absurd q (nI_ge (by omega) (by omega))) (fun _ => ?_)
    refine lv_aload_n hx hb d_JA_fillR_16 rfl (lv_at hl 1 rfl) ?_
    refine lv_iload hx hb d_JA_fillR_17 (lv_at hl 0 rfl) ?_
    refine lv_iload_n hx hb d_JA_fillR_19 rfl (lv_at hl 3 rfl) ?_
    refine vx_bast hx hb hG hS hV f0 o0 (by omega) (by omega) d_JA_fillR_20 (fun H locs X4 eX4 hS hV => ?_)
    refine lv_iinc (v := nI (i1 + 1)) (lv' := [(4, .int (nI (i1 + 1))), (0, .ref a0), (2, .int (nI (v2))), (3, .int v3)]) hx hb d_JA_fillR_21 hl (k := 0) rfl (sx_inc _ _) (by decide) rfl (fun ls hl => ?_)
    refine lv_goto (tgt := 10) hx hb d_JA_fillR_24 (by decide) ?_
    exact ihi1 X4 _ _ _ (by subst eX4; exact rfl) ⟨(by omega), hS, hV, lv_sub hl [0, 1, 2, 3] rfl⟩
  · intro H locs ls hP
    obtain ⟨hxR3_0, hS, hV, hl⟩ := hP
    refine lv_iload hx hb d_JA_fillR_10 (lv_at hl 0 rfl) ?_
    refine lv_iload_n hx hb d_JA_fillR_12 rfl (lv_at hl 2 rfl) ?_
    refine lv_icmp_ge (tgt := 27) hx hb d_JA_fillR_13 (by decide) (fun _ => ?_) (fun q => absurd (nI_le (by omega) (by omega)) q)
    exact hret _ _ _ _ _ (by subst eR3; exact rfl) hS hV d_JA_fillR_27
def LF_F_set (X : vM) (a0 : Nat) (v1 : Int64) : vM := (let X1 : vM := (LF_JA_fill X a0 10 (0 : Int64)); let X2 : vM := stL X1 a0 0 v1; X2)
abbrev rm_F_set : Room := { frames := 1, cells := 0, slots := 0, locals := 24 }
set_option maxHeartbeats 4000000 in
set_option maxRecDepth 100000 in
theorem v_F_set {l : Launch} {D : va_G} {g : ClassId → FieldType → Prop} {E : Nat → Prop} {H0 : Heap} {X : vM} {a0 : Nat} {v1 : Int64} (f0 : sx_A g .long H0 a0 10) (x0 : sx_L H0 a0 10) (o0 : E a0) (hV : mm g H0 = X) : Met l y_F_set (.code y_F_set b_F_set 3 none :: G_) rm_F_set (sx_Pc [.ref a0, .long v1] H0 D g) (vx_Qv g E H0 (LF_F_set X a0 v1)) 0 0 E := by
  refine vx_mv (own := R_F) (by decide) rfl rfl rfl (Nat.le_of_ble_eq_true rfl) ?_
  intro p e s m args below meth c Q ls EE hl hret
  obtain ⟨hx, hb, hml, hown, hts, hG, hK⟩ := id EE
  have hS : sx_S g E E H0 H0 [] := sx_S.rf
  have hl : lv_has ls 3 [(0, .ref a0), (1, .long v1)] := hl
  refine lv_aload_n hx hb d_F_set_0 rfl (lv_at hl 0 rfl) ?_
  refine lv_lconst (v := 0) hx hb d_F_set_1 (by decide +kernel) ?_
  refine vx_gv (sx_runS (As := [.ref a0, .long (0 : Int64)]) (rest := []) EE (v_JA_fill (X := X) (hS.a f0) (hS.1.2.2.2 _ _ x0) o0 (by omega) hV) w_F_33 rfl ⟨rfl, rfl⟩ ⟨Nat.le_of_ble_eq_true rfl, Nat.le_of_ble_eq_true rfl⟩ ⟨Nat.zero_le _, Nat.zero_le _⟩ hl.1 rfl (Nat.le_of_ble_eq_true rfl) d_F_set_2) hS (fun H locs X1 eX1 hS hV => ?_)
  refine lv_aload_n hx hb d_F_set_5 rfl (lv_at hl 0 rfl) ?_
  refine lv_iconst (v := nI 0) hx hb d_F_set_6 (by decide +kernel) ?_
  refine lv_lload_n hx hb d_F_set_7 rfl (lv_at hl 1 rfl) ?_
  refine vx_last hx hb hG hS hV f0 o0 (by omega) (by decide) d_F_set_8 (fun H locs X2 eX2 hS hV => ?_)
  exact hret _ _ _ _ _ (by subst eX1 eX2; exact rfl) hS hV d_F_set_9
def LF_F_copy (X : vM) (a0 : Nat) (a1 : Nat) : vM := (let X1 : vM := cpL X a1 0 a0 0 10; X1)
abbrev rm_F_copy : Room := { frames := 1, cells := 0, slots := 0, locals := 100 }
set_option maxHeartbeats 4000000 in
set_option maxRecDepth 100000 in
theorem v_F_copy {l : Launch} {D : va_G} {g : ClassId → FieldType → Prop} {E : Nat → Prop} {H0 : Heap} {X : vM} {a0 : Nat} {a1 : Nat} (f0 : sx_A g .long H0 a0 10) (o0 : E a0) (f1 : sx_A g .long H0 a1 10) (hV : mm g H0 = X) : Met l y_F_copy (.code y_F_copy b_F_copy 2 none :: G_) rm_F_copy (sx_Pc [.ref a0, .ref a1] H0 D g) (vx_Qv g E H0 (LF_F_copy X a0 a1)) 0 0 E := by
  refine vx_mv (own := R_F) (by decide) rfl rfl rfl (Nat.le_of_ble_eq_true rfl) ?_
  intro p e s m args below meth c Q ls EE hl hret
  obtain ⟨hx, hb, hml, hown, hts, hG, hK⟩ := id EE
  have hS : sx_S g E E H0 H0 [] := sx_S.rf
  have hl : lv_has ls 2 [(0, .ref a0), (1, .ref a1)] := hl
  refine lv_aload_n hx hb d_F_copy_0 rfl (lv_at hl 1 rfl) ?_
  refine lv_iconst (v := nI 0) hx hb d_F_copy_1 (by decide +kernel) ?_
  refine lv_aload_n hx hb d_F_copy_2 rfl (lv_at hl 0 rfl) ?_
  refine lv_iconst (v := nI 0) hx hb d_F_copy_3 (by decide +kernel) ?_
  refine lv_bipush (v := nI 10) hx hb d_F_copy_4 (by decide +kernel) ?_
  refine vx_cpyL hx hb (by rw [hml]; exact hl.1.symm) hown (hts (.methodLink R_F 39 arraycopyName) (by decide +kernel)) (hts (.native arraycopyName) (by decide +kernel)) (hts (.static arraycopyName) (by decide +kernel)) (hts (.initialized "java/lang/System") (by decide +kernel)) hG hS hV f1 f0 o0 (by omega) (by omega) (by omega) (by omega) (Nat.le_of_ble_eq_true rfl) (Nat.le_of_ble_eq_true rfl) d_F_copy_6 (fun H locs X1 eX1 hS hV => ?_)
  exact hret _ _ _ _ _ (by subst eX1; exact rfl) hS hV d_F_copy_9
def LL_F_add_2 (a0 : Nat) (a1 : Nat) (a2 : Nat) : Nat → vM → vM := fun i_0 s_1 => (let X_2 : vM := stL s_1 a0 i_0 ((s_1.1 a1 i_0) + (s_1.1 a2 i_0)); X_2)
def LF_F_add (X : vM) (a0 : Nat) (a1 : Nat) (a2 : Nat) : vM := (let R3 : vM := lpU 1 (LL_F_add_2 a0 a1 a2) 10 0 X; R3)
abbrev rm_F_add : Room := { frames := 0, cells := 0, slots := 0, locals := 0 }
set_option maxHeartbeats 4000000 in
set_option maxRecDepth 100000 in
theorem v_F_add {l : Launch} {D : va_G} {g : ClassId → FieldType → Prop} {E : Nat → Prop} {H0 : Heap} {X : vM} {a0 : Nat} {a1 : Nat} {a2 : Nat} (f0 : sx_A g .long H0 a0 10) (o0 : E a0) (f1 : sx_A g .long H0 a1 10) (f2 : sx_A g .long H0 a2 10) (hV : mm g H0 = X) : Met l y_F_add (.code y_F_add b_F_add 4 none :: G_) rm_F_add (sx_Pc [.ref a0, .ref a1, .ref a2] H0 D g) (vx_Qv g E H0 (LF_F_add X a0 a1 a2)) 0 0 E := by
  refine vx_mv (own := R_F) (by decide) rfl rfl rfl (Nat.le_of_ble_eq_true rfl) ?_
  intro p e s m args below meth c Q ls EE hl hret
  obtain ⟨hx, hb, hml, hown, hts, hG, hK⟩ := id EE
  have hS : sx_S g E E H0 H0 [] := sx_S.rf
  have hl : lv_has ls 4 [(0, .ref a0), (1, .ref a1), (2, .ref a2)] := hl
  refine lv_iconst (v := nI 0) hx hb d_F_add_0 (by decide +kernel) ?_
  refine lv_istore_n (lv' := [(3, .int (nI (0))), (0, .ref a0), (1, .ref a1), (2, .ref a2)]) hx hb d_F_add_1 rfl hl (by decide) rfl (fun ls hl => ?_)
  obtain ⟨R3, eR3⟩ : ∃ t : vM, lpU 1 (LL_F_add_2 a0 a1 a2) 10 0 X = t := ⟨_, rfl⟩
  refine lpU_go (σ := vM) (P := fun i1 s2 H locs ls => sx_S g E E H0 H locs ∧ mm g H = s2 ∧ lv_has ls 4 [(3, .int (nI (i1))), (0, .ref a0), (1, .ref a1), (2, .ref a2)]) (Wd := fun H locs ls => W p l e rm_F_add s m args below meth c H locs 0 0 Q (F0 m 2 ls [])) (N := 10) (d := 1) (by decide) ?_ ?_ 10 0 _ (by omega) eR3 _ _ _ ⟨hS, hV, lv_sub hl [0, 1, 2, 3] rfl⟩
  · intro i1 s2 H locs ls hii1 hP ihi1
    obtain ⟨hS, hV, hl⟩ := hP
    refine lv_iload_n hx hb d_F_add_2 rfl (lv_at hl 0 rfl) ?_
    refine lv_bipush (v := nI 10) hx hb d_F_add_3 (by decide +kernel) ?_
    refine lv_icmp_ge (tgt := 24) hx hb d_F_add_5 (by decide) (fun q => absurd q (nI_ge (by omega) (by omega))) (fun _ => ?_)
    refine lv_aload_n hx hb d_F_add_8 rfl (lv_at hl 1 rfl) ?_
    refine lv_iload_n hx hb d_F_add_9 rfl (lv_at hl 0 rfl) ?_
    refine lv_aload_n hx hb d_F_add_10 rfl (lv_at hl 2 rfl) ?_
    refine lv_iload_n hx hb d_F_add_11 rfl (lv_at hl 0 rfl) ?_
    refine vx_lald hx hb hG hS hV f1 (by omega) (by decide) d_F_add_12 ?_
    refine lv_aload_n hx hb d_F_add_13 rfl (lv_at hl 3 rfl) ?_
    refine lv_iload_n hx hb d_F_add_14 rfl (lv_at hl 0 rfl) ?_
    refine vx_lald hx hb hG hS hV f2 (by omega) (by decide) d_F_add_15 ?_
    refine lv_ladd hx hb d_F_add_16 ?_
    refine vx_last hx hb hG hS hV f0 o0 (by omega) (by decide) d_F_add_17 (fun H locs X4 eX4 hS hV => ?_)
    refine lv_iinc (v := nI (i1 + 1)) (lv' := [(3, .int (nI (i1 + 1))), (0, .ref a0), (1, .ref a1), (2, .ref a2)]) hx hb d_F_add_18 hl (k := 0) rfl (sx_inc _ _) (by decide) rfl (fun ls hl => ?_)
    refine lv_goto (tgt := 2) hx hb d_F_add_21 (by decide) ?_
    exact ihi1 X4 _ _ _ (by subst eX4; exact rfl) ⟨hS, hV, lv_sub hl [0, 1, 2, 3] rfl⟩
  · intro H locs ls hP
    obtain ⟨hS, hV, hl⟩ := hP
    refine lv_iload_n hx hb d_F_add_2 rfl (lv_at hl 0 rfl) ?_
    refine lv_bipush (v := nI 10) hx hb d_F_add_3 (by decide +kernel) ?_
    refine lv_icmp_ge (tgt := 24) hx hb d_F_add_5 (by decide) (fun _ => ?_) (fun q => absurd (nI_le (by omega) (by omega)) q)
    exact hret _ _ _ _ _ (by subst eR3; exact rfl) hS hV d_F_add_24
def LL_F_subtract_2 (a0 : Nat) (a1 : Nat) (a2 : Nat) : Nat → vM → vM := fun i_0 s_1 => (let X_2 : vM := stL s_1 a0 i_0 ((s_1.1 a1 i_0) - (s_1.1 a2 i_0)); X_2)
def LF_F_subtract (X : vM) (a0 : Nat) (a1 : Nat) (a2 : Nat) : vM := (let R3 : vM := lpU 1 (LL_F_subtract_2 a0 a1 a2) 10 0 X; R3)
abbrev rm_F_subtract : Room := { frames := 0, cells := 0, slots := 0, locals := 0 }
set_option maxHeartbeats 4000000 in
set_option maxRecDepth 100000 in
theorem v_F_subtract {l : Launch} {D : va_G} {g : ClassId → FieldType → Prop} {E : Nat → Prop} {H0 : Heap} {X : vM} {a0 : Nat} {a1 : Nat} {a2 : Nat} (f0 : sx_A g .long H0 a0 10) (o0 : E a0) (f1 : sx_A g .long H0 a1 10) (f2 : sx_A g .long H0 a2 10) (hV : mm g H0 = X) : Met l y_F_subtract (.code y_F_subtract b_F_subtract 4 none :: G_) rm_F_subtract (sx_Pc [.ref a0, .ref a1, .ref a2] H0 D g) (vx_Qv g E H0 (LF_F_subtract X a0 a1 a2)) 0 0 E := by
  refine vx_mv (own := R_F) (by decide) rfl rfl rfl (Nat.le_of_ble_eq_true rfl) ?_
  intro p e s m args below meth c Q ls EE hl hret
  obtain ⟨hx, hb, hml, hown, hts, hG, hK⟩ := id EE
  have hS : sx_S g E E H0 H0 [] := sx_S.rf
  have hl : lv_has ls 4 [(0, .ref a0), (1, .ref a1), (2, .ref a2)] := hl
  refine lv_iconst (v := nI 0) hx hb d_F_subtract_0 (by decide +kernel) ?_
  refine lv_istore_n (lv' := [(3, .int (nI (0))), (0, .ref a0), (1, .ref a1), (2, .ref a2)]) hx hb d_F_subtract_1 rfl hl (by decide) rfl (fun ls hl => ?_)
  obtain ⟨R3, eR3⟩ : ∃ t : vM, lpU 1 (LL_F_subtract_2 a0 a1 a2) 10 0 X = t := ⟨_, rfl⟩
  refine lpU_go (σ := vM) (P := fun i1 s2 H locs ls => sx_S g E E H0 H locs ∧ mm g H = s2 ∧ lv_has ls 4 [(3, .int (nI (i1))), (0, .ref a0), (1, .ref a1), (2, .ref a2)]) (Wd := fun H locs ls => W p l e rm_F_subtract s m args below meth c H locs 0 0 Q (F0 m 2 ls [])) (N := 10) (d := 1) (by decide) ?_ ?_ 10 0 _ (by omega) eR3 _ _ _ ⟨hS, hV, lv_sub hl [0, 1, 2, 3] rfl⟩
  · intro i1 s2 H locs ls hii1 hP ihi1
    obtain ⟨hS, hV, hl⟩ := hP
    refine lv_iload_n hx hb d_F_subtract_2 rfl (lv_at hl 0 rfl) ?_
    refine lv_bipush (v := nI 10) hx hb d_F_subtract_3 (by decide +kernel) ?_
    refine lv_icmp_ge (tgt := 24) hx hb d_F_subtract_5 (by decide) (fun q => absurd q (nI_ge (by omega) (by omega))) (fun _ => ?_)
    refine lv_aload_n hx hb d_F_subtract_8 rfl (lv_at hl 1 rfl) ?_
    refine lv_iload_n hx hb d_F_subtract_9 rfl (lv_at hl 0 rfl) ?_
    refine lv_aload_n hx hb d_F_subtract_10 rfl (lv_at hl 2 rfl) ?_
    refine lv_iload_n hx hb d_F_subtract_11 rfl (lv_at hl 0 rfl) ?_
    refine vx_lald hx hb hG hS hV f1 (by omega) (by decide) d_F_subtract_12 ?_
    refine lv_aload_n hx hb d_F_subtract_13 rfl (lv_at hl 3 rfl) ?_
    refine lv_iload_n hx hb d_F_subtract_14 rfl (lv_at hl 0 rfl) ?_
    refine vx_lald hx hb hG hS hV f2 (by omega) (by decide) d_F_subtract_15 ?_
    refine lv_lsub hx hb d_F_subtract_16 ?_
    refine vx_last hx hb hG hS hV f0 o0 (by omega) (by decide) d_F_subtract_17 (fun H locs X4 eX4 hS hV => ?_)
    refine lv_iinc (v := nI (i1 + 1)) (lv' := [(3, .int (nI (i1 + 1))), (0, .ref a0), (1, .ref a1), (2, .ref a2)]) hx hb d_F_subtract_18 hl (k := 0) rfl (sx_inc _ _) (by decide) rfl (fun ls hl => ?_)
    refine lv_goto (tgt := 2) hx hb d_F_subtract_21 (by decide) ?_
    exact ihi1 X4 _ _ _ (by subst eX4; exact rfl) ⟨hS, hV, lv_sub hl [0, 1, 2, 3] rfl⟩
  · intro H locs ls hP
    obtain ⟨hS, hV, hl⟩ := hP
    refine lv_iload_n hx hb d_F_subtract_2 rfl (lv_at hl 0 rfl) ?_
    refine lv_bipush (v := nI 10) hx hb d_F_subtract_3 (by decide +kernel) ?_
    refine lv_icmp_ge (tgt := 24) hx hb d_F_subtract_5 (by decide) (fun _ => ?_) (fun q => absurd (nI_le (by omega) (by omega)) q)
    exact hret _ _ _ _ _ (by subst eR3; exact rfl) hS hV d_F_subtract_24
def LL_F_negate_2 (a0 : Nat) (a1 : Nat) : Nat → vM → vM := fun i_0 s_1 => (let X_2 : vM := stL s_1 a0 i_0 (-(s_1.1 a1 i_0)); X_2)
def LF_F_negate (X : vM) (a0 : Nat) (a1 : Nat) : vM := (let R3 : vM := lpU 1 (LL_F_negate_2 a0 a1) 10 0 X; R3)
abbrev rm_F_negate : Room := { frames := 0, cells := 0, slots := 0, locals := 0 }
set_option maxHeartbeats 4000000 in
set_option maxRecDepth 100000 in
theorem v_F_negate {l : Launch} {D : va_G} {g : ClassId → FieldType → Prop} {E : Nat → Prop} {H0 : Heap} {X : vM} {a0 : Nat} {a1 : Nat} (f0 : sx_A g .long H0 a0 10) (o0 : E a0) (f1 : sx_A g .long H0 a1 10) (hV : mm g H0 = X) : Met l y_F_negate (.code y_F_negate b_F_negate 3 none :: G_) rm_F_negate (sx_Pc [.ref a0, .ref a1] H0 D g) (vx_Qv g E H0 (LF_F_negate X a0 a1)) 0 0 E := by
  refine vx_mv (own := R_F) (by decide) rfl rfl rfl (Nat.le_of_ble_eq_true rfl) ?_
  intro p e s m args below meth c Q ls EE hl hret
  obtain ⟨hx, hb, hml, hown, hts, hG, hK⟩ := id EE
  have hS : sx_S g E E H0 H0 [] := sx_S.rf
  have hl : lv_has ls 3 [(0, .ref a0), (1, .ref a1)] := hl
  refine lv_iconst (v := nI 0) hx hb d_F_negate_0 (by decide +kernel) ?_
  refine lv_istore_n (lv' := [(2, .int (nI (0))), (0, .ref a0), (1, .ref a1)]) hx hb d_F_negate_1 rfl hl (by decide) rfl (fun ls hl => ?_)
  obtain ⟨R3, eR3⟩ : ∃ t : vM, lpU 1 (LL_F_negate_2 a0 a1) 10 0 X = t := ⟨_, rfl⟩
  refine lpU_go (σ := vM) (P := fun i1 s2 H locs ls => sx_S g E E H0 H locs ∧ mm g H = s2 ∧ lv_has ls 3 [(2, .int (nI (i1))), (0, .ref a0), (1, .ref a1)]) (Wd := fun H locs ls => W p l e rm_F_negate s m args below meth c H locs 0 0 Q (F0 m 2 ls [])) (N := 10) (d := 1) (by decide) ?_ ?_ 10 0 _ (by omega) eR3 _ _ _ ⟨hS, hV, lv_sub hl [0, 1, 2] rfl⟩
  · intro i1 s2 H locs ls hii1 hP ihi1
    obtain ⟨hS, hV, hl⟩ := hP
    refine lv_iload_n hx hb d_F_negate_2 rfl (lv_at hl 0 rfl) ?_
    refine lv_bipush (v := nI 10) hx hb d_F_negate_3 (by decide +kernel) ?_
    refine lv_icmp_ge (tgt := 21) hx hb d_F_negate_5 (by decide) (fun q => absurd q (nI_ge (by omega) (by omega))) (fun _ => ?_)
    refine lv_aload_n hx hb d_F_negate_8 rfl (lv_at hl 1 rfl) ?_
    refine lv_iload_n hx hb d_F_negate_9 rfl (lv_at hl 0 rfl) ?_
    refine lv_aload_n hx hb d_F_negate_10 rfl (lv_at hl 2 rfl) ?_
    refine lv_iload_n hx hb d_F_negate_11 rfl (lv_at hl 0 rfl) ?_
    refine vx_lald hx hb hG hS hV f1 (by omega) (by decide) d_F_negate_12 ?_
    refine lv_lneg hx hb d_F_negate_13 ?_
    refine vx_last hx hb hG hS hV f0 o0 (by omega) (by decide) d_F_negate_14 (fun H locs X4 eX4 hS hV => ?_)
    refine lv_iinc (v := nI (i1 + 1)) (lv' := [(2, .int (nI (i1 + 1))), (0, .ref a0), (1, .ref a1)]) hx hb d_F_negate_15 hl (k := 0) rfl (sx_inc _ _) (by decide) rfl (fun ls hl => ?_)
    refine lv_goto (tgt := 2) hx hb d_F_negate_18 (by decide) ?_
    exact ihi1 X4 _ _ _ (by subst eX4; exact rfl) ⟨hS, hV, lv_sub hl [0, 1, 2] rfl⟩
  · intro H locs ls hP
    obtain ⟨hS, hV, hl⟩ := hP
    refine lv_iload_n hx hb d_F_negate_2 rfl (lv_at hl 0 rfl) ?_
    refine lv_bipush (v := nI 10) hx hb d_F_negate_3 (by decide +kernel) ?_
    refine lv_icmp_ge (tgt := 21) hx hb d_F_negate_5 (by decide) (fun _ => ?_) (fun q => absurd (nI_le (by omega) (by omega)) q)
    exact hret _ _ _ _ _ (by subst eR3; exact rfl) hS hV d_F_negate_21
def LF_F_carry (X : vM) (a0 : Nat) : vM := (let z2 : Int64 := ((X.1 a0 0) + (0 : Int64)); let z3 : Int64 := ((z2 + (33554432 : Int64)) >>> ((nI 26).toInt64 &&& 63)); let X4 : vM := stL X a0 0 (z2 - (z3 <<< ((nI 26).toInt64 &&& 63))); let z5 : Int64 := ((X4.1 a0 1) + z3); let z6 : Int64 := ((z5 + (16777216 : Int64)) >>> ((nI 25).toInt64 &&& 63)); let X7 : vM := stL X4 a0 1 (z5 - (z6 <<< ((nI 25).toInt64 &&& 63))); let z9 : Int64 := ((X7.1 a0 2) + z6); let z10 : Int64 := ((z9 + (33554432 : Int64)) >>> ((nI 26).toInt64 &&& 63)); let X11 : vM := stL X7 a0 2 (z9 - (z10 <<< ((nI 26).toInt64 &&& 63))); let z12 : Int64 := ((X11.1 a0 3) + z10); let z13 : Int64 := ((z12 + (16777216 : Int64)) >>> ((nI 25).toInt64 &&& 63)); let X14 : vM := stL X11 a0 3 (z12 - (z13 <<< ((nI 25).toInt64 &&& 63))); let z16 : Int64 := ((X14.1 a0 4) + z13); let z17 : Int64 := ((z16 + (33554432 : Int64)) >>> ((nI 26).toInt64 &&& 63)); let X18 : vM := stL X14 a0 4 (z16 - (z17 <<< ((nI 26).toInt64 &&& 63))); let z19 : Int64 := ((X18.1 a0 5) + z17); let z20 : Int64 := ((z19 + (16777216 : Int64)) >>> ((nI 25).toInt64 &&& 63)); let X21 : vM := stL X18 a0 5 (z19 - (z20 <<< ((nI 25).toInt64 &&& 63))); let z23 : Int64 := ((X21.1 a0 6) + z20); let z24 : Int64 := ((z23 + (33554432 : Int64)) >>> ((nI 26).toInt64 &&& 63)); let X25 : vM := stL X21 a0 6 (z23 - (z24 <<< ((nI 26).toInt64 &&& 63))); let z26 : Int64 := ((X25.1 a0 7) + z24); let z27 : Int64 := ((z26 + (16777216 : Int64)) >>> ((nI 25).toInt64 &&& 63)); let X28 : vM := stL X25 a0 7 (z26 - (z27 <<< ((nI 25).toInt64 &&& 63))); let z30 : Int64 := ((X28.1 a0 8) + z27); let z31 : Int64 := ((z30 + (33554432 : Int64)) >>> ((nI 26).toInt64 &&& 63)); let X32 : vM := stL X28 a0 8 (z30 - (z31 <<< ((nI 26).toInt64 &&& 63))); let z33 : Int64 := ((X32.1 a0 9) + z31); let z34 : Int64 := ((z33 + (16777216 : Int64)) >>> ((nI 25).toInt64 &&& 63)); let X35 : vM := stL X32 a0 9 (z33 - (z34 <<< ((nI 25).toInt64 &&& 63))); let z37 : Int64 := ((X35.1 a0 0) + ((19 : Int64) * z34)); let z38 : Int64 := ((z37 + (33554432 : Int64)) >>> ((nI 26).toInt64 &&& 63)); let X39 : vM := stL X35 a0 0 (z37 - (z38 <<< ((nI 26).toInt64 &&& 63))); let X40 : vM := stL X39 a0 1 ((X39.1 a0 1) + z38); X40)
abbrev rm_F_carry : Room := { frames := 0, cells := 0, slots := 0, locals := 0 }
set_option maxHeartbeats 4000000 in
set_option maxRecDepth 100000 in
theorem v_F_carry {l : Launch} {D : va_G} {g : ClassId → FieldType → Prop} {E : Nat → Prop} {H0 : Heap} {X : vM} {a0 : Nat} (f0 : sx_A g .long H0 a0 10) (o0 : E a0) (hV : mm g H0 = X) : Met l y_F_carry (.code y_F_carry b_F_carry 8 none :: G_) rm_F_carry (sx_Pc [.ref a0] H0 D g) (vx_Qv g E H0 (LF_F_carry X a0)) 0 0 E := by
  refine vx_mv (own := R_F) (by decide) rfl rfl rfl (Nat.le_of_ble_eq_true rfl) ?_
  intro p e s m args below meth c Q ls EE hl hret
  obtain ⟨hx, hb, hml, hown, hts, hG, hK⟩ := id EE
  have hS : sx_S g E E H0 H0 [] := sx_S.rf
  have hl : lv_has ls 8 [(0, .ref a0)] := hl
  refine lv_lconst (v := 0) hx hb d_F_carry_0 (by decide +kernel) ?_
  refine lv_lstore_n (lv' := [(1, .long (0 : Int64)), (0, .ref a0)]) hx hb d_F_carry_1 rfl hl (by decide) rfl (fun ls hl => ?_)
  refine lv_iconst (v := nI 0) hx hb d_F_carry_2 (by decide +kernel) ?_
  refine lv_istore_n (lv' := [(3, .int (nI (0))), (1, .long (0 : Int64)), (0, .ref a0)]) hx hb d_F_carry_3 rfl hl (by decide) rfl (fun ls hl => ?_)
  refine lv_iload_n hx hb d_F_carry_4 rfl (lv_at hl 0 rfl) ?_
  refine lv_bipush (v := nI 10) hx hb d_F_carry_5 (by decide +kernel) ?_
  refine lv_icmp_ge (tgt := 74) hx hb d_F_carry_7 (by decide) (fun q7_0 => absurd (show 10 ≤ 0 by have q7_0 : 10 ≤ 0 := (nI_leI (a := 10) (b := 0) (by omega) (by omega)).mp q7_0; exact q7_0) (by decide)) (fun _ => ?_)
  refine lv_aload_n hx hb d_F_carry_10 rfl (lv_at hl 2 rfl) ?_
  refine lv_iload_n hx hb d_F_carry_11 rfl (lv_at hl 0 rfl) ?_
  refine vx_lald hx hb hG hS hV f0 (by omega) (by decide) d_F_carry_12 ?_
  refine lv_lload_n hx hb d_F_carry_13 rfl (lv_at hl 1 rfl) ?_
  refine lv_ladd hx hb d_F_carry_14 ?_
  refine vx_nmL (fun z2 ez2 => ?_)
  refine lv_lstore (lv' := [(4, .long z2), (3, .int (nI (0))), (1, .long (0 : Int64)), (0, .ref a0)]) hx hb d_F_carry_15 hl (by decide) rfl (fun ls hl => ?_)
  refine lv_lload hx hb d_F_carry_17 (lv_at hl 0 rfl) ?_
  refine lv_ldc2 (v := (33554432)) hx hb hown (hts (.constantLong R_F 53 (33554432)) (by decide +kernel)) d_F_carry_19 ?_
  refine lv_ladd hx hb d_F_carry_22 ?_
  refine lv_bipush (v := nI 26) hx hb d_F_carry_23 (by decide +kernel) ?_
  refine lv_lshr hx hb d_F_carry_25 rfl ?_
  refine vx_nmL (fun z3 ez3 => ?_)
  refine lv_lstore_n (lv' := [(1, .long z3), (4, .long z2), (3, .int (nI (0))), (0, .ref a0)]) hx hb d_F_carry_26 rfl hl (by decide) rfl (fun ls hl => ?_)
  refine lv_aload_n hx hb d_F_carry_27 rfl (lv_at hl 3 rfl) ?_
  refine lv_iload_n hx hb d_F_carry_28 rfl (lv_at hl 2 rfl) ?_
  refine lv_lload hx hb d_F_carry_29 (lv_at hl 1 rfl) ?_
  refine lv_lload_n hx hb d_F_carry_31 rfl (lv_at hl 0 rfl) ?_
  refine lv_bipush (v := nI 26) hx hb d_F_carry_32 (by decide +kernel) ?_
  refine lv_lshl hx hb d_F_carry_34 rfl ?_
  refine lv_lsub hx hb d_F_carry_35 ?_
  refine vx_last hx hb hG hS hV f0 o0 (by omega) (by decide) d_F_carry_36 (fun H locs X4 eX4 hS hV => ?_)
  refine lv_aload_n hx hb d_F_carry_37 rfl (lv_at hl 3 rfl) ?_
  refine lv_iload_n hx hb d_F_carry_38 rfl (lv_at hl 2 rfl) ?_
  refine lv_iconst (v := nI 1) hx hb d_F_carry_39 (by decide +kernel) ?_
  refine lv_iadd hx hb d_F_carry_40 ?_
  refine sx_ti (y := nI (1)) (nI_add _ _) ?_
  refine vx_lald hx hb hG hS hV f0 (by omega) (by decide) d_F_carry_41 ?_
  refine lv_lload_n hx hb d_F_carry_42 rfl (lv_at hl 0 rfl) ?_
  refine lv_ladd hx hb d_F_carry_43 ?_
  refine vx_nmL (fun z5 ez5 => ?_)
  refine lv_lstore (lv' := [(6, .long z5), (1, .long z3), (4, .long z2), (3, .int (nI (0))), (0, .ref a0)]) hx hb d_F_carry_44 hl (by decide) rfl (fun ls hl => ?_)
  refine lv_lload hx hb d_F_carry_46 (lv_at hl 0 rfl) ?_
  refine lv_ldc2 (v := (16777216)) hx hb hown (hts (.constantLong R_F 55 (16777216)) (by decide +kernel)) d_F_carry_48 ?_
  refine lv_ladd hx hb d_F_carry_51 ?_
  refine lv_bipush (v := nI 25) hx hb d_F_carry_52 (by decide +kernel) ?_
  refine lv_lshr hx hb d_F_carry_54 rfl ?_
  refine vx_nmL (fun z6 ez6 => ?_)
  refine lv_lstore_n (lv' := [(1, .long z6), (6, .long z5), (4, .long z2), (3, .int (nI (0))), (0, .ref a0)]) hx hb d_F_carry_55 rfl hl (by decide) rfl (fun ls hl => ?_)
  refine lv_aload_n hx hb d_F_carry_56 rfl (lv_at hl 4 rfl) ?_
  refine lv_iload_n hx hb d_F_carry_57 rfl (lv_at hl 3 rfl) ?_
  refine lv_iconst (v := nI 1) hx hb d_F_carry_58 (by decide +kernel) ?_
  refine lv_iadd hx hb d_F_carry_59 ?_
  refine sx_ti (y := nI (1)) (nI_add _ _) ?_
  refine lv_lload hx hb d_F_carry_60 (lv_at hl 1 rfl) ?_
  refine lv_lload_n hx hb d_F_carry_62 rfl (lv_at hl 0 rfl) ?_
  refine lv_bipush (v := nI 25) hx hb d_F_carry_63 (by decide +kernel) ?_
  refine lv_lshl hx hb d_F_carry_65 rfl ?_
  refine lv_lsub hx hb d_F_carry_66 ?_
  refine vx_last hx hb hG hS hV f0 o0 (by omega) (by decide) d_F_carry_67 (fun H locs X7 eX7 hS hV => ?_)
  refine lv_iinc (v := nI (2)) (lv' := [(3, .int (nI (2))), (1, .long z6), (6, .long z5), (4, .long z2), (0, .ref a0)]) hx hb d_F_carry_68 hl (k := 3) rfl (sx_inc _ _) (by decide) rfl (fun ls hl => ?_)
  refine lv_goto (tgt := 4) hx hb d_F_carry_71 (by decide) ?_
  refine lv_iload_n hx hb d_F_carry_4 rfl (lv_at hl 0 rfl) ?_
  refine lv_bipush (v := nI 10) hx hb d_F_carry_5 (by decide +kernel) ?_
  refine lv_icmp_ge (tgt := 74) hx hb d_F_carry_7 (by decide) (fun q7_7 => absurd (show 10 ≤ 2 by have q7_7 : 10 ≤ 2 := (nI_leI (a := 10) (b := 2) (by omega) (by omega)).mp q7_7; exact q7_7) (by decide)) (fun _ => ?_)
  refine lv_aload_n hx hb d_F_carry_10 rfl (lv_at hl 4 rfl) ?_
  refine lv_iload_n hx hb d_F_carry_11 rfl (lv_at hl 0 rfl) ?_
  refine vx_lald hx hb hG hS hV f0 (by omega) (by decide) d_F_carry_12 ?_
  refine lv_lload_n hx hb d_F_carry_13 rfl (lv_at hl 1 rfl) ?_
  refine lv_ladd hx hb d_F_carry_14 ?_
  refine vx_nmL (fun z9 ez9 => ?_)
  refine lv_lstore (lv' := [(4, .long z9), (3, .int (nI (2))), (1, .long z6), (6, .long z5), (0, .ref a0)]) hx hb d_F_carry_15 hl (by decide) rfl (fun ls hl => ?_)
  refine lv_lload hx hb d_F_carry_17 (lv_at hl 0 rfl) ?_
  refine lv_ldc2 (v := (33554432)) hx hb hown (hts (.constantLong R_F 53 (33554432)) (by decide +kernel)) d_F_carry_19 ?_
  refine lv_ladd hx hb d_F_carry_22 ?_
  refine lv_bipush (v := nI 26) hx hb d_F_carry_23 (by decide +kernel) ?_
  refine lv_lshr hx hb d_F_carry_25 rfl ?_
  refine vx_nmL (fun z10 ez10 => ?_)
  refine lv_lstore_n (lv' := [(1, .long z10), (4, .long z9), (3, .int (nI (2))), (6, .long z5), (0, .ref a0)]) hx hb d_F_carry_26 rfl hl (by decide) rfl (fun ls hl => ?_)
  refine lv_aload_n hx hb d_F_carry_27 rfl (lv_at hl 4 rfl) ?_
  refine lv_iload_n hx hb d_F_carry_28 rfl (lv_at hl 2 rfl) ?_
  refine lv_lload hx hb d_F_carry_29 (lv_at hl 1 rfl) ?_
  refine lv_lload_n hx hb d_F_carry_31 rfl (lv_at hl 0 rfl) ?_
  refine lv_bipush (v := nI 26) hx hb d_F_carry_32 (by decide +kernel) ?_
  refine lv_lshl hx hb d_F_carry_34 rfl ?_
  refine lv_lsub hx hb d_F_carry_35 ?_
  refine vx_last hx hb hG hS hV f0 o0 (by omega) (by decide) d_F_carry_36 (fun H locs X11 eX11 hS hV => ?_)
  refine lv_aload_n hx hb d_F_carry_37 rfl (lv_at hl 4 rfl) ?_
  refine lv_iload_n hx hb d_F_carry_38 rfl (lv_at hl 2 rfl) ?_
  refine lv_iconst (v := nI 1) hx hb d_F_carry_39 (by decide +kernel) ?_
  refine lv_iadd hx hb d_F_carry_40 ?_
  refine sx_ti (y := nI (3)) (nI_add _ _) ?_
  refine vx_lald hx hb hG hS hV f0 (by omega) (by decide) d_F_carry_41 ?_
  refine lv_lload_n hx hb d_F_carry_42 rfl (lv_at hl 0 rfl) ?_
  refine lv_ladd hx hb d_F_carry_43 ?_
  refine vx_nmL (fun z12 ez12 => ?_)
  refine lv_lstore (lv' := [(6, .long z12), (1, .long z10), (4, .long z9), (3, .int (nI (2))), (0, .ref a0)]) hx hb d_F_carry_44 hl (by decide) rfl (fun ls hl => ?_)
  refine lv_lload hx hb d_F_carry_46 (lv_at hl 0 rfl) ?_
  refine lv_ldc2 (v := (16777216)) hx hb hown (hts (.constantLong R_F 55 (16777216)) (by decide +kernel)) d_F_carry_48 ?_
  refine lv_ladd hx hb d_F_carry_51 ?_
  refine lv_bipush (v := nI 25) hx hb d_F_carry_52 (by decide +kernel) ?_
  refine lv_lshr hx hb d_F_carry_54 rfl ?_
  refine vx_nmL (fun z13 ez13 => ?_)
  refine lv_lstore_n (lv' := [(1, .long z13), (6, .long z12), (4, .long z9), (3, .int (nI (2))), (0, .ref a0)]) hx hb d_F_carry_55 rfl hl (by decide) rfl (fun ls hl => ?_)
  refine lv_aload_n hx hb d_F_carry_56 rfl (lv_at hl 4 rfl) ?_
  refine lv_iload_n hx hb d_F_carry_57 rfl (lv_at hl 3 rfl) ?_
  refine lv_iconst (v := nI 1) hx hb d_F_carry_58 (by decide +kernel) ?_
  refine lv_iadd hx hb d_F_carry_59 ?_
  refine sx_ti (y := nI (3)) (nI_add _ _) ?_
  refine lv_lload hx hb d_F_carry_60 (lv_at hl 1 rfl) ?_
  refine lv_lload_n hx hb d_F_carry_62 rfl (lv_at hl 0 rfl) ?_
  refine lv_bipush (v := nI 25) hx hb d_F_carry_63 (by decide +kernel) ?_
  refine lv_lshl hx hb d_F_carry_65 rfl ?_
  refine lv_lsub hx hb d_F_carry_66 ?_
  refine vx_last hx hb hG hS hV f0 o0 (by omega) (by decide) d_F_carry_67 (fun H locs X14 eX14 hS hV => ?_)
  refine lv_iinc (v := nI (4)) (lv' := [(3, .int (nI (4))), (1, .long z13), (6, .long z12), (4, .long z9), (0, .ref a0)]) hx hb d_F_carry_68 hl (k := 3) rfl (sx_inc _ _) (by decide) rfl (fun ls hl => ?_)
  refine lv_goto (tgt := 4) hx hb d_F_carry_71 (by decide) ?_
  refine lv_iload_n hx hb d_F_carry_4 rfl (lv_at hl 0 rfl) ?_
  refine lv_bipush (v := nI 10) hx hb d_F_carry_5 (by decide +kernel) ?_
  refine lv_icmp_ge (tgt := 74) hx hb d_F_carry_7 (by decide) (fun q7_14 => absurd (show 10 ≤ 4 by have q7_14 : 10 ≤ 4 := (nI_leI (a := 10) (b := 4) (by omega) (by omega)).mp q7_14; exact q7_14) (by decide)) (fun _ => ?_)
  refine lv_aload_n hx hb d_F_carry_10 rfl (lv_at hl 4 rfl) ?_
  refine lv_iload_n hx hb d_F_carry_11 rfl (lv_at hl 0 rfl) ?_
  refine vx_lald hx hb hG hS hV f0 (by omega) (by decide) d_F_carry_12 ?_
  refine lv_lload_n hx hb d_F_carry_13 rfl (lv_at hl 1 rfl) ?_
  refine lv_ladd hx hb d_F_carry_14 ?_
  refine vx_nmL (fun z16 ez16 => ?_)
  refine lv_lstore (lv' := [(4, .long z16), (3, .int (nI (4))), (1, .long z13), (6, .long z12), (0, .ref a0)]) hx hb d_F_carry_15 hl (by decide) rfl (fun ls hl => ?_)
  refine lv_lload hx hb d_F_carry_17 (lv_at hl 0 rfl) ?_
  refine lv_ldc2 (v := (33554432)) hx hb hown (hts (.constantLong R_F 53 (33554432)) (by decide +kernel)) d_F_carry_19 ?_
  refine lv_ladd hx hb d_F_carry_22 ?_
  refine lv_bipush (v := nI 26) hx hb d_F_carry_23 (by decide +kernel) ?_
  refine lv_lshr hx hb d_F_carry_25 rfl ?_
  refine vx_nmL (fun z17 ez17 => ?_)
  refine lv_lstore_n (lv' := [(1, .long z17), (4, .long z16), (3, .int (nI (4))), (6, .long z12), (0, .ref a0)]) hx hb d_F_carry_26 rfl hl (by decide) rfl (fun ls hl => ?_)
  refine lv_aload_n hx hb d_F_carry_27 rfl (lv_at hl 4 rfl) ?_
  refine lv_iload_n hx hb d_F_carry_28 rfl (lv_at hl 2 rfl) ?_
  refine lv_lload hx hb d_F_carry_29 (lv_at hl 1 rfl) ?_
  refine lv_lload_n hx hb d_F_carry_31 rfl (lv_at hl 0 rfl) ?_
  refine lv_bipush (v := nI 26) hx hb d_F_carry_32 (by decide +kernel) ?_
  refine lv_lshl hx hb d_F_carry_34 rfl ?_
  refine lv_lsub hx hb d_F_carry_35 ?_
  refine vx_last hx hb hG hS hV f0 o0 (by omega) (by decide) d_F_carry_36 (fun H locs X18 eX18 hS hV => ?_)
  refine lv_aload_n hx hb d_F_carry_37 rfl (lv_at hl 4 rfl) ?_
  refine lv_iload_n hx hb d_F_carry_38 rfl (lv_at hl 2 rfl) ?_
  refine lv_iconst (v := nI 1) hx hb d_F_carry_39 (by decide +kernel) ?_
  refine lv_iadd hx hb d_F_carry_40 ?_
  refine sx_ti (y := nI (5)) (nI_add _ _) ?_
  refine vx_lald hx hb hG hS hV f0 (by omega) (by decide) d_F_carry_41 ?_
  refine lv_lload_n hx hb d_F_carry_42 rfl (lv_at hl 0 rfl) ?_
  refine lv_ladd hx hb d_F_carry_43 ?_
  refine vx_nmL (fun z19 ez19 => ?_)
  refine lv_lstore (lv' := [(6, .long z19), (1, .long z17), (4, .long z16), (3, .int (nI (4))), (0, .ref a0)]) hx hb d_F_carry_44 hl (by decide) rfl (fun ls hl => ?_)
  refine lv_lload hx hb d_F_carry_46 (lv_at hl 0 rfl) ?_
  refine lv_ldc2 (v := (16777216)) hx hb hown (hts (.constantLong R_F 55 (16777216)) (by decide +kernel)) d_F_carry_48 ?_
  refine lv_ladd hx hb d_F_carry_51 ?_
  refine lv_bipush (v := nI 25) hx hb d_F_carry_52 (by decide +kernel) ?_
  refine lv_lshr hx hb d_F_carry_54 rfl ?_
  refine vx_nmL (fun z20 ez20 => ?_)
  refine lv_lstore_n (lv' := [(1, .long z20), (6, .long z19), (4, .long z16), (3, .int (nI (4))), (0, .ref a0)]) hx hb d_F_carry_55 rfl hl (by decide) rfl (fun ls hl => ?_)
  refine lv_aload_n hx hb d_F_carry_56 rfl (lv_at hl 4 rfl) ?_
  refine lv_iload_n hx hb d_F_carry_57 rfl (lv_at hl 3 rfl) ?_
  refine lv_iconst (v := nI 1) hx hb d_F_carry_58 (by decide +kernel) ?_
  refine lv_iadd hx hb d_F_carry_59 ?_
  refine sx_ti (y := nI (5)) (nI_add _ _) ?_
  refine lv_lload hx hb d_F_carry_60 (lv_at hl 1 rfl) ?_
  refine lv_lload_n hx hb d_F_carry_62 rfl (lv_at hl 0 rfl) ?_
  refine lv_bipush (v := nI 25) hx hb d_F_carry_63 (by decide +kernel) ?_
  refine lv_lshl hx hb d_F_carry_65 rfl ?_
  refine lv_lsub hx hb d_F_carry_66 ?_
  refine vx_last hx hb hG hS hV f0 o0 (by omega) (by decide) d_F_carry_67 (fun H locs X21 eX21 hS hV => ?_)
  refine lv_iinc (v := nI (6)) (lv' := [(3, .int (nI (6))), (1, .long z20), (6, .long z19), (4, .long z16), (0, .ref a0)]) hx hb d_F_carry_68 hl (k := 3) rfl (sx_inc _ _) (by decide) rfl (fun ls hl => ?_)
  refine lv_goto (tgt := 4) hx hb d_F_carry_71 (by decide) ?_
  refine lv_iload_n hx hb d_F_carry_4 rfl (lv_at hl 0 rfl) ?_
  refine lv_bipush (v := nI 10) hx hb d_F_carry_5 (by decide +kernel) ?_
  refine lv_icmp_ge (tgt := 74) hx hb d_F_carry_7 (by decide) (fun q7_21 => absurd (show 10 ≤ 6 by have q7_21 : 10 ≤ 6 := (nI_leI (a := 10) (b := 6) (by omega) (by omega)).mp q7_21; exact q7_21) (by decide)) (fun _ => ?_)
  refine lv_aload_n hx hb d_F_carry_10 rfl (lv_at hl 4 rfl) ?_
  refine lv_iload_n hx hb d_F_carry_11 rfl (lv_at hl 0 rfl) ?_
  refine vx_lald hx hb hG hS hV f0 (by omega) (by decide) d_F_carry_12 ?_
  refine lv_lload_n hx hb d_F_carry_13 rfl (lv_at hl 1 rfl) ?_
  refine lv_ladd hx hb d_F_carry_14 ?_
  refine vx_nmL (fun z23 ez23 => ?_)
  refine lv_lstore (lv' := [(4, .long z23), (3, .int (nI (6))), (1, .long z20), (6, .long z19), (0, .ref a0)]) hx hb d_F_carry_15 hl (by decide) rfl (fun ls hl => ?_)
  refine lv_lload hx hb d_F_carry_17 (lv_at hl 0 rfl) ?_
  refine lv_ldc2 (v := (33554432)) hx hb hown (hts (.constantLong R_F 53 (33554432)) (by decide +kernel)) d_F_carry_19 ?_
  refine lv_ladd hx hb d_F_carry_22 ?_
  refine lv_bipush (v := nI 26) hx hb d_F_carry_23 (by decide +kernel) ?_
  refine lv_lshr hx hb d_F_carry_25 rfl ?_
  refine vx_nmL (fun z24 ez24 => ?_)
  refine lv_lstore_n (lv' := [(1, .long z24), (4, .long z23), (3, .int (nI (6))), (6, .long z19), (0, .ref a0)]) hx hb d_F_carry_26 rfl hl (by decide) rfl (fun ls hl => ?_)
  refine lv_aload_n hx hb d_F_carry_27 rfl (lv_at hl 4 rfl) ?_
  refine lv_iload_n hx hb d_F_carry_28 rfl (lv_at hl 2 rfl) ?_
  refine lv_lload hx hb d_F_carry_29 (lv_at hl 1 rfl) ?_
  refine lv_lload_n hx hb d_F_carry_31 rfl (lv_at hl 0 rfl) ?_
  refine lv_bipush (v := nI 26) hx hb d_F_carry_32 (by decide +kernel) ?_
  refine lv_lshl hx hb d_F_carry_34 rfl ?_
  refine lv_lsub hx hb d_F_carry_35 ?_
  refine vx_last hx hb hG hS hV f0 o0 (by omega) (by decide) d_F_carry_36 (fun H locs X25 eX25 hS hV => ?_)
  refine lv_aload_n hx hb d_F_carry_37 rfl (lv_at hl 4 rfl) ?_
  refine lv_iload_n hx hb d_F_carry_38 rfl (lv_at hl 2 rfl) ?_
  refine lv_iconst (v := nI 1) hx hb d_F_carry_39 (by decide +kernel) ?_
  refine lv_iadd hx hb d_F_carry_40 ?_
  refine sx_ti (y := nI (7)) (nI_add _ _) ?_
  refine vx_lald hx hb hG hS hV f0 (by omega) (by decide) d_F_carry_41 ?_
  refine lv_lload_n hx hb d_F_carry_42 rfl (lv_at hl 0 rfl) ?_
  refine lv_ladd hx hb d_F_carry_43 ?_
  refine vx_nmL (fun z26 ez26 => ?_)
  refine lv_lstore (lv' := [(6, .long z26), (1, .long z24), (4, .long z23), (3, .int (nI (6))), (0, .ref a0)]) hx hb d_F_carry_44 hl (by decide) rfl (fun ls hl => ?_)
  refine lv_lload hx hb d_F_carry_46 (lv_at hl 0 rfl) ?_
  refine lv_ldc2 (v := (16777216)) hx hb hown (hts (.constantLong R_F 55 (16777216)) (by decide +kernel)) d_F_carry_48 ?_
  refine lv_ladd hx hb d_F_carry_51 ?_
  refine lv_bipush (v := nI 25) hx hb d_F_carry_52 (by decide +kernel) ?_
  refine lv_lshr hx hb d_F_carry_54 rfl ?_
  refine vx_nmL (fun z27 ez27 => ?_)
  refine lv_lstore_n (lv' := [(1, .long z27), (6, .long z26), (4, .long z23), (3, .int (nI (6))), (0, .ref a0)]) hx hb d_F_carry_55 rfl hl (by decide) rfl (fun ls hl => ?_)
  refine lv_aload_n hx hb d_F_carry_56 rfl (lv_at hl 4 rfl) ?_
  refine lv_iload_n hx hb d_F_carry_57 rfl (lv_at hl 3 rfl) ?_
  refine lv_iconst (v := nI 1) hx hb d_F_carry_58 (by decide +kernel) ?_
  refine lv_iadd hx hb d_F_carry_59 ?_
  refine sx_ti (y := nI (7)) (nI_add _ _) ?_
  refine lv_lload hx hb d_F_carry_60 (lv_at hl 1 rfl) ?_
  refine lv_lload_n hx hb d_F_carry_62 rfl (lv_at hl 0 rfl) ?_
  refine lv_bipush (v := nI 25) hx hb d_F_carry_63 (by decide +kernel) ?_
  refine lv_lshl hx hb d_F_carry_65 rfl ?_
  refine lv_lsub hx hb d_F_carry_66 ?_
  refine vx_last hx hb hG hS hV f0 o0 (by omega) (by decide) d_F_carry_67 (fun H locs X28 eX28 hS hV => ?_)
  refine lv_iinc (v := nI (8)) (lv' := [(3, .int (nI (8))), (1, .long z27), (6, .long z26), (4, .long z23), (0, .ref a0)]) hx hb d_F_carry_68 hl (k := 3) rfl (sx_inc _ _) (by decide) rfl (fun ls hl => ?_)
  refine lv_goto (tgt := 4) hx hb d_F_carry_71 (by decide) ?_
  refine lv_iload_n hx hb d_F_carry_4 rfl (lv_at hl 0 rfl) ?_
  refine lv_bipush (v := nI 10) hx hb d_F_carry_5 (by decide +kernel) ?_
  refine lv_icmp_ge (tgt := 74) hx hb d_F_carry_7 (by decide) (fun q7_28 => absurd (show 10 ≤ 8 by have q7_28 : 10 ≤ 8 := (nI_leI (a := 10) (b := 8) (by omega) (by omega)).mp q7_28; exact q7_28) (by decide)) (fun _ => ?_)
  refine lv_aload_n hx hb d_F_carry_10 rfl (lv_at hl 4 rfl) ?_
  refine lv_iload_n hx hb d_F_carry_11 rfl (lv_at hl 0 rfl) ?_
  refine vx_lald hx hb hG hS hV f0 (by omega) (by decide) d_F_carry_12 ?_
  refine lv_lload_n hx hb d_F_carry_13 rfl (lv_at hl 1 rfl) ?_
  refine lv_ladd hx hb d_F_carry_14 ?_
  refine vx_nmL (fun z30 ez30 => ?_)
  refine lv_lstore (lv' := [(4, .long z30), (3, .int (nI (8))), (1, .long z27), (6, .long z26), (0, .ref a0)]) hx hb d_F_carry_15 hl (by decide) rfl (fun ls hl => ?_)
  refine lv_lload hx hb d_F_carry_17 (lv_at hl 0 rfl) ?_
  refine lv_ldc2 (v := (33554432)) hx hb hown (hts (.constantLong R_F 53 (33554432)) (by decide +kernel)) d_F_carry_19 ?_
  refine lv_ladd hx hb d_F_carry_22 ?_
  refine lv_bipush (v := nI 26) hx hb d_F_carry_23 (by decide +kernel) ?_
  refine lv_lshr hx hb d_F_carry_25 rfl ?_
  refine vx_nmL (fun z31 ez31 => ?_)
  refine lv_lstore_n (lv' := [(1, .long z31), (4, .long z30), (3, .int (nI (8))), (6, .long z26), (0, .ref a0)]) hx hb d_F_carry_26 rfl hl (by decide) rfl (fun ls hl => ?_)
  refine lv_aload_n hx hb d_F_carry_27 rfl (lv_at hl 4 rfl) ?_
  refine lv_iload_n hx hb d_F_carry_28 rfl (lv_at hl 2 rfl) ?_
  refine lv_lload hx hb d_F_carry_29 (lv_at hl 1 rfl) ?_
  refine lv_lload_n hx hb d_F_carry_31 rfl (lv_at hl 0 rfl) ?_
  refine lv_bipush (v := nI 26) hx hb d_F_carry_32 (by decide +kernel) ?_
  refine lv_lshl hx hb d_F_carry_34 rfl ?_
  refine lv_lsub hx hb d_F_carry_35 ?_
  refine vx_last hx hb hG hS hV f0 o0 (by omega) (by decide) d_F_carry_36 (fun H locs X32 eX32 hS hV => ?_)
  refine lv_aload_n hx hb d_F_carry_37 rfl (lv_at hl 4 rfl) ?_
  refine lv_iload_n hx hb d_F_carry_38 rfl (lv_at hl 2 rfl) ?_
  refine lv_iconst (v := nI 1) hx hb d_F_carry_39 (by decide +kernel) ?_
  refine lv_iadd hx hb d_F_carry_40 ?_
  refine sx_ti (y := nI (9)) (nI_add _ _) ?_
  refine vx_lald hx hb hG hS hV f0 (by omega) (by decide) d_F_carry_41 ?_
  refine lv_lload_n hx hb d_F_carry_42 rfl (lv_at hl 0 rfl) ?_
  refine lv_ladd hx hb d_F_carry_43 ?_
  refine vx_nmL (fun z33 ez33 => ?_)
  refine lv_lstore (lv' := [(6, .long z33), (1, .long z31), (4, .long z30), (3, .int (nI (8))), (0, .ref a0)]) hx hb d_F_carry_44 hl (by decide) rfl (fun ls hl => ?_)
  refine lv_lload hx hb d_F_carry_46 (lv_at hl 0 rfl) ?_
  refine lv_ldc2 (v := (16777216)) hx hb hown (hts (.constantLong R_F 55 (16777216)) (by decide +kernel)) d_F_carry_48 ?_
  refine lv_ladd hx hb d_F_carry_51 ?_
  refine lv_bipush (v := nI 25) hx hb d_F_carry_52 (by decide +kernel) ?_
  refine lv_lshr hx hb d_F_carry_54 rfl ?_
  refine vx_nmL (fun z34 ez34 => ?_)
  refine lv_lstore_n (lv' := [(1, .long z34), (6, .long z33), (4, .long z30), (3, .int (nI (8))), (0, .ref a0)]) hx hb d_F_carry_55 rfl hl (by decide) rfl (fun ls hl => ?_)
  refine lv_aload_n hx hb d_F_carry_56 rfl (lv_at hl 4 rfl) ?_
  refine lv_iload_n hx hb d_F_carry_57 rfl (lv_at hl 3 rfl) ?_
  refine lv_iconst (v := nI 1) hx hb d_F_carry_58 (by decide +kernel) ?_
  refine lv_iadd hx hb d_F_carry_59 ?_
  refine sx_ti (y := nI (9)) (nI_add _ _) ?_
  refine lv_lload hx hb d_F_carry_60 (lv_at hl 1 rfl) ?_
  refine lv_lload_n hx hb d_F_carry_62 rfl (lv_at hl 0 rfl) ?_
  refine lv_bipush (v := nI 25) hx hb d_F_carry_63 (by decide +kernel) ?_
  refine lv_lshl hx hb d_F_carry_65 rfl ?_
  refine lv_lsub hx hb d_F_carry_66 ?_
  refine vx_last hx hb hG hS hV f0 o0 (by omega) (by decide) d_F_carry_67 (fun H locs X35 eX35 hS hV => ?_)
  refine lv_iinc (v := nI (10)) (lv' := [(3, .int (nI (10))), (1, .long z34), (6, .long z33), (4, .long z30), (0, .ref a0)]) hx hb d_F_carry_68 hl (k := 3) rfl (sx_inc _ _) (by decide) rfl (fun ls hl => ?_)
  refine lv_goto (tgt := 4) hx hb d_F_carry_71 (by decide) ?_
  refine lv_iload_n hx hb d_F_carry_4 rfl (lv_at hl 0 rfl) ?_
  refine lv_bipush (v := nI 10) hx hb d_F_carry_5 (by decide +kernel) ?_
  refine lv_icmp_ge (tgt := 74) hx hb d_F_carry_7 (by decide) (fun _ => ?_) (fun q7_35 => absurd (show 10 ≤ 10 by decide) (by have q7_35 : ¬ (10 ≤ 10) := fun z => q7_35 ((nI_leI (a := 10) (b := 10) (by omega) (by omega)).mpr z); exact q7_35))
  refine lv_aload_n hx hb d_F_carry_74 rfl (lv_at hl 4 rfl) ?_
  refine lv_iconst (v := nI 0) hx hb d_F_carry_75 (by decide +kernel) ?_
  refine vx_lald hx hb hG hS hV f0 (by omega) (by decide) d_F_carry_76 ?_
  refine lv_ldc2 (v := (19)) hx hb hown (hts (.constantLong R_F 51 (19)) (by decide +kernel)) d_F_carry_77 ?_
  refine lv_lload_n hx hb d_F_carry_80 rfl (lv_at hl 1 rfl) ?_
  refine lv_lmul hx hb d_F_carry_81 ?_
  refine lv_ladd hx hb d_F_carry_82 ?_
  refine vx_nmL (fun z37 ez37 => ?_)
  refine lv_lstore_n (lv' := [(3, .long z37), (1, .long z34), (6, .long z33), (0, .ref a0)]) hx hb d_F_carry_83 rfl hl (by decide) rfl (fun ls hl => ?_)
  refine lv_lload_n hx hb d_F_carry_84 rfl (lv_at hl 0 rfl) ?_
  refine lv_ldc2 (v := (33554432)) hx hb hown (hts (.constantLong R_F 53 (33554432)) (by decide +kernel)) d_F_carry_85 ?_
  refine lv_ladd hx hb d_F_carry_88 ?_
  refine lv_bipush (v := nI 26) hx hb d_F_carry_89 (by decide +kernel) ?_
  refine lv_lshr hx hb d_F_carry_91 rfl ?_
  refine vx_nmL (fun z38 ez38 => ?_)
  refine lv_lstore_n (lv' := [(1, .long z38), (3, .long z37), (6, .long z33), (0, .ref a0)]) hx hb d_F_carry_92 rfl hl (by decide) rfl (fun ls hl => ?_)
  refine lv_aload_n hx hb d_F_carry_93 rfl (lv_at hl 3 rfl) ?_
  refine lv_iconst (v := nI 0) hx hb d_F_carry_94 (by decide +kernel) ?_
  refine lv_lload_n hx hb d_F_carry_95 rfl (lv_at hl 1 rfl) ?_
  refine lv_lload_n hx hb d_F_carry_96 rfl (lv_at hl 0 rfl) ?_
  refine lv_bipush (v := nI 26) hx hb d_F_carry_97 (by decide +kernel) ?_
  refine lv_lshl hx hb d_F_carry_99 rfl ?_
  refine lv_lsub hx hb d_F_carry_100 ?_
  refine vx_last hx hb hG hS hV f0 o0 (by omega) (by decide) d_F_carry_101 (fun H locs X39 eX39 hS hV => ?_)
  refine lv_aload_n hx hb d_F_carry_102 rfl (lv_at hl 3 rfl) ?_
  refine lv_iconst (v := nI 1) hx hb d_F_carry_103 (by decide +kernel) ?_
  refine lv_dup2_11 hx hb d_F_carry_104 rfl rfl ?_
  refine vx_lald hx hb hG hS hV f0 (by omega) (by decide) d_F_carry_105 ?_
  refine lv_lload_n hx hb d_F_carry_106 rfl (lv_at hl 0 rfl) ?_
  refine lv_ladd hx hb d_F_carry_107 ?_
  refine vx_last hx hb hG hS hV f0 o0 (by omega) (by decide) d_F_carry_108 (fun H locs X40 eX40 hS hV => ?_)
  exact hret _ _ _ _ _ (by subst ez2 ez3 eX4 ez5 ez6 eX7 ez9 ez10 eX11 ez12 ez13 eX14 ez16 ez17 eX18 ez19 ez20 eX21 ez23 ez24 eX25 ez26 ez27 eX28 ez30 ez31 eX32 ez33 ez34 eX35 ez37 ez38 eX39 eX40; exact rfl) hS hV d_F_carry_109
def LL_F_scale_3 (a0 : Nat) (a1 : Nat) (v2 : Int64) : Nat → vM → vM := fun i_0 s_1 => (let X_2 : vM := stL s_1 a0 i_0 ((s_1.1 a1 i_0) * v2); X_2)
def LF_F_scale (X : vM) (a0 : Nat) (a1 : Nat) (v2 : Int64) : vM := (let R3 : vM := lpU 1 (LL_F_scale_3 a0 a1 v2) 10 0 X; (let X5 : vM := (LF_F_carry R3 a0); X5))
abbrev rm_F_scale : Room := { frames := 1, cells := 0, slots := 0, locals := 27 }
set_option maxHeartbeats 4000000 in
set_option maxRecDepth 100000 in
theorem v_F_scale {l : Launch} {D : va_G} {g : ClassId → FieldType → Prop} {E : Nat → Prop} {H0 : Heap} {X : vM} {a0 : Nat} {a1 : Nat} {v2 : Int64} (f0 : sx_A g .long H0 a0 10) (o0 : E a0) (f1 : sx_A g .long H0 a1 10) (hV : mm g H0 = X) : Met l y_F_scale (.code y_F_scale b_F_scale 5 none :: G_) rm_F_scale (sx_Pc [.ref a0, .ref a1, .long v2] H0 D g) (vx_Qv g E H0 (LF_F_scale X a0 a1 v2)) 0 0 E := by
  refine vx_mv (own := R_F) (by decide) rfl rfl rfl (Nat.le_of_ble_eq_true rfl) ?_
  intro p e s m args below meth c Q ls EE hl hret
  obtain ⟨hx, hb, hml, hown, hts, hG, hK⟩ := id EE
  have hS : sx_S g E E H0 H0 [] := sx_S.rf
  have hl : lv_has ls 5 [(0, .ref a0), (1, .ref a1), (2, .long v2)] := hl
  refine lv_iconst (v := nI 0) hx hb d_F_scale_0 (by decide +kernel) ?_
  refine lv_istore (lv' := [(4, .int (nI (0))), (0, .ref a0), (1, .ref a1), (2, .long v2)]) hx hb d_F_scale_1 hl (by decide) rfl (fun ls hl => ?_)
  obtain ⟨R3, eR3⟩ : ∃ t : vM, lpU 1 (LL_F_scale_3 a0 a1 v2) 10 0 X = t := ⟨_, rfl⟩
  refine lpU_go (σ := vM) (P := fun i1 s2 H locs ls => sx_S g E E H0 H locs ∧ mm g H = s2 ∧ lv_has ls 5 [(4, .int (nI (i1))), (0, .ref a0), (1, .ref a1), (2, .long v2)]) (Wd := fun H locs ls => W p l e rm_F_scale s m args below meth c H locs 0 0 Q (F0 m 3 ls [])) (N := 10) (d := 1) (by decide) ?_ ?_ 10 0 _ (by omega) eR3 _ _ _ ⟨hS, hV, lv_sub hl [0, 1, 2, 3] rfl⟩
  · intro i1 s2 H locs ls hii1 hP ihi1
    obtain ⟨hS, hV, hl⟩ := hP
    refine lv_iload hx hb d_F_scale_3 (lv_at hl 0 rfl) ?_
    refine lv_bipush (v := nI 10) hx hb d_F_scale_5 (by decide +kernel) ?_
    refine lv_icmp_ge (tgt := 26) hx hb d_F_scale_7 (by decide) (fun q => absurd q (nI_ge (by omega) (by omega))) (fun _ => ?_)
    refine lv_aload_n hx hb d_F_scale_10 rfl (lv_at hl 1 rfl) ?_
    refine lv_iload hx hb d_F_scale_11 (lv_at hl 0 rfl) ?_
    refine lv_aload_n hx hb d_F_scale_13 rfl (lv_at hl 2 rfl) ?_
    refine lv_iload hx hb d_F_scale_14 (lv_at hl 0 rfl) ?_
    refine vx_lald hx hb hG hS hV f1 (by omega) (by decide) d_F_scale_16 ?_
    refine lv_lload_n hx hb d_F_scale_17 rfl (lv_at hl 3 rfl) ?_
    refine lv_lmul hx hb d_F_scale_18 ?_
    refine vx_last hx hb hG hS hV f0 o0 (by omega) (by decide) d_F_scale_19 (fun H locs X4 eX4 hS hV => ?_)
    refine lv_iinc (v := nI (i1 + 1)) (lv' := [(4, .int (nI (i1 + 1))), (0, .ref a0), (1, .ref a1), (2, .long v2)]) hx hb d_F_scale_20 hl (k := 0) rfl (sx_inc _ _) (by decide) rfl (fun ls hl => ?_)
    refine lv_goto (tgt := 3) hx hb d_F_scale_23 (by decide) ?_
    exact ihi1 X4 _ _ _ (by subst eX4; exact rfl) ⟨hS, hV, lv_sub hl [0, 1, 2, 3] rfl⟩
  · intro H locs ls hP
    obtain ⟨hS, hV, hl⟩ := hP
    refine lv_iload hx hb d_F_scale_3 (lv_at hl 0 rfl) ?_
    refine lv_bipush (v := nI 10) hx hb d_F_scale_5 (by decide +kernel) ?_
    refine lv_icmp_ge (tgt := 26) hx hb d_F_scale_7 (by decide) (fun _ => ?_) (fun q => absurd (nI_le (by omega) (by omega)) q)
    refine lv_aload_n hx hb d_F_scale_26 rfl (lv_at hl 1 rfl) ?_
    refine vx_gv (sx_runS (As := [.ref a0]) (rest := []) EE (v_F_carry (X := R3) (hS.a f0) o0 hV) w_F_45 rfl ⟨rfl, rfl⟩ ⟨Nat.le_of_ble_eq_true rfl, Nat.le_of_ble_eq_true rfl⟩ ⟨Nat.zero_le _, Nat.zero_le _⟩ hl.1 rfl (Nat.le_of_ble_eq_true rfl) d_F_scale_27) hS (fun H locs X5 eX5 hS hV => ?_)
    exact hret _ _ _ _ _ (by subst eR3 eX5; exact rfl) hS hV d_F_scale_30
def LF_F_widthOf (X : vM) (v0 : Nat) : Nat := 26 - (v0 % 2)
abbrev rm_F_widthOf : Room := { frames := 0, cells := 0, slots := 0, locals := 0 }
set_option maxHeartbeats 4000000 in
set_option maxRecDepth 100000 in
theorem v_F_widthOf {l : Launch} {D : va_G} {g : ClassId → FieldType → Prop} {E : Nat → Prop} {H0 : Heap} {X : vM} {v0 : Nat} (h0 : v0 < 10) (hV : mm g H0 = X) : Met l y_F_widthOf (.code y_F_widthOf b_F_widthOf 1 (some .int) :: G_) rm_F_widthOf (sx_Pc [.int (nI v0)] H0 D g) (vx_Qi g E H0 X (nI (LF_F_widthOf X v0))) 0 0 E := by
  refine vx_mi (own := R_F) (by decide) rfl rfl rfl (Nat.le_of_ble_eq_true rfl) ?_
  intro p e s m args below meth c Q ls EE hl hret
  obtain ⟨hx, hb, hml, hown, hts, hG, hK⟩ := id EE
  have hS : sx_S g E E H0 H0 [] := sx_S.rf
  have hl : lv_has ls 1 [(0, .int (nI (v0)))] := hl
  refine lv_bipush (v := nI 26) hx hb d_F_widthOf_0 (by decide +kernel) ?_
  refine lv_iload_n hx hb d_F_widthOf_2 rfl (lv_at hl 0 rfl) ?_
  refine lv_iconst (v := nI 1) hx hb d_F_widthOf_3 (by decide +kernel) ?_
  refine lv_iand hx hb d_F_widthOf_4 ?_
  refine sx_ti (y := nI (v0 % 2)) (pk_andN (by omega) 1 (by decide +kernel)) ?_
  refine lv_isub hx hb d_F_widthOf_5 ?_
  refine sx_ti (y := nI (26 - (v0 % 2))) (pk_sub (by omega)) ?_
  exact hret _ _ _ _ _ _ rfl (congrArg nI (show _ = 26 - (v0 % 2) from rfl)) hS hV d_F_widthOf_6
