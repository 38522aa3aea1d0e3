def LL_K_isZeroStart_4 (X : vM) (a0 : Nat) : Nat → Int32 → Int32 := fun i_0 s_1 => (let z_2 : Int32 := (s_1 ||| (X.2 a0 i_0)); z_2)
def LF_K_isZeroStart (X : vM) (a0 : Nat) : Bool := (let R3 : Int32 := lpU 1 (LL_K_isZeroStart_4 X a0) 32 0 (nI 0); (let J6 : Bool := if R3 = (0 : Int32) then true else false; J6))
abbrev rm_K_isZeroStart : Room := { frames := 0, cells := 0, slots := 0, locals := 0 }
set_option maxHeartbeats 4000000 in
set_option maxRecDepth 100000 in
theorem v_K_isZeroStart {l : Launch} {D : va_G} {g : ClassId → FieldType → Prop} {E : Nat → Prop} {H0 : Heap} {X : vM} {a0 : Nat} (f0 : sx_A g .byte H0 a0 32) (hV : mm g H0 = X) : Met l y_K_isZeroStart (.code y_K_isZeroStart b_K_isZeroStart 3 (some .boolean) :: G_) rm_K_isZeroStart (sx_Pc [.ref a0] H0 D g) (vx_Qi g E H0 X (nI ((LF_K_isZeroStart X a0)).toNat)) 0 0 E := by
  refine vx_mz (own := R_K) (by decide) rfl rfl rfl (Nat.le_of_ble_eq_true rfl) ?_
  intro p e s m args below meth c Q ls EE hl hret
  obtain ⟨hx, hb, hml, hown, hts, hG, hK⟩ := id EE
  have hS : sx_S g E E H0 H0 [] := sx_S.rf
  have hl : lv_has ls 3 [(0, .ref a0)] := hl
  refine lv_iconst (v := nI 0) hx hb d_K_isZeroStart_0 (by decide +kernel) ?_
  refine lv_istore_n (lv' := [(1, .int (nI (0))), (0, .ref a0)]) hx hb d_K_isZeroStart_1 rfl hl (by decide) rfl (fun ls hl => ?_)
  refine lv_iconst (v := nI 0) hx hb d_K_isZeroStart_2 (by decide +kernel) ?_
  refine lv_istore_n (lv' := [(2, .int (nI (0))), (1, .int (nI (0))), (0, .ref a0)]) hx hb d_K_isZeroStart_3 rfl hl (by decide) rfl (fun ls hl => ?_)
  obtain ⟨R3, eR3⟩ : ∃ t : Int32, lpU 1 (LL_K_isZeroStart_4 X a0) 32 0 (nI 0) = t := ⟨_, rfl⟩
  refine lpU_go (σ := Int32) (P := fun i1 s2 H locs ls => sx_S g E E H0 H locs ∧ mm g H = X ∧ lv_has ls 3 [(2, .int (nI (i1))), (1, .int s2), (0, .ref a0)]) (Wd := fun H locs ls => W p l e rm_K_isZeroStart s m args below meth c H locs 0 0 Q (F0 m 4 ls [])) (N := 32) (d := 1) (by decide) ?_ ?_ 32 0 _ (by omega) eR3 _ _ _ ⟨hS, hV, lv_sub hl [0, 1, 2] rfl⟩
  · intro i1 s2 H locs ls hii1 hP ihi1
    obtain ⟨hS, hV, hl⟩ := hP
    refine lv_iload_n hx hb d_K_isZeroStart_4 rfl (lv_at hl 0 rfl) ?_
    refine lv_bipush (v := nI 32) hx hb d_K_isZeroStart_5 (by decide +kernel) ?_
    refine lv_icmp_ge (tgt := 22) hx hb d_K_isZeroStart_7 (by decide) (fun q => absurd q (nI_ge (by omega) (by omega))) (fun _ => ?_)
    refine lv_iload_n hx hb d_K_isZeroStart_10 rfl (lv_at hl 1 rfl) ?_
    refine lv_aload_n hx hb d_K_isZeroStart_11 rfl (lv_at hl 2 rfl) ?_
    refine lv_iload_n hx hb d_K_isZeroStart_12 rfl (lv_at hl 0 rfl) ?_
    refine vx_bald hx hb hG hS hV f0 (by omega) (by decide) d_K_isZeroStart_13 ?_
    refine lv_ior hx hb d_K_isZeroStart_14 ?_
    refine vx_nmI (fun z4 ez4 => ?_)
    refine lv_istore_n (lv' := [(1, .int z4), (2, .int (nI (i1))), (0, .ref a0)]) hx hb d_K_isZeroStart_15 rfl hl (by decide) rfl (fun ls hl => ?_)
    refine lv_iinc (v := nI (i1 + 1)) (lv' := [(2, .int (nI (i1 + 1))), (1, .int z4), (0, .ref a0)]) hx hb d_K_isZeroStart_16 hl (k := 1) rfl (sx_inc _ _) (by decide) rfl (fun ls hl => ?_)
    refine lv_goto (tgt := 4) hx hb d_K_isZeroStart_19 (by decide) ?_
    exact ihi1 z4 _ _ _ (by subst ez4; exact rfl) ⟨hS, hV, lv_sub hl [0, 1, 2] rfl⟩
  · intro H locs ls hP
    obtain ⟨hS, hV, hl⟩ := hP
    refine lv_iload_n hx hb d_K_isZeroStart_4 rfl (lv_at hl 0 rfl) ?_
    refine lv_bipush (v := nI 32) hx hb d_K_isZeroStart_5 (by decide +kernel) ?_
    refine lv_icmp_ge (tgt := 22) hx hb d_K_isZeroStart_7 (by decide) (fun _ => ?_) (fun q => absurd (nI_le (by omega) (by omega)) q)
    refine lv_iload_n hx hb d_K_isZeroStart_22 rfl (lv_at hl 1 rfl) ?_
    have jn31_6 : ∀ (J6 : Bool) (H : Heap) (locs : List Loc) (ls : Array Slot), (if R3 = (0 : Int32) then true else false) = J6 → sx_S g E E H0 H locs → mm g H = X → lv_has ls 3 [(2, .int (nI (32))), (1, .int R3), (0, .ref a0)] → W p l e rm_K_isZeroStart s m args below meth c H locs 0 0 Q (F0 m 31 ls [.int (nI ((J6).toNat))]) := by
      intro J6 H locs ls eJ6 hS hV hl
      exact hret _ _ _ _ _ J6 _ rfl (by subst eR3 eJ6; exact rfl) rfl hS hV d_K_isZeroStart_31
    refine lv_if_ne (tgt := 30) hx hb d_K_isZeroStart_23 (by decide) (fun q23_4 => ?_) (fun q23_4 => ?_)
    · skip
      refine lv_iconst (v := nI 0) hx hb d_K_isZeroStart_30 (by decide +kernel) ?_
      exact jn31_6 false _ _ _ (vx_n q23_4 rfl) hS hV (lv_sub hl [0, 1, 2] rfl)
    · skip
      refine lv_iconst (v := nI 1) hx hb d_K_isZeroStart_26 (by decide +kernel) ?_
      refine lv_goto (tgt := 31) hx hb d_K_isZeroStart_27 (by decide) ?_
      exact jn31_6 true _ _ _ (vx_p q23_4 rfl) hS hV (lv_sub hl [0, 1, 2] rfl)
def LL_K_isSameStart_4 (X : vM) (a0 : Nat) (a1 : Nat) : Nat → Int32 → Int32 := fun i_0 s_1 => (let z_2 : Int32 := (s_1 ||| ((X.2 a0 i_0) ^^^ (X.2 a1 i_0))); z_2)
def LF_K_isSameStart (X : vM) (a0 : Nat) (a1 : Nat) : Bool := (let R3 : Int32 := lpU 1 (LL_K_isSameStart_4 X a0 a1) 32 0 (nI 0); (let J6 : Bool := if R3 = (0 : Int32) then true else false; J6))
abbrev rm_K_isSameStart : Room := { frames := 0, cells := 0, slots := 0, locals := 0 }
set_option maxHeartbeats 4000000 in
set_option maxRecDepth 100000 in
theorem v_K_isSameStart {l : Launch} {D : va_G} {g : ClassId → FieldType → Prop} {E : Nat → Prop} {H0 : Heap} {X : vM} {a0 : Nat} {a1 : Nat} (f0 : sx_A g .byte H0 a0 32) (f1 : sx_A g .byte H0 a1 32) (hV : mm g H0 = X) : Met l y_K_isSameStart (.code y_K_isSameStart b_K_isSameStart 4 (some .boolean) :: G_) rm_K_isSameStart (sx_Pc [.ref a0, .ref a1] H0 D g) (vx_Qi g E H0 X (nI ((LF_K_isSameStart X a0 a1)).toNat)) 0 0 E := by
  refine vx_mz (own := R_K) (by decide) rfl rfl rfl (Nat.le_of_ble_eq_true rfl) ?_
  intro p e s m args below meth c Q ls EE hl hret
  obtain ⟨hx, hb, hml, hown, hts, hG, hK⟩ := id EE
  have hS : sx_S g E E H0 H0 [] := sx_S.rf
  have hl : lv_has ls 4 [(0, .ref a0), (1, .ref a1)] := hl
  refine lv_iconst (v := nI 0) hx hb d_K_isSameStart_0 (by decide +kernel) ?_
  refine lv_istore_n (lv' := [(2, .int (nI (0))), (0, .ref a0), (1, .ref a1)]) hx hb d_K_isSameStart_1 rfl hl (by decide) rfl (fun ls hl => ?_)
  refine lv_iconst (v := nI 0) hx hb d_K_isSameStart_2 (by decide +kernel) ?_
  refine lv_istore_n (lv' := [(3, .int (nI (0))), (2, .int (nI (0))), (0, .ref a0), (1, .ref a1)]) hx hb d_K_isSameStart_3 rfl hl (by decide) rfl (fun ls hl => ?_)
  obtain ⟨R3, eR3⟩ : ∃ t : Int32, lpU 1 (LL_K_isSameStart_4 X a0 a1) 32 0 (nI 0) = t := ⟨_, rfl⟩
  refine lpU_go (σ := Int32) (P := fun i1 s2 H locs ls => sx_S g E E H0 H locs ∧ mm g H = X ∧ lv_has ls 4 [(3, .int (nI (i1))), (2, .int s2), (0, .ref a0), (1, .ref a1)]) (Wd := fun H locs ls => W p l e rm_K_isSameStart s m args below meth c H locs 0 0 Q (F0 m 4 ls [])) (N := 32) (d := 1) (by decide) ?_ ?_ 32 0 _ (by omega) eR3 _ _ _ ⟨hS, hV, lv_sub hl [0, 1, 2, 3] rfl⟩
  · intro i1 s2 H locs ls hii1 hP ihi1
    obtain ⟨hS, hV, hl⟩ := hP
    refine lv_iload_n hx hb d_K_isSameStart_4 rfl (lv_at hl 0 rfl) ?_
    refine lv_bipush (v := nI 32) hx hb d_K_isSameStart_5 (by decide +kernel) ?_
    refine lv_icmp_ge (tgt := 26) hx hb d_K_isSameStart_7 (by decide) (fun q => absurd q (nI_ge (by omega) (by omega))) (fun _ => ?_)
    refine lv_iload_n hx hb d_K_isSameStart_10 rfl (lv_at hl 1 rfl) ?_
    refine lv_aload_n hx hb d_K_isSameStart_11 rfl (lv_at hl 2 rfl) ?_
    refine lv_iload_n hx hb d_K_isSameStart_12 rfl (lv_at hl 0 rfl) ?_
    refine vx_bald hx hb hG hS hV f0 (by omega) (by decide) d_K_isSameStart_13 ?_
    refine lv_aload_n hx hb d_K_isSameStart_14 rfl (lv_at hl 3 rfl) ?_
    refine lv_iload_n hx hb d_K_isSameStart_15 rfl (lv_at hl 0 rfl) ?_
    refine vx_bald hx hb hG hS hV f1 (by omega) (by decide) d_K_isSameStart_16 ?_
    refine lv_ixor hx hb d_K_isSameStart_17 ?_
    refine lv_ior hx hb d_K_isSameStart_18 ?_
    refine vx_nmI (fun z4 ez4 => ?_)
    refine lv_istore_n (lv' := [(2, .int z4), (3, .int (nI (i1))), (0, .ref a0), (1, .ref a1)]) hx hb d_K_isSameStart_19 rfl hl (by decide) rfl (fun ls hl => ?_)
    refine lv_iinc (v := nI (i1 + 1)) (lv' := [(3, .int (nI (i1 + 1))), (2, .int z4), (0, .ref a0), (1, .ref a1)]) hx hb d_K_isSameStart_20 hl (k := 1) rfl (sx_inc _ _) (by decide) rfl (fun ls hl => ?_)
    refine lv_goto (tgt := 4) hx hb d_K_isSameStart_23 (by decide) ?_
    exact ihi1 z4 _ _ _ (by subst ez4; exact rfl) ⟨hS, hV, lv_sub hl [0, 1, 2, 3] rfl⟩
  · intro H locs ls hP
    obtain ⟨hS, hV, hl⟩ := hP
    refine lv_iload_n hx hb d_K_isSameStart_4 rfl (lv_at hl 0 rfl) ?_
    refine lv_bipush (v := nI 32) hx hb d_K_isSameStart_5 (by decide +kernel) ?_
    refine lv_icmp_ge (tgt := 26) hx hb d_K_isSameStart_7 (by decide) (fun _ => ?_) (fun q => absurd (nI_le (by omega) (by omega)) q)
    refine lv_iload_n hx hb d_K_isSameStart_26 rfl (lv_at hl 1 rfl) ?_
    have jn35_6 : ∀ (J6 : Bool) (H : Heap) (locs : List Loc) (ls : Array Slot), (if R3 = (0 : Int32) then true else false) = J6 → sx_S g E E H0 H locs → mm g H = X → lv_has ls 4 [(3, .int (nI (32))), (2, .int R3), (0, .ref a0), (1, .ref a1)] → W p l e rm_K_isSameStart s m args below meth c H locs 0 0 Q (F0 m 35 ls [.int (nI ((J6).toNat))]) := by
      intro J6 H locs ls eJ6 hS hV hl
      exact hret _ _ _ _ _ J6 _ rfl (by subst eR3 eJ6; exact rfl) rfl hS hV d_K_isSameStart_35
    refine lv_if_ne (tgt := 34) hx hb d_K_isSameStart_27 (by decide) (fun q27_4 => ?_) (fun q27_4 => ?_)
    · skip
      refine lv_iconst (v := nI 0) hx hb d_K_isSameStart_34 (by decide +kernel) ?_
      exact jn35_6 false _ _ _ (vx_n q27_4 rfl) hS hV (lv_sub hl [0, 1, 2, 3] rfl)
    · skip
      refine lv_iconst (v := nI 1) hx hb d_K_isSameStart_30 (by decide +kernel) ?_
      refine lv_goto (tgt := 35) hx hb d_K_isSameStart_31 (by decide) ?_
      exact jn35_6 true _ _ _ (vx_p q27_4 rfl) hS hV (lv_sub hl [0, 1, 2, 3] rfl)
def LF_K_clamp (X : vM) (a0 : Nat) : vM := (let X1 : vM := stI X a0 0 ((((X.2 a0 0) &&& (-8 : Int32)).toInt8.toInt32).toInt8.toInt32); let X2 : vM := stI X1 a0 31 ((((X1.2 a0 31) &&& (nI 127)).toInt8.toInt32).toInt8.toInt32); let X3 : vM := stI X2 a0 31 ((((X2.2 a0 31) ||| (nI 64)).toInt8.toInt32).toInt8.toInt32); X3)
abbrev rm_K_clamp : Room := { frames := 0, cells := 0, slots := 0, locals := 0 }
set_option maxHeartbeats 4000000 in
set_option maxRecDepth 100000 in
theorem v_K_clamp {l : Launch} {D : va_G} {g : ClassId → FieldType → Prop} {E : Nat → Prop} {H0 : Heap} {X : vM} {a0 : Nat} (f0 : sx_A g .byte H0 a0 32) (o0 : E a0) (hV : mm g H0 = X) : Met l y_K_clamp (.code y_K_clamp b_K_clamp 1 none :: G_) rm_K_clamp (sx_Pc [.ref a0] H0 D g) (vx_Qv g E H0 (LF_K_clamp X a0)) 0 0 E := by
  refine vx_mv (own := R_K) (by decide) rfl rfl rfl (Nat.le_of_ble_eq_true rfl) ?_
  intro p e s m args below meth c Q ls EE hl hret
  obtain ⟨hx, hb, hml, hown, hts, hG, hK⟩ := id EE
  have hS : sx_S g E E H0 H0 [] := sx_S.rf
  have hl : lv_has ls 1 [(0, .ref a0)] := hl
  refine lv_aload_n hx hb d_K_clamp_0 rfl (lv_at hl 0 rfl) ?_
  refine lv_iconst (v := nI 0) hx hb d_K_clamp_1 (by decide +kernel) ?_
  refine lv_dup2_11 hx hb d_K_clamp_2 rfl rfl ?_
  refine vx_bald hx hb hG hS hV f0 (by omega) (by decide) d_K_clamp_3 ?_
  refine lv_bipush (v := (-8)) hx hb d_K_clamp_4 (by decide +kernel) ?_
  refine lv_iand hx hb d_K_clamp_6 ?_
  refine lv_i2b hx hb d_K_clamp_7 rfl ?_
  refine vx_bast hx hb hG hS hV f0 o0 (by omega) (by decide) d_K_clamp_8 (fun H locs X1 eX1 hS hV => ?_)
  refine lv_aload_n hx hb d_K_clamp_9 rfl (lv_at hl 0 rfl) ?_
  refine lv_bipush (v := nI 31) hx hb d_K_clamp_10 (by decide +kernel) ?_
  refine lv_dup2_11 hx hb d_K_clamp_12 rfl rfl ?_
  refine vx_bald hx hb hG hS hV f0 (by omega) (by decide) d_K_clamp_13 ?_
  refine lv_bipush (v := nI 127) hx hb d_K_clamp_14 (by decide +kernel) ?_
  refine lv_iand hx hb d_K_clamp_16 ?_
  refine lv_i2b hx hb d_K_clamp_17 rfl ?_
  refine vx_bast hx hb hG hS hV f0 o0 (by omega) (by decide) d_K_clamp_18 (fun H locs X2 eX2 hS hV => ?_)
  refine lv_aload_n hx hb d_K_clamp_19 rfl (lv_at hl 0 rfl) ?_
  refine lv_bipush (v := nI 31) hx hb d_K_clamp_20 (by decide +kernel) ?_
  refine lv_dup2_11 hx hb d_K_clamp_22 rfl rfl ?_
  refine vx_bald hx hb hG hS hV f0 (by omega) (by decide) d_K_clamp_23 ?_
  refine lv_bipush (v := nI 64) hx hb d_K_clamp_24 (by decide +kernel) ?_
  refine lv_ior hx hb d_K_clamp_26 ?_
  refine lv_i2b hx hb d_K_clamp_27 rfl ?_
  refine vx_bast hx hb hG hS hV f0 o0 (by omega) (by decide) d_K_clamp_28 (fun H locs X3 eX3 hS hV => ?_)
  exact hret _ _ _ _ _ (by subst eX1 eX2 eX3; exact rfl) hS hV d_K_clamp_29
def LF_Pt_setNeutral (X : vM) (r : Nat → Nat) : vM := (let X1 : vM := (LF_F_set X (r 0) (0 : Int64)); let X2 : vM := (LF_F_set X1 (r 1) (1 : Int64)); let X3 : vM := (LF_F_set X2 (r 2) (1 : Int64)); let X4 : vM := (LF_F_set X3 (r 3) (0 : Int64)); X4)
abbrev rm_Pt_setNeutral : Room := { frames := 2, cells := 0, slots := 0, locals := 46 }
set_option maxHeartbeats 4000000 in
set_option maxRecDepth 100000 in
theorem v_Pt_setNeutral {l : Launch} {D : va_G} {g : ClassId → FieldType → Prop} {E : Nat → Prop} {H0 : Heap} {X : vM} {o : Nat} {r : Nat → Nat} (hM : o4_ D g H0 4 o r) (hE : ¬ E o) (hW : ∀ k, k < 4 → E (r k)) (hV : mm g H0 = X) : Met l y_Pt_setNeutral (.code y_Pt_setNeutral b_Pt_setNeutral 1 none :: G_) rm_Pt_setNeutral (sx_Pc [.ref o] H0 D g) (vx_Qv g E H0 (LF_Pt_setNeutral X r)) 0 0 E := by
  refine vx_mv (own := R_Pt) (by decide) rfl rfl rfl (Nat.le_of_ble_eq_true rfl) ?_
  intro p e s m args below meth c Q ls EE hl hret
  obtain ⟨hx, hb, hml, hown, hts, hG, hK⟩ := id EE
  have hS : sx_S g E E H0 H0 [] := sx_S.rf
  have hl : lv_has ls 1 [(0, .ref o)] := hl
  refine lv_aload_n hx hb d_Pt_setNeutral_0 rfl (lv_at hl 0 rfl) ?_
  refine sx_get EE (hS.1.ob hE hM.1) rfl i_Pt 0 (by decide) rfl fl_Pt_9 rfl d_Pt_setNeutral_1 ?_
  refine lv_lconst (v := 0) hx hb d_Pt_setNeutral_4 (by decide +kernel) ?_
  refine vx_gv (sx_runS (As := [.ref (r 0), .long (0 : Int64)]) (rest := []) EE (v_F_set (X := X) (hS.a (hM.2 0 (by decide)).1) (hS.1.2.2.2 _ _ (hM.2 0 (by decide)).2) (hW 0 (by decide)) hV) w_Pt_24 rfl ⟨rfl, rfl⟩ ⟨Nat.le_of_ble_eq_true rfl, Nat.le_of_ble_eq_true rfl⟩ ⟨Nat.zero_le _, Nat.zero_le _⟩ hl.1 rfl (Nat.le_of_ble_eq_true rfl) d_Pt_setNeutral_5) hS (fun H locs X1 eX1 hS hV => ?_)
  refine lv_aload_n hx hb d_Pt_setNeutral_8 rfl (lv_at hl 0 rfl) ?_
  refine sx_get EE (hS.1.ob hE hM.1) rfl i_Pt 1 (by decide) rfl fl_Pt_15 rfl d_Pt_setNeutral_9 ?_
  refine lv_lconst (v := 1) hx hb d_Pt_setNeutral_12 (by decide +kernel) ?_
  refine vx_gv (sx_runS (As := [.ref (r 1), .long (1 : Int64)]) (rest := []) EE (v_F_set (X := X1) (hS.a (hM.2 1 (by decide)).1) (hS.1.2.2.2 _ _ (hM.2 1 (by decide)).2) (hW 1 (by decide)) hV) w_Pt_24 rfl ⟨rfl, rfl⟩ ⟨Nat.le_of_ble_eq_true rfl, Nat.le_of_ble_eq_true rfl⟩ ⟨Nat.zero_le _, Nat.zero_le _⟩ hl.1 rfl (Nat.le_of_ble_eq_true rfl) d_Pt_setNeutral_13) hS (fun H locs X2 eX2 hS hV => ?_)
  refine lv_aload_n hx hb d_Pt_setNeutral_16 rfl (lv_at hl 0 rfl) ?_
  refine sx_get EE (hS.1.ob hE hM.1) rfl i_Pt 2 (by decide) rfl fl_Pt_18 rfl d_Pt_setNeutral_17 ?_
  refine lv_lconst (v := 1) hx hb d_Pt_setNeutral_20 (by decide +kernel) ?_
  refine vx_gv (sx_runS (As := [.ref (r 2), .long (1 : Int64)]) (rest := []) EE (v_F_set (X := X2) (hS.a (hM.2 2 (by decide)).1) (hS.1.2.2.2 _ _ (hM.2 2 (by decide)).2) (hW 2 (by decide)) hV) w_Pt_24 rfl ⟨rfl, rfl⟩ ⟨Nat.le_of_ble_eq_true rfl, Nat.le_of_ble_eq_true rfl⟩ ⟨Nat.zero_le _, Nat.zero_le _⟩ hl.1 rfl (Nat.le_of_ble_eq_true rfl) d_Pt_setNeutral_21) hS (fun H locs X3 eX3 hS hV => ?_)
  refine lv_aload_n hx hb d_Pt_setNeutral_24 rfl (lv_at hl 0 rfl) ?_
  refine sx_get EE (hS.1.ob hE hM.1) rfl i_Pt 3 (by decide) rfl fl_Pt_21 rfl d_Pt_setNeutral_25 ?_
  refine lv_lconst (v := 0) hx hb d_Pt_setNeutral_28 (by decide +kernel) ?_
  refine vx_gv (sx_runS (As := [.ref (r 3), .long (0 : Int64)]) (rest := []) EE (v_F_set (X := X3) (hS.a (hM.2 3 (by decide)).1) (hS.1.2.2.2 _ _ (hM.2 3 (by decide)).2) (hW 3 (by decide)) hV) w_Pt_24 rfl ⟨rfl, rfl⟩ ⟨Nat.le_of_ble_eq_true rfl, Nat.le_of_ble_eq_true rfl⟩ ⟨Nat.zero_le _, Nat.zero_le _⟩ hl.1 rfl (Nat.le_of_ble_eq_true rfl) d_Pt_setNeutral_29) hS (fun H locs X4 eX4 hS hV => ?_)
  exact hret _ _ _ _ _ (by subst eX1 eX2 eX3 eX4; exact rfl) hS hV d_Pt_setNeutral_32
def LF_Pt_setAffine (X : vM) (r : Nat → Nat) (a0 : Nat) (a1 : Nat) : vM := (let X1 : vM := (LF_F_copy X (r 0) a0); let X2 : vM := (LF_F_copy X1 (r 1) a1); let X3 : vM := (LF_F_set X2 (r 2) (1 : Int64)); let X4 : vM := (LF_F_times X3 (r 3) a0 a1); X4)
abbrev rm_Pt_setAffine : Room := { frames := 2, cells := 0, slots := 0, locals := 121 }
set_option maxHeartbeats 4000000 in
set_option maxRecDepth 100000 in
theorem v_Pt_setAffine {l : Launch} {D : va_G} {g : ClassId → FieldType → Prop} {E : Nat → Prop} {H0 : Heap} {X : vM} {o : Nat} {r : Nat → Nat} {a0 : Nat} {a1 : Nat} (hM : o4_ D g H0 4 o r) (hE : ¬ E o) (hW : ∀ k, k < 4 → E (r k)) (f0 : sx_A g .long H0 a0 10) (f1 : sx_A g .long H0 a1 10) (hV : mm g H0 = X) : Met l y_Pt_setAffine (.code y_Pt_setAffine b_Pt_setAffine 3 none :: G_) rm_Pt_setAffine (sx_Pc [.ref o, .ref a0, .ref a1] H0 D g) (vx_Qv g E H0 (LF_Pt_setAffine X r a0 a1)) 0 0 E := by
  refine vx_mv (own := R_Pt) (by decide) rfl rfl rfl (Nat.le_of_ble_eq_true rfl) ?_
  intro p e s m args below meth c Q ls EE hl hret
  obtain ⟨hx, hb, hml, hown, hts, hG, hK⟩ := id EE
  have hS : sx_S g E E H0 H0 [] := sx_S.rf
  have hl : lv_has ls 3 [(0, .ref o), (1, .ref a0), (2, .ref a1)] := hl
  refine lv_aload_n hx hb d_Pt_setAffine_0 rfl (lv_at hl 0 rfl) ?_
  refine sx_get EE (hS.1.ob hE hM.1) rfl i_Pt 0 (by decide) rfl fl_Pt_9 rfl d_Pt_setAffine_1 ?_
  refine lv_aload_n hx hb d_Pt_setAffine_4 rfl (lv_at hl 1 rfl) ?_
  refine vx_gv (sx_runS (As := [.ref (r 0), .ref a0]) (rest := []) EE (v_F_copy (X := X) (hS.a (hM.2 0 (by decide)).1) (hW 0 (by decide)) (hS.a f0) hV) w_Pt_28 rfl ⟨rfl, rfl⟩ ⟨Nat.le_of_ble_eq_true rfl, Nat.le_of_ble_eq_true rfl⟩ ⟨Nat.zero_le _, Nat.zero_le _⟩ hl.1 rfl (Nat.le_of_ble_eq_true rfl) d_Pt_setAffine_5) hS (fun H locs X1 eX1 hS hV => ?_)
  refine lv_aload_n hx hb d_Pt_setAffine_8 rfl (lv_at hl 0 rfl) ?_
  refine sx_get EE (hS.1.ob hE hM.1) rfl i_Pt 1 (by decide) rfl fl_Pt_15 rfl d_Pt_setAffine_9 ?_
  refine lv_aload_n hx hb d_Pt_setAffine_12 rfl (lv_at hl 2 rfl) ?_
  refine vx_gv (sx_runS (As := [.ref (r 1), .ref a1]) (rest := []) EE (v_F_copy (X := X1) (hS.a (hM.2 1 (by decide)).1) (hW 1 (by decide)) (hS.a f1) hV) w_Pt_28 rfl ⟨rfl, rfl⟩ ⟨Nat.le_of_ble_eq_true rfl, Nat.le_of_ble_eq_true rfl⟩ ⟨Nat.zero_le _, Nat.zero_le _⟩ hl.1 rfl (Nat.le_of_ble_eq_true rfl) d_Pt_setAffine_13) hS (fun H locs X2 eX2 hS hV => ?_)
  refine lv_aload_n hx hb d_Pt_setAffine_16 rfl (lv_at hl 0 rfl) ?_
  refine sx_get EE (hS.1.ob hE hM.1) rfl i_Pt 2 (by decide) rfl fl_Pt_18 rfl d_Pt_setAffine_17 ?_
  refine lv_lconst (v := 1) hx hb d_Pt_setAffine_20 (by decide +kernel) ?_
  refine vx_gv (sx_runS (As := [.ref (r 2), .long (1 : Int64)]) (rest := []) EE (v_F_set (X := X2) (hS.a (hM.2 2 (by decide)).1) (hS.1.2.2.2 _ _ (hM.2 2 (by decide)).2) (hW 2 (by decide)) hV) w_Pt_24 rfl ⟨rfl, rfl⟩ ⟨Nat.le_of_ble_eq_true rfl, Nat.le_of_ble_eq_true rfl⟩ ⟨Nat.zero_le _, Nat.zero_le _⟩ hl.1 rfl (Nat.le_of_ble_eq_true rfl) d_Pt_setAffine_21) hS (fun H locs X3 eX3 hS hV => ?_)
  refine lv_aload_n hx hb d_Pt_setAffine_24 rfl (lv_at hl 0 rfl) ?_
  refine sx_get EE (hS.1.ob hE hM.1) rfl i_Pt 3 (by decide) rfl fl_Pt_21 rfl d_Pt_setAffine_25 ?_
  refine lv_aload_n hx hb d_Pt_setAffine_28 rfl (lv_at hl 1 rfl) ?_
  refine lv_aload_n hx hb d_Pt_setAffine_29 rfl (lv_at hl 2 rfl) ?_
  refine vx_gv (sx_runS (As := [.ref (r 3), .ref a0, .ref a1]) (rest := []) EE (v_F_times (X := X3) (hS.a (hM.2 3 (by decide)).1) (hW 3 (by decide)) (hS.a f0) (hS.a f1) hV) w_Pt_32 rfl ⟨rfl, rfl⟩ ⟨Nat.le_of_ble_eq_true rfl, Nat.le_of_ble_eq_true rfl⟩ ⟨Nat.zero_le _, Nat.zero_le _⟩ hl.1 rfl (Nat.le_of_ble_eq_true rfl) d_Pt_setAffine_30) hS (fun H locs X4 eX4 hS hV => ?_)
  exact hret _ _ _ _ _ (by subst eX1 eX2 eX3 eX4; exact rfl) hS hV d_Pt_setAffine_33
def LF_Pt_negate (X : vM) (r : Nat → Nat) : vM := (let X1 : vM := (LF_F_negate X (r 0) (r 0)); let X2 : vM := (LF_F_negate X1 (r 3) (r 3)); X2)
abbrev rm_Pt_negate : Room := { frames := 1, cells := 0, slots := 0, locals := 22 }
set_option maxHeartbeats 4000000 in
set_option maxRecDepth 100000 in
theorem v_Pt_negate {l : Launch} {D : va_G} {g : ClassId → FieldType → Prop} {E : Nat → Prop} {H0 : Heap} {X : vM} {o : Nat} {r : Nat → Nat} (hM : o4_ D g H0 4 o r) (hE : ¬ E o) (hW : ∀ k, k < 4 → E (r k)) (hV : mm g H0 = X) : Met l y_Pt_negate (.code y_Pt_negate b_Pt_negate 1 none :: G_) rm_Pt_negate (sx_Pc [.ref o] H0 D g) (vx_Qv g E H0 (LF_Pt_negate X r)) 0 0 E := by
  refine vx_mv (own := R_Pt) (by decide) rfl rfl rfl (Nat.le_of_ble_eq_true rfl) ?_
  intro p e s m args below meth c Q ls EE hl hret
  obtain ⟨hx, hb, hml, hown, hts, hG, hK⟩ := id EE
  have hS : sx_S g E E H0 H0 [] := sx_S.rf
  have hl : lv_has ls 1 [(0, .ref o)] := hl
  refine lv_aload_n hx hb d_Pt_negate_0 rfl (lv_at hl 0 rfl) ?_
  refine sx_get EE (hS.1.ob hE hM.1) rfl i_Pt 0 (by decide) rfl fl_Pt_9 rfl d_Pt_negate_1 ?_
  refine lv_aload_n hx hb d_Pt_negate_4 rfl (lv_at hl 0 rfl) ?_
  refine sx_get EE (hS.1.ob hE hM.1) rfl i_Pt 0 (by decide) rfl fl_Pt_9 rfl d_Pt_negate_5 ?_
  refine vx_gv (sx_runS (As := [.ref (r 0), .ref (r 0)]) (rest := []) EE (v_F_negate (X := X) (hS.a (hM.2 0 (by decide)).1) (hW 0 (by decide)) (hS.a (hM.2 0 (by decide)).1) hV) w_Pt_36 rfl ⟨rfl, rfl⟩ ⟨Nat.le_of_ble_eq_true rfl, Nat.le_of_ble_eq_true rfl⟩ ⟨Nat.zero_le _, Nat.zero_le _⟩ hl.1 rfl (Nat.le_of_ble_eq_true rfl) d_Pt_negate_8) hS (fun H locs X1 eX1 hS hV => ?_)
  refine lv_aload_n hx hb d_Pt_negate_11 rfl (lv_at hl 0 rfl) ?_
  refine sx_get EE (hS.1.ob hE hM.1) rfl i_Pt 3 (by decide) rfl fl_Pt_21 rfl d_Pt_negate_12 ?_
  refine lv_aload_n hx hb d_Pt_negate_15 rfl (lv_at hl 0 rfl) ?_
  refine sx_get EE (hS.1.ob hE hM.1) rfl i_Pt 3 (by decide) rfl fl_Pt_21 rfl d_Pt_negate_16 ?_
  refine vx_gv (sx_runS (As := [.ref (r 3), .ref (r 3)]) (rest := []) EE (v_F_negate (X := X1) (hS.a (hM.2 3 (by decide)).1) (hW 3 (by decide)) (hS.a (hM.2 3 (by decide)).1) hV) w_Pt_36 rfl ⟨rfl, rfl⟩ ⟨Nat.le_of_ble_eq_true rfl, Nat.le_of_ble_eq_true rfl⟩ ⟨Nat.zero_le _, Nat.zero_le _⟩ hl.1 rfl (Nat.le_of_ble_eq_true rfl) d_Pt_negate_19) hS (fun H locs X2 eX2 hS hV => ?_)
  exact hret _ _ _ _ _ (by subst eX1 eX2; exact rfl) hS hV d_Pt_negate_22
def LF_Ad_set (X : vM) (r : Nat → Nat) (r0 : Nat → Nat) (ts : Nat → Nat) : vM := (let X1 : vM := (LF_F_subtract X (r 0) (r0 1) (r0 0)); let X2 : vM := (LF_F_add X1 (r 1) (r0 1) (r0 0)); let X3 : vM := (LF_F_add X2 (r 2) (r0 2) (r0 2)); let X4 : vM := (LF_F_times X3 (r 3) (r0 3) (ts 0)); X4)
abbrev rm_Ad_set : Room := { frames := 2, cells := 0, slots := 0, locals := 99 }
set_option maxHeartbeats 4000000 in
set_option maxRecDepth 100000 in
theorem v_Ad_set {l : Launch} {D : va_G} {g : ClassId → FieldType → Prop} {E : Nat → Prop} {H0 : Heap} {X : vM} {o : Nat} {r : Nat → Nat} {a0 : Nat} {r0 : Nat → Nat} {ts : Nat → Nat} (hM : o4_ D g H0 5 o r) (hE : ¬ E o) (hW : ∀ k, k < 4 → E (r k)) (h0 : o4_ D g H0 4 a0 r0) (n0 : ¬ E a0) (hz : st_H D g E H0 ts) (hV : mm g H0 = X) : Met l y_Ad_set (.code y_Ad_set b_Ad_set 2 none :: G_) rm_Ad_set (sx_Pc [.ref o, .ref a0] H0 D g) (vx_Qv g E H0 (LF_Ad_set X r r0 ts)) 0 0 E := by
  refine vx_mv (own := R_Ad) (by decide) rfl rfl rfl (Nat.le_of_ble_eq_true rfl) ?_
  intro p e s m args below meth c Q ls EE hl hret
  obtain ⟨hx, hb, hml, hown, hts, hG, hK⟩ := id EE
  have hS : sx_S g E E H0 H0 [] := sx_S.rf
  have hl : lv_has ls 2 [(0, .ref o), (1, .ref a0)] := hl
  refine lv_aload_n hx hb d_Ad_set_0 rfl (lv_at hl 0 rfl) ?_
  refine sx_get EE (hS.1.ob hE hM.1) rfl i_Ad 0 (by decide) rfl fl_Ad_9 rfl d_Ad_set_1 ?_
  refine lv_aload_n hx hb d_Ad_set_4 rfl (lv_at hl 1 rfl) ?_
  refine sx_getN EE (hS.1.ob n0 h0.1) rfl i_Pt 1 (by decide) rfl fn_Ad_24 rfl d_Ad_set_5 ?_
  refine lv_aload_n hx hb d_Ad_set_8 rfl (lv_at hl 1 rfl) ?_
  refine sx_getN EE (hS.1.ob n0 h0.1) rfl i_Pt 0 (by decide) rfl fn_Ad_29 rfl d_Ad_set_9 ?_
  refine vx_gv (sx_runS (As := [.ref (r 0), .ref (r0 1), .ref (r0 0)]) (rest := []) EE (v_F_subtract (X := X) (hS.a (hM.2 0 (by decide)).1) (hW 0 (by decide)) (hS.a (h0.2 1 (by decide)).1) (hS.a (h0.2 0 (by decide)).1) hV) w_Ad_32 rfl ⟨rfl, rfl⟩ ⟨Nat.le_of_ble_eq_true rfl, Nat.le_of_ble_eq_true rfl⟩ ⟨Nat.zero_le _, Nat.zero_le _⟩ hl.1 rfl (Nat.le_of_ble_eq_true rfl) d_Ad_set_12) hS (fun H locs X1 eX1 hS hV => ?_)
  refine lv_aload_n hx hb d_Ad_set_15 rfl (lv_at hl 0 rfl) ?_
  refine sx_get EE (hS.1.ob hE hM.1) rfl i_Ad 1 (by decide) rfl fl_Ad_15 rfl d_Ad_set_16 ?_
  refine lv_aload_n hx hb d_Ad_set_19 rfl (lv_at hl 1 rfl) ?_
  refine sx_getN EE (hS.1.ob n0 h0.1) rfl i_Pt 1 (by decide) rfl fn_Ad_24 rfl d_Ad_set_20 ?_
  refine lv_aload_n hx hb d_Ad_set_23 rfl (lv_at hl 1 rfl) ?_
  refine sx_getN EE (hS.1.ob n0 h0.1) rfl i_Pt 0 (by decide) rfl fn_Ad_29 rfl d_Ad_set_24 ?_
  refine vx_gv (sx_runS (As := [.ref (r 1), .ref (r0 1), .ref (r0 0)]) (rest := []) EE (v_F_add (X := X1) (hS.a (hM.2 1 (by decide)).1) (hW 1 (by decide)) (hS.a (h0.2 1 (by decide)).1) (hS.a (h0.2 0 (by decide)).1) hV) w_Ad_36 rfl ⟨rfl, rfl⟩ ⟨Nat.le_of_ble_eq_true rfl, Nat.le_of_ble_eq_true rfl⟩ ⟨Nat.zero_le _, Nat.zero_le _⟩ hl.1 rfl (Nat.le_of_ble_eq_true rfl) d_Ad_set_27) hS (fun H locs X2 eX2 hS hV => ?_)
  refine lv_aload_n hx hb d_Ad_set_30 rfl (lv_at hl 0 rfl) ?_
  refine sx_get EE (hS.1.ob hE hM.1) rfl i_Ad 2 (by decide) rfl fl_Ad_18 rfl d_Ad_set_31 ?_
  refine lv_aload_n hx hb d_Ad_set_34 rfl (lv_at hl 1 rfl) ?_
  refine sx_getN EE (hS.1.ob n0 h0.1) rfl i_Pt 2 (by decide) rfl fn_Ad_39 rfl d_Ad_set_35 ?_
  refine lv_aload_n hx hb d_Ad_set_38 rfl (lv_at hl 1 rfl) ?_
  refine sx_getN EE (hS.1.ob n0 h0.1) rfl i_Pt 2 (by decide) rfl fn_Ad_39 rfl d_Ad_set_39 ?_
  refine vx_gv (sx_runS (As := [.ref (r 2), .ref (r0 2), .ref (r0 2)]) (rest := []) EE (v_F_add (X := X2) (hS.a (hM.2 2 (by decide)).1) (hW 2 (by decide)) (hS.a (h0.2 2 (by decide)).1) (hS.a (h0.2 2 (by decide)).1) hV) w_Ad_36 rfl ⟨rfl, rfl⟩ ⟨Nat.le_of_ble_eq_true rfl, Nat.le_of_ble_eq_true rfl⟩ ⟨Nat.zero_le _, Nat.zero_le _⟩ hl.1 rfl (Nat.le_of_ble_eq_true rfl) d_Ad_set_42) hS (fun H locs X3 eX3 hS hV => ?_)
  refine lv_aload_n hx hb d_Ad_set_45 rfl (lv_at hl 0 rfl) ?_
  refine sx_get EE (hS.1.ob hE hM.1) rfl i_Ad 3 (by decide) rfl fl_Ad_21 rfl d_Ad_set_46 ?_
  refine lv_aload_n hx hb d_Ad_set_49 rfl (lv_at hl 1 rfl) ?_
  refine sx_getN EE (hS.1.ob n0 h0.1) rfl i_Pt 3 (by decide) rfl fn_Ad_42 rfl d_Ad_set_50 ?_
  obtain ⟨z0_, ⟨cz_, z1_, z2_, z3_⟩, z4_⟩ := (hz.kept hS.1) 0 (by decide)
  refine sx_getsN EE (hK.2.2.1 0 (by decide)) z1_ z2_ z3_ fn_Ad_45 d_Ad_set_53 ?_
  refine vx_gv (sx_runS (As := [.ref (r 3), .ref (r0 3), .ref (ts 0)]) (rest := []) EE (v_F_times (X := X3) (hS.a (hM.2 3 (by decide)).1) (hW 3 (by decide)) (hS.a (h0.2 3 (by decide)).1) (hS.a (st_a0 hz)) hV) w_Ad_50 rfl ⟨rfl, rfl⟩ ⟨Nat.le_of_ble_eq_true rfl, Nat.le_of_ble_eq_true rfl⟩ ⟨Nat.zero_le _, Nat.zero_le _⟩ hl.1 rfl (Nat.le_of_ble_eq_true rfl) d_Ad_set_56) hS (fun H locs X4 eX4 hS hV => ?_)
  exact hret _ _ _ _ _ (by subst eX1 eX2 eX3 eX4; exact rfl) hS hV d_Ad_set_59
def LF_Ed_join (X : vM) (r : Nat → Nat) (r0 : Nat → Nat) : vM := (let X1 : vM := (LF_F_times X (r0 0) (r 11) (r 12)); let X2 : vM := (LF_F_times X1 (r0 1) (r 13) (r 14)); let X3 : vM := (LF_F_times X2 (r0 3) (r 11) (r 14)); let X4 : vM := (LF_F_times X3 (r0 2) (r 12) (r 13)); X4)
abbrev rm_Ed_join : Room := { frames := 2, cells := 0, slots := 0, locals := 99 }
set_option maxHeartbeats 4000000 in
set_option maxRecDepth 100000 in
theorem v_Ed_join {l : Launch} {D : va_G} {g : ClassId → FieldType → Prop} {E : Nat → Prop} {H0 : Heap} {X : vM} {o : Nat} {r : Nat → Nat} {a0 : Nat} {r0 : Nat → Nat} (hM : ed_ D g H0 o r) (hE : ¬ E o) (hW : ∀ k, 7 ≤ k → k < 15 → E (r k)) (h0 : o4_ D g H0 4 a0 r0) (n0 : ¬ E a0) (w0 : ∀ k, k < 4 → E (r0 k)) (hV : mm g H0 = X) : Met l y_Ed_join (.code y_Ed_join b_Ed_join 2 none :: G_) rm_Ed_join (sx_Pc [.ref o, .ref a0] H0 D g) (vx_Qv g E H0 (LF_Ed_join X r r0)) 0 0 E := by
  refine vx_mv (own := R_Ed) (by decide) rfl rfl rfl (Nat.le_of_ble_eq_true rfl) ?_
  intro p e s m args below meth c Q ls EE hl hret
  obtain ⟨hx, hb, hml, hown, hts, hG, hK⟩ := id EE
  have hS : sx_S g E E H0 H0 [] := sx_S.rf
  have hl : lv_has ls 2 [(0, .ref o), (1, .ref a0)] := hl
  refine lv_aload_n hx hb d_Ed_join_0 rfl (lv_at hl 1 rfl) ?_
  refine sx_getN EE (hS.1.ob n0 h0.1) rfl i_Pt 0 (by decide) rfl fn_Ed_94 rfl d_Ed_join_1 ?_
  refine lv_aload_n hx hb d_Ed_join_4 rfl (lv_at hl 0 rfl) ?_
  refine sx_get EE (hS.1.ob hE hM.1) rfl i_Ed 11 (by decide) rfl fl_Ed_52 rfl d_Ed_join_5 ?_
  refine lv_aload_n hx hb d_Ed_join_8 rfl (lv_at hl 0 rfl) ?_
  refine sx_get EE (hS.1.ob hE hM.1) rfl i_Ed 12 (by decide) rfl fl_Ed_55 rfl d_Ed_join_9 ?_
  refine vx_gv (sx_runS (As := [.ref (r0 0), .ref (r 11), .ref (r 12)]) (rest := []) EE (v_F_times (X := X) (hS.a (h0.2 0 (by decide)).1) (w0 0 (by decide)) (hS.a (hM.2 11 (by decide) (by decide))) (hS.a (hM.2 12 (by decide) (by decide))) hV) w_Ed_104 rfl ⟨rfl, rfl⟩ ⟨Nat.le_of_ble_eq_true rfl, Nat.le_of_ble_eq_true rfl⟩ ⟨Nat.zero_le _, Nat.zero_le _⟩ hl.1 rfl (Nat.le_of_ble_eq_true rfl) d_Ed_join_12) hS (fun H locs X1 eX1 hS hV => ?_)
  refine lv_aload_n hx hb d_Ed_join_15 rfl (lv_at hl 1 rfl) ?_
  refine sx_getN EE (hS.1.ob n0 h0.1) rfl i_Pt 1 (by decide) rfl fn_Ed_91 rfl d_Ed_join_16 ?_
  refine lv_aload_n hx hb d_Ed_join_19 rfl (lv_at hl 0 rfl) ?_
  refine sx_get EE (hS.1.ob hE hM.1) rfl i_Ed 13 (by decide) rfl fl_Ed_58 rfl d_Ed_join_20 ?_
  refine lv_aload_n hx hb d_Ed_join_23 rfl (lv_at hl 0 rfl) ?_
  refine sx_get EE (hS.1.ob hE hM.1) rfl i_Ed 14 (by decide) rfl fl_Ed_61 rfl d_Ed_join_24 ?_
  refine vx_gv (sx_runS (As := [.ref (r0 1), .ref (r 13), .ref (r 14)]) (rest := []) EE (v_F_times (X := X1) (hS.a (h0.2 1 (by decide)).1) (w0 1 (by decide)) (hS.a (hM.2 13 (by decide) (by decide))) (hS.a (hM.2 14 (by decide) (by decide))) hV) w_Ed_104 rfl ⟨rfl, rfl⟩ ⟨Nat.le_of_ble_eq_true rfl, Nat.le_of_ble_eq_true rfl⟩ ⟨Nat.zero_le _, Nat.zero_le _⟩ hl.1 rfl (Nat.le_of_ble_eq_true rfl) d_Ed_join_27) hS (fun H locs X2 eX2 hS hV => ?_)
  refine lv_aload_n hx hb d_Ed_join_30 rfl (lv_at hl 1 rfl) ?_
  refine sx_getN EE (hS.1.ob n0 h0.1) rfl i_Pt 3 (by decide) rfl fn_Ed_112 rfl d_Ed_join_31 ?_
  refine lv_aload_n hx hb d_Ed_join_34 rfl (lv_at hl 0 rfl) ?_
  refine sx_get EE (hS.1.ob hE hM.1) rfl i_Ed 11 (by decide) rfl fl_Ed_52 rfl d_Ed_join_35 ?_
  refine lv_aload_n hx hb d_Ed_join_38 rfl (lv_at hl 0 rfl) ?_
  refine sx_get EE (hS.1.ob hE hM.1) rfl i_Ed 14 (by decide) rfl fl_Ed_61 rfl d_Ed_join_39 ?_
  refine vx_gv (sx_runS (As := [.ref (r0 3), .ref (r 11), .ref (r 14)]) (rest := []) EE (v_F_times (X := X2) (hS.a (h0.2 3 (by decide)).1) (w0 3 (by decide)) (hS.a (hM.2 11 (by decide) (by decide))) (hS.a (hM.2 14 (by decide) (by decide))) hV) w_Ed_104 rfl ⟨rfl, rfl⟩ ⟨Nat.le_of_ble_eq_true rfl, Nat.le_of_ble_eq_true rfl⟩ ⟨Nat.zero_le _, Nat.zero_le _⟩ hl.1 rfl (Nat.le_of_ble_eq_true rfl) d_Ed_join_42) hS (fun H locs X3 eX3 hS hV => ?_)
  refine lv_aload_n hx hb d_Ed_join_45 rfl (lv_at hl 1 rfl) ?_
  refine sx_getN EE (hS.1.ob n0 h0.1) rfl i_Pt 2 (by decide) rfl fn_Ed_118 rfl d_Ed_join_46 ?_
  refine lv_aload_n hx hb d_Ed_join_49 rfl (lv_at hl 0 rfl) ?_
  refine sx_get EE (hS.1.ob hE hM.1) rfl i_Ed 12 (by decide) rfl fl_Ed_55 rfl d_Ed_join_50 ?_
  refine lv_aload_n hx hb d_Ed_join_53 rfl (lv_at hl 0 rfl) ?_
  refine sx_get EE (hS.1.ob hE hM.1) rfl i_Ed 13 (by decide) rfl fl_Ed_58 rfl d_Ed_join_54 ?_
  refine vx_gv (sx_runS (As := [.ref (r0 2), .ref (r 12), .ref (r 13)]) (rest := []) EE (v_F_times (X := X3) (hS.a (h0.2 2 (by decide)).1) (w0 2 (by decide)) (hS.a (hM.2 12 (by decide) (by decide))) (hS.a (hM.2 13 (by decide) (by decide))) hV) w_Ed_104 rfl ⟨rfl, rfl⟩ ⟨Nat.le_of_ble_eq_true rfl, Nat.le_of_ble_eq_true rfl⟩ ⟨Nat.zero_le _, Nat.zero_le _⟩ hl.1 rfl (Nat.le_of_ble_eq_true rfl) d_Ed_join_57) hS (fun H locs X4 eX4 hS hV => ?_)
  exact hret _ _ _ _ _ (by subst eX1 eX2 eX3 eX4; exact rfl) hS hV d_Ed_join_60
def LF_Ed_add (X : vM) (r : Nat → Nat) (r0 : Nat → Nat) (r1 : Nat → Nat) : vM := (let X1 : vM := (LF_F_subtract X (r 7) (r0 1) (r0 0)); let X2 : vM := (LF_F_times X1 (r 7) (r 7) (r1 0)); let X3 : vM := (LF_F_add X2 (r 8) (r0 1) (r0 0)); let X4 : vM := (LF_F_times X3 (r 8) (r 8) (r1 1)); let X5 : vM := (LF_F_times X4 (r 9) (r0 3) (r1 3)); let X6 : vM := (LF_F_times X5 (r 10) (r0 2) (r1 2)); let X7 : vM := (LF_F_subtract X6 (r 11) (r 8) (r 7)); let X8 : vM := (LF_F_subtract X7 (r 12) (r 10) (r 9)); let X9 : vM := (LF_F_add X8 (r 13) (r 10) (r 9)); let X10 : vM := (LF_F_add X9 (r 14) (r 8) (r 7)); let X11 : vM := (LF_Ed_join X10 r r0); X11)
abbrev rm_Ed_add : Room := { frames := 3, cells := 0, slots := 0, locals := 120 }
set_option maxHeartbeats 4000000 in
set_option maxRecDepth 100000 in
theorem v_Ed_add {l : Launch} {D : va_G} {g : ClassId → FieldType → Prop} {E : Nat → Prop} {H0 : Heap} {X : vM} {o : Nat} {r : Nat → Nat} {a0 : Nat} {r0 : Nat → Nat} {a1 : Nat} {r1 : Nat → Nat} (hM : ed_ D g H0 o r) (hE : ¬ E o) (hW : ∀ k, 7 ≤ k → k < 15 → E (r k)) (h0 : o4_ D g H0 4 a0 r0) (n0 : ¬ E a0) (w0 : ∀ k, k < 4 → E (r0 k)) (h1 : o4_ D g H0 5 a1 r1) (n1 : ¬ E a1) (hV : mm g H0 = X) : Met l y_Ed_add (.code y_Ed_add b_Ed_add 3 none :: G_) rm_Ed_add (sx_Pc [.ref o, .ref a0, .ref a1] H0 D g) (vx_Qv g E H0 (LF_Ed_add X r r0 r1)) 0 0 E := by
  refine vx_mv (own := R_Ed) (by decide) rfl rfl rfl (Nat.le_of_ble_eq_true rfl) ?_
  intro p e s m args below meth c Q ls EE hl hret
  obtain ⟨hx, hb, hml, hown, hts, hG, hK⟩ := id EE
  have hS : sx_S g E E H0 H0 [] := sx_S.rf
  have hl : lv_has ls 3 [(0, .ref o), (1, .ref a0), (2, .ref a1)] := hl
  refine lv_aload_n hx hb d_Ed_add_0 rfl (lv_at hl 0 rfl) ?_
  refine sx_get EE (hS.1.ob hE hM.1) rfl i_Ed 7 (by decide) rfl fl_Ed_39 rfl d_Ed_add_1 ?_
  refine lv_aload_n hx hb d_Ed_add_4 rfl (lv_at hl 1 rfl) ?_
  refine sx_getN EE (hS.1.ob n0 h0.1) rfl i_Pt 1 (by decide) rfl fn_Ed_91 rfl d_Ed_add_5 ?_
  refine lv_aload_n hx hb d_Ed_add_8 rfl (lv_at hl 1 rfl) ?_
  refine sx_getN EE (hS.1.ob n0 h0.1) rfl i_Pt 0 (by decide) rfl fn_Ed_94 rfl d_Ed_add_9 ?_
  refine vx_gv (sx_runS (As := [.ref (r 7), .ref (r0 1), .ref (r0 0)]) (rest := []) EE (v_F_subtract (X := X) (hS.a (hM.2 7 (by decide) (by decide))) (hW 7 (by decide) (by decide)) (hS.a (h0.2 1 (by decide)).1) (hS.a (h0.2 0 (by decide)).1) hV) w_Ed_97 rfl ⟨rfl, rfl⟩ ⟨Nat.le_of_ble_eq_true rfl, Nat.le_of_ble_eq_true rfl⟩ ⟨Nat.zero_le _, Nat.zero_le _⟩ hl.1 rfl (Nat.le_of_ble_eq_true rfl) d_Ed_add_12) hS (fun H locs X1 eX1 hS hV => ?_)
  refine lv_aload_n hx hb d_Ed_add_15 rfl (lv_at hl 0 rfl) ?_
  refine sx_get EE (hS.1.ob hE hM.1) rfl i_Ed 7 (by decide) rfl fl_Ed_39 rfl d_Ed_add_16 ?_
  refine lv_aload_n hx hb d_Ed_add_19 rfl (lv_at hl 0 rfl) ?_
  refine sx_get EE (hS.1.ob hE hM.1) rfl i_Ed 7 (by decide) rfl fl_Ed_39 rfl d_Ed_add_20 ?_
  refine lv_aload_n hx hb d_Ed_add_23 rfl (lv_at hl 2 rfl) ?_
  refine sx_getN EE (hS.1.ob n1 h1.1) rfl i_Ad 0 (by decide) rfl fn_Ed_101 rfl d_Ed_add_24 ?_
  refine vx_gv (sx_runS (As := [.ref (r 7), .ref (r 7), .ref (r1 0)]) (rest := []) EE (v_F_times (X := X1) (hS.a (hM.2 7 (by decide) (by decide))) (hW 7 (by decide) (by decide)) (hS.a (hM.2 7 (by decide) (by decide))) (hS.a (h1.2 0 (by decide)).1) hV) w_Ed_104 rfl ⟨rfl, rfl⟩ ⟨Nat.le_of_ble_eq_true rfl, Nat.le_of_ble_eq_true rfl⟩ ⟨Nat.zero_le _, Nat.zero_le _⟩ hl.1 rfl (Nat.le_of_ble_eq_true rfl) d_Ed_add_27) hS (fun H locs X2 eX2 hS hV => ?_)
  refine lv_aload_n hx hb d_Ed_add_30 rfl (lv_at hl 0 rfl) ?_
  refine sx_get EE (hS.1.ob hE hM.1) rfl i_Ed 8 (by decide) rfl fl_Ed_43 rfl d_Ed_add_31 ?_
  refine lv_aload_n hx hb d_Ed_add_34 rfl (lv_at hl 1 rfl) ?_
  refine sx_getN EE (hS.1.ob n0 h0.1) rfl i_Pt 1 (by decide) rfl fn_Ed_91 rfl d_Ed_add_35 ?_
  refine lv_aload_n hx hb d_Ed_add_38 rfl (lv_at hl 1 rfl) ?_
  refine sx_getN EE (hS.1.ob n0 h0.1) rfl i_Pt 0 (by decide) rfl fn_Ed_94 rfl d_Ed_add_39 ?_
  refine vx_gv (sx_runS (As := [.ref (r 8), .ref (r0 1), .ref (r0 0)]) (rest := []) EE (v_F_add (X := X2) (hS.a (hM.2 8 (by decide) (by decide))) (hW 8 (by decide) (by decide)) (hS.a (h0.2 1 (by decide)).1) (hS.a (h0.2 0 (by decide)).1) hV) w_Ed_107 rfl ⟨rfl, rfl⟩ ⟨Nat.le_of_ble_eq_true rfl, Nat.le_of_ble_eq_true rfl⟩ ⟨Nat.zero_le _, Nat.zero_le _⟩ hl.1 rfl (Nat.le_of_ble_eq_true rfl) d_Ed_add_42) hS (fun H locs X3 eX3 hS hV => ?_)
  refine lv_aload_n hx hb d_Ed_add_45 rfl (lv_at hl 0 rfl) ?_
  refine sx_get EE (hS.1.ob hE hM.1) rfl i_Ed 8 (by decide) rfl fl_Ed_43 rfl d_Ed_add_46 ?_
  refine lv_aload_n hx hb d_Ed_add_49 rfl (lv_at hl 0 rfl) ?_
  refine sx_get EE (hS.1.ob hE hM.1) rfl i_Ed 8 (by decide) rfl fl_Ed_43 rfl d_Ed_add_50 ?_
  refine lv_aload_n hx hb d_Ed_add_53 rfl (lv_at hl 2 rfl) ?_
  refine sx_getN EE (hS.1.ob n1 h1.1) rfl i_Ad 1 (by decide) rfl fn_Ed_109 rfl d_Ed_add_54 ?_
  refine vx_gv (sx_runS (As := [.ref (r 8), .ref (r 8), .ref (r1 1)]) (rest := []) EE (v_F_times (X := X3) (hS.a (hM.2 8 (by decide) (by decide))) (hW 8 (by decide) (by decide)) (hS.a (hM.2 8 (by decide) (by decide))) (hS.a (h1.2 1 (by decide)).1) hV) w_Ed_104 rfl ⟨rfl, rfl⟩ ⟨Nat.le_of_ble_eq_true rfl, Nat.le_of_ble_eq_true rfl⟩ ⟨Nat.zero_le _, Nat.zero_le _⟩ hl.1 rfl (Nat.le_of_ble_eq_true rfl) d_Ed_add_57) hS (fun H locs X4 eX4 hS hV => ?_)
  refine lv_aload_n hx hb d_Ed_add_60 rfl (lv_at hl 0 rfl) ?_
  refine sx_get EE (hS.1.ob hE hM.1) rfl i_Ed 9 (by decide) rfl fl_Ed_46 rfl d_Ed_add_61 ?_
  refine lv_aload_n hx hb d_Ed_add_64 rfl (lv_at hl 1 rfl) ?_
  refine sx_getN EE (hS.1.ob n0 h0.1) rfl i_Pt 3 (by decide) rfl fn_Ed_112 rfl d_Ed_add_65 ?_
  refine lv_aload_n hx hb d_Ed_add_68 rfl (lv_at hl 2 rfl) ?_
  refine sx_getN EE (hS.1.ob n1 h1.1) rfl i_Ad 3 (by decide) rfl fn_Ed_115 rfl d_Ed_add_69 ?_
  refine vx_gv (sx_runS (As := [.ref (r 9), .ref (r0 3), .ref (r1 3)]) (rest := []) EE (v_F_times (X := X4) (hS.a (hM.2 9 (by decide) (by decide))) (hW 9 (by decide) (by decide)) (hS.a (h0.2 3 (by decide)).1) (hS.a (h1.2 3 (by decide)).1) hV) w_Ed_104 rfl ⟨rfl, rfl⟩ ⟨Nat.le_of_ble_eq_true rfl, Nat.le_of_ble_eq_true rfl⟩ ⟨Nat.zero_le _, Nat.zero_le _⟩ hl.1 rfl (Nat.le_of_ble_eq_true rfl) d_Ed_add_72) hS (fun H locs X5 eX5 hS hV => ?_)
  refine lv_aload_n hx hb d_Ed_add_75 rfl (lv_at hl 0 rfl) ?_
  refine sx_get EE (hS.1.ob hE hM.1) rfl i_Ed 10 (by decide) rfl fl_Ed_49 rfl d_Ed_add_76 ?_
  refine lv_aload_n hx hb d_Ed_add_79 rfl (lv_at hl 1 rfl) ?_
  refine sx_getN EE (hS.1.ob n0 h0.1) rfl i_Pt 2 (by decide) rfl fn_Ed_118 rfl d_Ed_add_80 ?_
  refine lv_aload_n hx hb d_Ed_add_83 rfl (lv_at hl 2 rfl) ?_
  refine sx_getN EE (hS.1.ob n1 h1.1) rfl i_Ad 2 (by decide) rfl fn_Ed_121 rfl d_Ed_add_84 ?_
  refine vx_gv (sx_runS (As := [.ref (r 10), .ref (r0 2), .ref (r1 2)]) (rest := []) EE (v_F_times (X := X5) (hS.a (hM.2 10 (by decide) (by decide))) (hW 10 (by decide) (by decide)) (hS.a (h0.2 2 (by decide)).1) (hS.a (h1.2 2 (by decide)).1) hV) w_Ed_104 rfl ⟨rfl, rfl⟩ ⟨Nat.le_of_ble_eq_true rfl, Nat.le_of_ble_eq_true rfl⟩ ⟨Nat.zero_le _, Nat.zero_le _⟩ hl.1 rfl (Nat.le_of_ble_eq_true rfl) d_Ed_add_87) hS (fun H locs X6 eX6 hS hV => ?_)
  refine lv_aload_n hx hb d_Ed_add_90 rfl (lv_at hl 0 rfl) ?_
  refine sx_get EE (hS.1.ob hE hM.1) rfl i_Ed 11 (by decide) rfl fl_Ed_52 rfl d_Ed_add_91 ?_
  refine lv_aload_n hx hb d_Ed_add_94 rfl (lv_at hl 0 rfl) ?_
  refine sx_get EE (hS.1.ob hE hM.1) rfl i_Ed 8 (by decide) rfl fl_Ed_43 rfl d_Ed_add_95 ?_
  refine lv_aload_n hx hb d_Ed_add_98 rfl (lv_at hl 0 rfl) ?_
  refine sx_get EE (hS.1.ob hE hM.1) rfl i_Ed 7 (by decide) rfl fl_Ed_39 rfl d_Ed_add_99 ?_
  refine vx_gv (sx_runS (As := [.ref (r 11), .ref (r 8), .ref (r 7)]) (rest := []) EE (v_F_subtract (X := X6) (hS.a (hM.2 11 (by decide) (by decide))) (hW 11 (by decide) (by decide)) (hS.a (hM.2 8 (by decide) (by decide))) (hS.a (hM.2 7 (by decide) (by decide))) hV) w_Ed_97 rfl ⟨rfl, rfl⟩ ⟨Nat.le_of_ble_eq_true rfl, Nat.le_of_ble_eq_true rfl⟩ ⟨Nat.zero_le _, Nat.zero_le _⟩ hl.1 rfl (Nat.le_of_ble_eq_true rfl) d_Ed_add_102) hS (fun H locs X7 eX7 hS hV => ?_)
  refine lv_aload_n hx hb d_Ed_add_105 rfl (lv_at hl 0 rfl) ?_
  refine sx_get EE (hS.1.ob hE hM.1) rfl i_Ed 12 (by decide) rfl fl_Ed_55 rfl d_Ed_add_106 ?_
  refine lv_aload_n hx hb d_Ed_add_109 rfl (lv_at hl 0 rfl) ?_
  refine sx_get EE (hS.1.ob hE hM.1) rfl i_Ed 10 (by decide) rfl fl_Ed_49 rfl d_Ed_add_110 ?_
  refine lv_aload_n hx hb d_Ed_add_113 rfl (lv_at hl 0 rfl) ?_
  refine sx_get EE (hS.1.ob hE hM.1) rfl i_Ed 9 (by decide) rfl fl_Ed_46 rfl d_Ed_add_114 ?_
  refine vx_gv (sx_runS (As := [.ref (r 12), .ref (r 10), .ref (r 9)]) (rest := []) EE (v_F_subtract (X := X7) (hS.a (hM.2 12 (by decide) (by decide))) (hW 12 (by decide) (by decide)) (hS.a (hM.2 10 (by decide) (by decide))) (hS.a (hM.2 9 (by decide) (by decide))) hV) w_Ed_97 rfl ⟨rfl, rfl⟩ ⟨Nat.le_of_ble_eq_true rfl, Nat.le_of_ble_eq_true rfl⟩ ⟨Nat.zero_le _, Nat.zero_le _⟩ hl.1 rfl (Nat.le_of_ble_eq_true rfl) d_Ed_add_117) hS (fun H locs X8 eX8 hS hV => ?_)
  refine lv_aload_n hx hb d_Ed_add_120 rfl (lv_at hl 0 rfl) ?_
  refine sx_get EE (hS.1.ob hE hM.1) rfl i_Ed 13 (by decide) rfl fl_Ed_58 rfl d_Ed_add_121 ?_
  refine lv_aload_n hx hb d_Ed_add_124 rfl (lv_at hl 0 rfl) ?_
  refine sx_get EE (hS.1.ob hE hM.1) rfl i_Ed 10 (by decide) rfl fl_Ed_49 rfl d_Ed_add_125 ?_
  refine lv_aload_n hx hb d_Ed_add_128 rfl (lv_at hl 0 rfl) ?_
  refine sx_get EE (hS.1.ob hE hM.1) rfl i_Ed 9 (by decide) rfl fl_Ed_46 rfl d_Ed_add_129 ?_
  refine vx_gv (sx_runS (As := [.ref (r 13), .ref (r 10), .ref (r 9)]) (rest := []) EE (v_F_add (X := X8) (hS.a (hM.2 13 (by decide) (by decide))) (hW 13 (by decide) (by decide)) (hS.a (hM.2 10 (by decide) (by decide))) (hS.a (hM.2 9 (by decide) (by decide))) hV) w_Ed_107 rfl ⟨rfl, rfl⟩ ⟨Nat.le_of_ble_eq_true rfl, Nat.le_of_ble_eq_true rfl⟩ ⟨Nat.zero_le _, Nat.zero_le _⟩ hl.1 rfl (Nat.le_of_ble_eq_true rfl) d_Ed_add_132) hS (fun H locs X9 eX9 hS hV => ?_)
  refine lv_aload_n hx hb d_Ed_add_135 rfl (lv_at hl 0 rfl) ?_
  refine sx_get EE (hS.1.ob hE hM.1) rfl i_Ed 14 (by decide) rfl fl_Ed_61 rfl d_Ed_add_136 ?_
  refine lv_aload_n hx hb d_Ed_add_139 rfl (lv_at hl 0 rfl) ?_
  refine sx_get EE (hS.1.ob hE hM.1) rfl i_Ed 8 (by decide) rfl fl_Ed_43 rfl d_Ed_add_140 ?_
  refine lv_aload_n hx hb d_Ed_add_143 rfl (lv_at hl 0 rfl) ?_
  refine sx_get EE (hS.1.ob hE hM.1) rfl i_Ed 7 (by decide) rfl fl_Ed_39 rfl d_Ed_add_144 ?_
  refine vx_gv (sx_runS (As := [.ref (r 14), .ref (r 8), .ref (r 7)]) (rest := []) EE (v_F_add (X := X9) (hS.a (hM.2 14 (by decide) (by decide))) (hW 14 (by decide) (by decide)) (hS.a (hM.2 8 (by decide) (by decide))) (hS.a (hM.2 7 (by decide) (by decide))) hV) w_Ed_107 rfl ⟨rfl, rfl⟩ ⟨Nat.le_of_ble_eq_true rfl, Nat.le_of_ble_eq_true rfl⟩ ⟨Nat.zero_le _, Nat.zero_le _⟩ hl.1 rfl (Nat.le_of_ble_eq_true rfl) d_Ed_add_147) hS (fun H locs X10 eX10 hS hV => ?_)
  refine lv_aload_n hx hb d_Ed_add_150 rfl (lv_at hl 0 rfl) ?_
  refine lv_aload_n hx hb d_Ed_add_151 rfl (lv_at hl 1 rfl) ?_
  refine vx_gv (sx_runV (As := [.ref a0]) (rest := []) EE (hS.1.ob hE hM.1) rfl rfl (v_Ed_join (X := X10) (hM.kept hS.1 hE) hE hW (h0.kept hS.1 n0) n0 w0 hV) w_Ed_124 rfl ⟨rfl, rfl⟩ ⟨Nat.le_of_ble_eq_true rfl, Nat.le_of_ble_eq_true rfl⟩ ⟨Nat.zero_le _, Nat.zero_le _⟩ hl.1 rfl (Nat.le_of_ble_eq_true rfl) d_Ed_add_152) hS (fun H locs X11 eX11 hS hV => ?_)
  exact hret _ _ _ _ _ (by subst eX1 eX2 eX3 eX4 eX5 eX6 eX7 eX8 eX9 eX10 eX11; exact rfl) hS hV d_Ed_add_155
def LF_Ed_twice (X : vM) (r : Nat → Nat) (r0 : Nat → Nat) : vM := (let X1 : vM := (LF_F_square X (r 7) (r0 0)); let X2 : vM := (LF_F_square X1 (r 8) (r0 1)); let X3 : vM := (LF_F_square X2 (r 9) (r0 2)); let X4 : vM := (LF_F_add X3 (r 9) (r 9) (r 9)); let X5 : vM := (LF_F_add X4 (r 14) (r 7) (r 8)); let X6 : vM := (LF_F_add X5 (r 11) (r0 0) (r0 1)); let X7 : vM := (LF_F_square X6 (r 11) (r 11)); let X8 : vM := (LF_F_subtract X7 (r 11) (r 14) (r 11)); let X9 : vM := (LF_F_subtract X8 (r 13) (r 7) (r 8)); let X10 : vM := (LF_F_add X9 (r 12) (r 9) (r 13)); let X11 : vM := (LF_Ed_join X10 r r0); X11)
abbrev rm_Ed_twice : Room := { frames := 3, cells := 0, slots := 0, locals := 120 }
set_option maxHeartbeats 4000000 in
set_option maxRecDepth 100000 in
theorem v_Ed_twice {l : Launch} {D : va_G} {g : ClassId → FieldType → Prop} {E : Nat → Prop} {H0 : Heap} {X : vM} {o : Nat} {r : Nat → Nat} {a0 : Nat} {r0 : Nat → Nat} (hM : ed_ D g H0 o r) (hE : ¬ E o) (hW : ∀ k, 7 ≤ k → k < 15 → E (r k)) (h0 : o4_ D g H0 4 a0 r0) (n0 : ¬ E a0) (w0 : ∀ k, k < 4 → E (r0 k)) (hV : mm g H0 = X) : Met l y_Ed_twice (.code y_Ed_twice b_Ed_twice 2 none :: G_) rm_Ed_twice (sx_Pc [.ref o, .ref a0] H0 D g) (vx_Qv g E H0 (LF_Ed_twice X r r0)) 0 0 E := by
  refine vx_mv (own := R_Ed) (by decide) rfl rfl rfl (Nat.le_of_ble_eq_true rfl) ?_
  intro p e s m args below meth c Q ls EE hl hret
  obtain ⟨hx, hb, hml, hown, hts, hG, hK⟩ := id EE
  have hS : sx_S g E E H0 H0 [] := sx_S.rf
  have hl : lv_has ls 2 [(0, .ref o), (1, .ref a0)] := hl
  refine lv_aload_n hx hb d_Ed_twice_0 rfl (lv_at hl 0 rfl) ?_
  refine sx_get EE (hS.1.ob hE hM.1) rfl i_Ed 7 (by decide) rfl fl_Ed_39 rfl d_Ed_twice_1 ?_
  refine lv_aload_n hx hb d_Ed_twice_4 rfl (lv_at hl 1 rfl) ?_
  refine sx_getN EE (hS.1.ob n0 h0.1) rfl i_Pt 0 (by decide) rfl fn_Ed_94 rfl d_Ed_twice_5 ?_
  refine vx_gv (sx_runS (As := [.ref (r 7), .ref (r0 0)]) (rest := []) EE (v_F_square (X := X) (hS.a (hM.2 7 (by decide) (by decide))) (hW 7 (by decide) (by decide)) (hS.a (h0.2 0 (by decide)).1) hV) w_Ed_127 rfl ⟨rfl, rfl⟩ ⟨Nat.le_of_ble_eq_true rfl, Nat.le_of_ble_eq_true rfl⟩ ⟨Nat.zero_le _, Nat.zero_le _⟩ hl.1 rfl (Nat.le_of_ble_eq_true rfl) d_Ed_twice_8) hS (fun H locs X1 eX1 hS hV => ?_)
  refine lv_aload_n hx hb d_Ed_twice_11 rfl (lv_at hl 0 rfl) ?_
  refine sx_get EE (hS.1.ob hE hM.1) rfl i_Ed 8 (by decide) rfl fl_Ed_43 rfl d_Ed_twice_12 ?_
  refine lv_aload_n hx hb d_Ed_twice_15 rfl (lv_at hl 1 rfl) ?_
  refine sx_getN EE (hS.1.ob n0 h0.1) rfl i_Pt 1 (by decide) rfl fn_Ed_91 rfl d_Ed_twice_16 ?_
  refine vx_gv (sx_runS (As := [.ref (r 8), .ref (r0 1)]) (rest := []) EE (v_F_square (X := X1) (hS.a (hM.2 8 (by decide) (by decide))) (hW 8 (by decide) (by decide)) (hS.a (h0.2 1 (by decide)).1) hV) w_Ed_127 rfl ⟨rfl, rfl⟩ ⟨Nat.le_of_ble_eq_true rfl, Nat.le_of_ble_eq_true rfl⟩ ⟨Nat.zero_le _, Nat.zero_le _⟩ hl.1 rfl (Nat.le_of_ble_eq_true rfl) d_Ed_twice_19) hS (fun H locs X2 eX2 hS hV => ?_)
  refine lv_aload_n hx hb d_Ed_twice_22 rfl (lv_at hl 0 rfl) ?_
  refine sx_get EE (hS.1.ob hE hM.1) rfl i_Ed 9 (by decide) rfl fl_Ed_46 rfl d_Ed_twice_23 ?_
  refine lv_aload_n hx hb d_Ed_twice_26 rfl (lv_at hl 1 rfl) ?_
  refine sx_getN EE (hS.1.ob n0 h0.1) rfl i_Pt 2 (by decide) rfl fn_Ed_118 rfl d_Ed_twice_27 ?_
  refine vx_gv (sx_runS (As := [.ref (r 9), .ref (r0 2)]) (rest := []) EE (v_F_square (X := X2) (hS.a (hM.2 9 (by decide) (by decide))) (hW 9 (by decide) (by decide)) (hS.a (h0.2 2 (by decide)).1) hV) w_Ed_127 rfl ⟨rfl, rfl⟩ ⟨Nat.le_of_ble_eq_true rfl, Nat.le_of_ble_eq_true rfl⟩ ⟨Nat.zero_le _, Nat.zero_le _⟩ hl.1 rfl (Nat.le_of_ble_eq_true rfl) d_Ed_twice_30) hS (fun H locs X3 eX3 hS hV => ?_)
  refine lv_aload_n hx hb d_Ed_twice_33 rfl (lv_at hl 0 rfl) ?_
  refine sx_get EE (hS.1.ob hE hM.1) rfl i_Ed 9 (by decide) rfl fl_Ed_46 rfl d_Ed_twice_34 ?_
  refine lv_aload_n hx hb d_Ed_twice_37 rfl (lv_at hl 0 rfl) ?_
  refine sx_get EE (hS.1.ob hE hM.1) rfl i_Ed 9 (by decide) rfl fl_Ed_46 rfl d_Ed_twice_38 ?_
  refine lv_aload_n hx hb d_Ed_twice_41 rfl (lv_at hl 0 rfl) ?_
  refine sx_get EE (hS.1.ob hE hM.1) rfl i_Ed 9 (by decide) rfl fl_Ed_46 rfl d_Ed_twice_42 ?_
  refine vx_gv (sx_runS (As := [.ref (r 9), .ref (r 9), .ref (r 9)]) (rest := []) EE (v_F_add (X := X3) (hS.a (hM.2 9 (by decide) (by decide))) (hW 9 (by decide) (by decide)) (hS.a (hM.2 9 (by decide) (by decide))) (hS.a (hM.2 9 (by decide) (by decide))) hV) w_Ed_107 rfl ⟨rfl, rfl⟩ ⟨Nat.le_of_ble_eq_true rfl, Nat.le_of_ble_eq_true rfl⟩ ⟨Nat.zero_le _, Nat.zero_le _⟩ hl.1 rfl (Nat.le_of_ble_eq_true rfl) d_Ed_twice_45) hS (fun H locs X4 eX4 hS hV => ?_)
  refine lv_aload_n hx hb d_Ed_twice_48 rfl (lv_at hl 0 rfl) ?_
  refine sx_get EE (hS.1.ob hE hM.1) rfl i_Ed 14 (by decide) rfl fl_Ed_61 rfl d_Ed_twice_49 ?_
  refine lv_aload_n hx hb d_Ed_twice_52 rfl (lv_at hl 0 rfl) ?_
  refine sx_get EE (hS.1.ob hE hM.1) rfl i_Ed 7 (by decide) rfl fl_Ed_39 rfl d_Ed_twice_53 ?_
  refine lv_aload_n hx hb d_Ed_twice_56 rfl (lv_at hl 0 rfl) ?_
  refine sx_get EE (hS.1.ob hE hM.1) rfl i_Ed 8 (by decide) rfl fl_Ed_43 rfl d_Ed_twice_57 ?_
  refine vx_gv (sx_runS (As := [.ref (r 14), .ref (r 7), .ref (r 8)]) (rest := []) EE (v_F_add (X := X4) (hS.a (hM.2 14 (by decide) (by decide))) (hW 14 (by decide) (by decide)) (hS.a (hM.2 7 (by decide) (by decide))) (hS.a (hM.2 8 (by decide) (by decide))) hV) w_Ed_107 rfl ⟨rfl, rfl⟩ ⟨Nat.le_of_ble_eq_true rfl, Nat.le_of_ble_eq_true rfl⟩ ⟨Nat.zero_le _, Nat.zero_le _⟩ hl.1 rfl (Nat.le_of_ble_eq_true rfl) d_Ed_twice_60) hS (fun H locs X5 eX5 hS hV => ?_)
  refine lv_aload_n hx hb d_Ed_twice_63 rfl (lv_at hl 0 rfl) ?_
  refine sx_get EE (hS.1.ob hE hM.1) rfl i_Ed 11 (by decide) rfl fl_Ed_52 rfl d_Ed_twice_64 ?_
  refine lv_aload_n hx hb d_Ed_twice_67 rfl (lv_at hl 1 rfl) ?_
  refine sx_getN EE (hS.1.ob n0 h0.1) rfl i_Pt 0 (by decide) rfl fn_Ed_94 rfl d_Ed_twice_68 ?_
  refine lv_aload_n hx hb d_Ed_twice_71 rfl (lv_at hl 1 rfl) ?_
  refine sx_getN EE (hS.1.ob n0 h0.1) rfl i_Pt 1 (by decide) rfl fn_Ed_91 rfl d_Ed_twice_72 ?_
  refine vx_gv (sx_runS (As := [.ref (r 11), .ref (r0 0), .ref (r0 1)]) (rest := []) EE (v_F_add (X := X5) (hS.a (hM.2 11 (by decide) (by decide))) (hW 11 (by decide) (by decide)) (hS.a (h0.2 0 (by decide)).1) (hS.a (h0.2 1 (by decide)).1) hV) w_Ed_107 rfl ⟨rfl, rfl⟩ ⟨Nat.le_of_ble_eq_true rfl, Nat.le_of_ble_eq_true rfl⟩ ⟨Nat.zero_le _, Nat.zero_le _⟩ hl.1 rfl (Nat.le_of_ble_eq_true rfl) d_Ed_twice_75) hS (fun H locs X6 eX6 hS hV => ?_)
  refine lv_aload_n hx hb d_Ed_twice_78 rfl (lv_at hl 0 rfl) ?_
  refine sx_get EE (hS.1.ob hE hM.1) rfl i_Ed 11 (by decide) rfl fl_Ed_52 rfl d_Ed_twice_79 ?_
  refine lv_aload_n hx hb d_Ed_twice_82 rfl (lv_at hl 0 rfl) ?_
  refine sx_get EE (hS.1.ob hE hM.1) rfl i_Ed 11 (by decide) rfl fl_Ed_52 rfl d_Ed_twice_83 ?_
  refine vx_gv (sx_runS (As := [.ref (r 11), .ref (r 11)]) (rest := []) EE (v_F_square (X := X6) (hS.a (hM.2 11 (by decide) (by decide))) (hW 11 (by decide) (by decide)) (hS.a (hM.2 11 (by decide) (by decide))) hV) w_Ed_127 rfl ⟨rfl, rfl⟩ ⟨Nat.le_of_ble_eq_true rfl, Nat.le_of_ble_eq_true rfl⟩ ⟨Nat.zero_le _, Nat.zero_le _⟩ hl.1 rfl (Nat.le_of_ble_eq_true rfl) d_Ed_twice_86) hS (fun H locs X7 eX7 hS hV => ?_)
  refine lv_aload_n hx hb d_Ed_twice_89 rfl (lv_at hl 0 rfl) ?_
  refine sx_get EE (hS.1.ob hE hM.1) rfl i_Ed 11 (by decide) rfl fl_Ed_52 rfl d_Ed_twice_90 ?_
  refine lv_aload_n hx hb d_Ed_twice_93 rfl (lv_at hl 0 rfl) ?_
  refine sx_get EE (hS.1.ob hE hM.1) rfl i_Ed 14 (by decide) rfl fl_Ed_61 rfl d_Ed_twice_94 ?_
  refine lv_aload_n hx hb d_Ed_twice_97 rfl (lv_at hl 0 rfl) ?_
  refine sx_get EE (hS.1.ob hE hM.1) rfl i_Ed 11 (by decide) rfl fl_Ed_52 rfl d_Ed_twice_98 ?_
  refine vx_gv (sx_runS (As := [.ref (r 11), .ref (r 14), .ref (r 11)]) (rest := []) EE (v_F_subtract (X := X7) (hS.a (hM.2 11 (by decide) (by decide))) (hW 11 (by decide) (by decide)) (hS.a (hM.2 14 (by decide) (by decide))) (hS.a (hM.2 11 (by decide) (by decide))) hV) w_Ed_97 rfl ⟨rfl, rfl⟩ ⟨Nat.le_of_ble_eq_true rfl, Nat.le_of_ble_eq_true rfl⟩ ⟨Nat.zero_le _, Nat.zero_le _⟩ hl.1 rfl (Nat.le_of_ble_eq_true rfl) d_Ed_twice_101) hS (fun H locs X8 eX8 hS hV => ?_)
  refine lv_aload_n hx hb d_Ed_twice_104 rfl (lv_at hl 0 rfl) ?_
  refine sx_get EE (hS.1.ob hE hM.1) rfl i_Ed 13 (by decide) rfl fl_Ed_58 rfl d_Ed_twice_105 ?_
  refine lv_aload_n hx hb d_Ed_twice_108 rfl (lv_at hl 0 rfl) ?_
  refine sx_get EE (hS.1.ob hE hM.1) rfl i_Ed 7 (by decide) rfl fl_Ed_39 rfl d_Ed_twice_109 ?_
  refine lv_aload_n hx hb d_Ed_twice_112 rfl (lv_at hl 0 rfl) ?_
  refine sx_get EE (hS.1.ob hE hM.1) rfl i_Ed 8 (by decide) rfl fl_Ed_43 rfl d_Ed_twice_113 ?_
  refine vx_gv (sx_runS (As := [.ref (r 13), .ref (r 7), .ref (r 8)]) (rest := []) EE (v_F_subtract (X := X8) (hS.a (hM.2 13 (by decide) (by decide))) (hW 13 (by decide) (by decide)) (hS.a (hM.2 7 (by decide) (by decide))) (hS.a (hM.2 8 (by decide) (by decide))) hV) w_Ed_97 rfl ⟨rfl, rfl⟩ ⟨Nat.le_of_ble_eq_true rfl, Nat.le_of_ble_eq_true rfl⟩ ⟨Nat.zero_le _, Nat.zero_le _⟩ hl.1 rfl (Nat.le_of_ble_eq_true rfl) d_Ed_twice_116) hS (fun H locs X9 eX9 hS hV => ?_)
  refine lv_aload_n hx hb d_Ed_twice_119 rfl (lv_at hl 0 rfl) ?_
  refine sx_get EE (hS.1.ob hE hM.1) rfl i_Ed 12 (by decide) rfl fl_Ed_55 rfl d_Ed_twice_120 ?_
  refine lv_aload_n hx hb d_Ed_twice_123 rfl (lv_at hl 0 rfl) ?_
  refine sx_get EE (hS.1.ob hE hM.1) rfl i_Ed 9 (by decide) rfl fl_Ed_46 rfl d_Ed_twice_124 ?_
  refine lv_aload_n hx hb d_Ed_twice_127 rfl (lv_at hl 0 rfl) ?_
  refine sx_get EE (hS.1.ob hE hM.1) rfl i_Ed 13 (by decide) rfl fl_Ed_58 rfl d_Ed_twice_128 ?_
  refine vx_gv (sx_runS (As := [.ref (r 12), .ref (r 9), .ref (r 13)]) (rest := []) EE (v_F_add (X := X9) (hS.a (hM.2 12 (by decide) (by decide))) (hW 12 (by decide) (by decide)) (hS.a (hM.2 9 (by decide) (by decide))) (hS.a (hM.2 13 (by decide) (by decide))) hV) w_Ed_107 rfl ⟨rfl, rfl⟩ ⟨Nat.le_of_ble_eq_true rfl, Nat.le_of_ble_eq_true rfl⟩ ⟨Nat.zero_le _, Nat.zero_le _⟩ hl.1 rfl (Nat.le_of_ble_eq_true rfl) d_Ed_twice_131) hS (fun H locs X10 eX10 hS hV => ?_)
  refine lv_aload_n hx hb d_Ed_twice_134 rfl (lv_at hl 0 rfl) ?_
  refine lv_aload_n hx hb d_Ed_twice_135 rfl (lv_at hl 1 rfl) ?_
  refine vx_gv (sx_runV (As := [.ref a0]) (rest := []) EE (hS.1.ob hE hM.1) rfl rfl (v_Ed_join (X := X10) (hM.kept hS.1 hE) hE hW (h0.kept hS.1 n0) n0 w0 hV) w_Ed_124 rfl ⟨rfl, rfl⟩ ⟨Nat.le_of_ble_eq_true rfl, Nat.le_of_ble_eq_true rfl⟩ ⟨Nat.zero_le _, Nat.zero_le _⟩ hl.1 rfl (Nat.le_of_ble_eq_true rfl) d_Ed_twice_136) hS (fun H locs X11 eX11 hS hV => ?_)
  exact hret _ _ _ _ _ (by subst eX1 eX2 eX3 eX4 eX5 eX6 eX7 eX8 eX9 eX10 eX11; exact rfl) hS hV d_Ed_twice_139
def LL_Ed_fillMultiples_9 (r : Nat → Nat) (r1 : Nat → Nat) (w0 : Nat → Nat → Nat) (ts : Nat → Nat) : Nat → vM → vM := fun i_0 s_1 => (let X_2 : vM := (LF_Ed_add s_1 r r1 (w0 1)); let X_3 : vM := (LF_Ad_set X_2 (w0 i_0) r1 ts); X_3)
def LF_Ed_fillMultiples (X : vM) (r : Nat → Nat) (w0 : Nat → Nat → Nat) (r1 : Nat → Nat) (ts : Nat → Nat) : vM := (let X1 : vM := (LF_Ad_set X (w0 1) r1 ts); let R4 : vM := lpU 1 (LL_Ed_fillMultiples_9 r r1 w0 ts) 14 2 X1; R4)
abbrev rm_Ed_fillMultiples : Room := { frames := 4, cells := 0, slots := 0, locals := 142 }
set_option maxHeartbeats 4000000 in
set_option maxRecDepth 100000 in
theorem v_Ed_fillMultiples {l : Launch} {D : va_G} {g : ClassId → FieldType → Prop} {E : Nat → Prop} {H0 : Heap} {X : vM} {o : Nat} {r : Nat → Nat} {a0 : Nat} {w0 : Nat → Nat → Nat} {a1 : Nat} {r1 : Nat → Nat} {ts : Nat → Nat} (hM : ed_ D g H0 o r) (hE : ¬ E o) (hW : ∀ k, 7 ≤ k → k < 15 → E (r k)) (h0 : rb_ D g E H0 a0 w0) (h1 : o4_ D g H0 4 a1 r1) (n1 : ¬ E a1) (w1 : ∀ k, k < 4 → E (r1 k)) (hz : st_H D g E H0 ts) (hV : mm g H0 = X) : Met l y_Ed_fillMultiples (.code y_Ed_fillMultiples b_Ed_fillMultiples 4 none :: G_) rm_Ed_fillMultiples (sx_Pc [.ref o, .ref a0, .ref a1] H0 D g) (vx_Qv g E H0 (LF_Ed_fillMultiples X r w0 r1 ts)) 0 0 E := by
  refine vx_mv (own := R_Ed) (by decide) rfl rfl rfl (Nat.le_of_ble_eq_true rfl) ?_
  intro p e s m args below meth c Q ls EE hl hret
  obtain ⟨hx, hb, hml, hown, hts, hG, hK⟩ := id EE
  have hS : sx_S g E E H0 H0 [] := sx_S.rf
  have hl : lv_has ls 4 [(0, .ref o), (1, .ref a0), (2, .ref a1)] := hl
  refine lv_aload_n hx hb d_Ed_fillMultiples_0 rfl (lv_at hl 1 rfl) ?_
  refine lv_iconst (v := nI 1) hx hb d_Ed_fillMultiples_1 (by decide +kernel) ?_
  refine vx_aald hx hb hG hS h0 (by omega) d_Ed_fillMultiples_2 ?_
  refine W.eq (g2 := F0 m 3 ls (.ref (w0 1 99) :: [])) rfl ?_
  refine lv_aload_n hx hb d_Ed_fillMultiples_3 rfl (lv_at hl 2 rfl) ?_
  refine vx_gv (sx_runV (As := [.ref a1]) (rest := []) EE (hS.1.ob (rb_.el (j := 1) h0 (by omega)).2.1 (rb_.el (j := 1) h0 (by omega)).1.1) rfl rfl (v_Ad_set (X := X) ((rb_.el (j := 1) h0 (by omega)).1.kept hS.1 (rb_.el (j := 1) h0 (by omega)).2.1) (rb_.el (j := 1) h0 (by omega)).2.1 (rb_.el (j := 1) h0 (by omega)).2.2 (h1.kept hS.1 n1) n1 (hz.kept hS.1) hV) w_Ed_83 rfl ⟨rfl, rfl⟩ ⟨Nat.le_of_ble_eq_true rfl, Nat.le_of_ble_eq_true rfl⟩ ⟨Nat.zero_le _, Nat.zero_le _⟩ hl.1 rfl (Nat.le_of_ble_eq_true rfl) d_Ed_fillMultiples_4) hS (fun H locs X1 eX1 hS hV => ?_)
  refine lv_iconst (v := nI 2) hx hb d_Ed_fillMultiples_7 (by decide +kernel) ?_
  refine lv_istore_n (lv' := [(3, .int (nI (2))), (0, .ref o), (1, .ref a0), (2, .ref a1)]) hx hb d_Ed_fillMultiples_8 rfl hl (by decide) rfl (fun ls hl => ?_)
  obtain ⟨R4, eR4⟩ : ∃ t : vM, lpU 1 (LL_Ed_fillMultiples_9 r r1 w0 ts) 14 2 X1 = t := ⟨_, rfl⟩
  refine lpU_go (σ := vM) (P := fun i2 s3 H locs ls => 2 ≤ i2 ∧ sx_S g E E H0 H locs ∧ mm g H = s3 ∧ lv_has ls 4 [(3, .int (nI (i2))), (0, .ref o), (1, .ref a0), (2, .ref a1)]) (Wd := fun H locs ls => W p l e rm_Ed_fillMultiples s m args below meth c H locs 0 0 Q (F0 m 9 ls [])) (N := 16) (d := 1) (by decide) ?_ ?_ 14 2 _ (by omega) eR4 _ _ _ ⟨(by omega), hS, hV, lv_sub hl [0, 1, 2, 3] rfl⟩
  · intro i2 s3 H locs ls hii2 hP ihi2
    obtain ⟨hxs3_0, hS, hV, hl⟩ := hP
    refine lv_iload_n hx hb d_Ed_fillMultiples_9 rfl (lv_at hl 0 rfl) ?_
    refine lv_bipush (v := nI 16) hx hb d_Ed_fillMultiples_10 (by decide +kernel) ?_
    refine lv_icmp_ge (tgt := 36) hx hb d_Ed_fillMultiples_12 (by decide) (fun q => absurd q (nI_ge (by omega) (by omega))) (fun _ => ?_)
    refine lv_aload_n hx hb d_Ed_fillMultiples_15 rfl (lv_at hl 1 rfl) ?_
    refine lv_aload_n hx hb d_Ed_fillMultiples_16 rfl (lv_at hl 3 rfl) ?_
    refine lv_aload_n hx hb d_Ed_fillMultiples_17 rfl (lv_at hl 2 rfl) ?_
    refine lv_iconst (v := nI 1) hx hb d_Ed_fillMultiples_18 (by decide +kernel) ?_
    refine vx_aald hx hb hG hS h0 (by omega) d_Ed_fillMultiples_19 ?_
    refine W.eq (g2 := F0 m 20 ls (.ref (w0 1 99) :: [.ref a1, .ref o])) rfl ?_
    refine vx_gv (sx_runV (As := [.ref a1, .ref (w0 1 99)]) (rest := []) EE (hS.1.ob hE hM.1) rfl rfl (v_Ed_add (X := s3) (hM.kept hS.1 hE) hE hW (h1.kept hS.1 n1) n1 w1 ((rb_.el (j := 1) h0 (by omega)).1.kept hS.1 (rb_.el (j := 1) h0 (by omega)).2.1) (rb_.el (j := 1) h0 (by omega)).2.1 hV) w_Ed_87 rfl ⟨rfl, rfl⟩ ⟨Nat.le_of_ble_eq_true rfl, Nat.le_of_ble_eq_true rfl⟩ ⟨Nat.zero_le _, Nat.zero_le _⟩ hl.1 rfl (Nat.le_of_ble_eq_true rfl) d_Ed_fillMultiples_20) hS (fun H locs X5 eX5 hS hV => ?_)
    refine lv_aload_n hx hb d_Ed_fillMultiples_23 rfl (lv_at hl 2 rfl) ?_
    refine lv_iload_n hx hb d_Ed_fillMultiples_24 rfl (lv_at hl 0 rfl) ?_
    refine vx_aald hx hb hG hS h0 (by omega) d_Ed_fillMultiples_25 ?_
    refine W.eq (g2 := F0 m 26 ls (.ref (w0 i2 99) :: [])) rfl ?_
    refine lv_aload_n hx hb d_Ed_fillMultiples_26 rfl (lv_at hl 3 rfl) ?_
    refine vx_gv (sx_runV (As := [.ref a1]) (rest := []) EE (hS.1.ob (rb_.el (j := i2) h0 (by omega)).2.1 (rb_.el (j := i2) h0 (by omega)).1.1) rfl rfl (v_Ad_set (X := X5) ((rb_.el (j := i2) h0 (by omega)).1.kept hS.1 (rb_.el (j := i2) h0 (by omega)).2.1) (rb_.el (j := i2) h0 (by omega)).2.1 (rb_.el (j := i2) h0 (by omega)).2.2 (h1.kept hS.1 n1) n1 (hz.kept hS.1) hV) w_Ed_83 rfl ⟨rfl, rfl⟩ ⟨Nat.le_of_ble_eq_true rfl, Nat.le_of_ble_eq_true rfl⟩ ⟨Nat.zero_le _, Nat.zero_le _⟩ hl.1 rfl (Nat.le_of_ble_eq_true rfl) d_Ed_fillMultiples_27) hS (fun H locs X6 eX6 hS hV => ?_)
    refine lv_iinc (v := nI (i2 + 1)) (lv' := [(3, .int (nI (i2 + 1))), (0, .ref o), (1, .ref a0), (2, .ref a1)]) hx hb d_Ed_fillMultiples_30 hl (k := 0) rfl (sx_inc _ _) (by decide) rfl (fun ls hl => ?_)
    refine lv_goto (tgt := 9) hx hb d_Ed_fillMultiples_33 (by decide) ?_
    exact ihi2 X6 _ _ _ (by subst eX5 eX6; exact rfl) ⟨(by omega), hS, hV, lv_sub hl [0, 1, 2, 3] rfl⟩
  · intro H locs ls hP
    obtain ⟨hxR4_0, hS, hV, hl⟩ := hP
    refine lv_iload_n hx hb d_Ed_fillMultiples_9 rfl (lv_at hl 0 rfl) ?_
    refine lv_bipush (v := nI 16) hx hb d_Ed_fillMultiples_10 (by decide +kernel) ?_
    refine lv_icmp_ge (tgt := 36) hx hb d_Ed_fillMultiples_12 (by decide) (fun _ => ?_) (fun q => absurd (nI_le (by omega) (by omega)) q)
    exact hret _ _ _ _ _ (by subst eX1 eR4; exact rfl) hS hV d_Ed_fillMultiples_36
def LF_Ed_digitAt (X : vM) (a0 : Nat) (v1 : Nat) : Nat := ((((X.2 a0 (v1 / 2)) >>> ((nI (4 * (v1 % 2))) &&& 31)) &&& (nI 15))).toNatClampNeg
abbrev rm_Ed_digitAt : Room := { frames := 0, cells := 0, slots := 0, locals := 0 }
set_option maxHeartbeats 4000000 in
set_option maxRecDepth 100000 in
theorem v_Ed_digitAt {l : Launch} {D : va_G} {g : ClassId → FieldType → Prop} {E : Nat → Prop} {H0 : Heap} {X : vM} {a0 : Nat} {v1 : Nat} (f0 : sx_A g .byte H0 a0 32) (h1 : v1 < 64) (hV : mm g H0 = X) : Met l y_Ed_digitAt (.code y_Ed_digitAt b_Ed_digitAt 2 (some .int) :: G_) rm_Ed_digitAt (sx_Pc [.ref a0, .int (nI v1)] H0 D g) (vx_Qi g E H0 X (nI (LF_Ed_digitAt X a0 v1))) 0 0 E := by
  refine vx_mi (own := R_Ed) (by decide) rfl rfl rfl (Nat.le_of_ble_eq_true rfl) ?_
  intro p e s m args below meth c Q ls EE hl hret
  obtain ⟨hx, hb, hml, hown, hts, hG, hK⟩ := id EE
  have hS : sx_S g E E H0 H0 [] := sx_S.rf
  have hl : lv_has ls 2 [(0, .ref a0), (1, .int (nI (v1)))] := hl
  refine lv_aload_n hx hb d_Ed_digitAt_0 rfl (lv_at hl 0 rfl) ?_
  refine lv_iload_n hx hb d_Ed_digitAt_1 rfl (lv_at hl 1 rfl) ?_
  refine lv_iconst (v := nI 1) hx hb d_Ed_digitAt_2 (by decide +kernel) ?_
  refine lv_ishr hx hb d_Ed_digitAt_3 ?_
  refine sx_ti (y := nI (v1 / 2)) (pk_shrN (by omega) _ 1 (by decide +kernel)) ?_
  refine vx_bald hx hb hG hS hV f0 (by omega) (by decide) d_Ed_digitAt_4 ?_
  refine lv_iconst (v := nI 4) hx hb d_Ed_digitAt_5 (by decide +kernel) ?_
  refine lv_iload_n hx hb d_Ed_digitAt_6 rfl (lv_at hl 1 rfl) ?_
  refine lv_iconst (v := nI 1) hx hb d_Ed_digitAt_7 (by decide +kernel) ?_
  refine lv_iand hx hb d_Ed_digitAt_8 ?_
  refine sx_ti (y := nI (v1 % 2)) (pk_andN (by omega) 1 (by decide +kernel)) ?_
  refine lv_imul hx hb d_Ed_digitAt_9 ?_
  refine sx_ti (y := nI (4 * (v1 % 2))) (pk_mul _ _) ?_
  refine lv_ishr hx hb d_Ed_digitAt_10 ?_
  refine lv_bipush (v := nI 15) hx hb d_Ed_digitAt_11 (by decide +kernel) ?_
  refine lv_iand hx hb d_Ed_digitAt_13 ?_
  refine sx_ti (y := nI ((((X.2 a0 (v1 / 2)) >>> ((nI (4 * (v1 % 2))) &&& 31)) &&& (nI 15))).toNatClampNeg) (vx_15 _) ?_
  exact hret _ _ _ _ _ _ rfl (congrArg nI (show _ = ((((X.2 a0 (v1 / 2)) >>> ((nI (4 * (v1 % 2))) &&& 31)) &&& (nI 15))).toNatClampNeg from rfl)) hS hV d_Ed_digitAt_14
