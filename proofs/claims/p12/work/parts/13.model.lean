def LL_M_copy_2 (a0 : Nat) (a1 : Nat) : Nat → vM → vM := fun i_0 s_1 => (let X_2 : vM := stL s_1 a0 i_0 (s_1.1 a1 i_0); X_2)
def LF_M_copy (X : vM) (a0 : Nat) (a1 : Nat) : vM := (let R3 : vM := lpU 1 (LL_M_copy_2 a0 a1) 16 0 X; R3)
abbrev rm_M_copy : Room := { frames := 0, cells := 0, slots := 0, locals := 0 }
set_option maxHeartbeats 4000000 in
set_option maxRecDepth 100000 in
theorem v_M_copy {l : Launch} {D : va_G} {g : ClassId → FieldType → Prop} {E : Nat → Prop} {H0 : Heap} {X : vM} {a0 : Nat} {a1 : Nat} (f0 : sx_A g .long H0 a0 16) (o0 : E a0) (f1 : sx_A g .long H0 a1 16) (hV : mm g H0 = X) : Met l y_M_copy (.code y_M_copy b_M_copy 3 none :: G_) rm_M_copy (sx_Pc [.ref a0, .ref a1] H0 D g) (vx_Qv g E H0 (LF_M_copy X a0 a1)) 0 0 E := by
  refine vx_mv (own := R_M) (by decide) rfl rfl rfl (Nat.le_of_ble_eq_true rfl) ?_
  intro p e s m args below meth c Q ls EE hl hret
  obtain ⟨hx, hb, hml, hown, hts, hG, hK⟩ := id EE
  have hS : sx_S g E E H0 H0 [] := sx_S.rf
  have hl : lv_has ls 3 [(0, .ref a0), (1, .ref a1)] := hl
  refine lv_iconst (v := nI 0) hx hb d_M_copy_0 (by decide +kernel) ?_
  refine lv_istore_n (lv' := [(2, .int (nI (0))), (0, .ref a0), (1, .ref a1)]) hx hb d_M_copy_1 rfl hl (by decide) rfl (fun ls hl => ?_)
  obtain ⟨R3, eR3⟩ : ∃ t : vM, lpU 1 (LL_M_copy_2 a0 a1) 16 0 X = t := ⟨_, rfl⟩
  refine lpU_go (σ := vM) (P := fun i1 s2 H locs ls => sx_S g E E H0 H locs ∧ mm g H = s2 ∧ lv_has ls 3 [(2, .int (nI (i1))), (0, .ref a0), (1, .ref a1)]) (Wd := fun H locs ls => W p l e rm_M_copy s m args below meth c H locs 0 0 Q (F0 m 2 ls [])) (N := 16) (d := 1) (by decide) ?_ ?_ 16 0 _ (by omega) eR3 _ _ _ ⟨hS, hV, lv_sub hl [0, 1, 2] rfl⟩
  · intro i1 s2 H locs ls hii1 hP ihi1
    obtain ⟨hS, hV, hl⟩ := hP
    refine lv_iload_n hx hb d_M_copy_2 rfl (lv_at hl 0 rfl) ?_
    refine lv_bipush (v := nI 16) hx hb d_M_copy_3 (by decide +kernel) ?_
    refine lv_icmp_ge (tgt := 20) hx hb d_M_copy_5 (by decide) (fun q => absurd q (nI_ge (by omega) (by omega))) (fun _ => ?_)
    refine lv_aload_n hx hb d_M_copy_8 rfl (lv_at hl 1 rfl) ?_
    refine lv_iload_n hx hb d_M_copy_9 rfl (lv_at hl 0 rfl) ?_
    refine lv_aload_n hx hb d_M_copy_10 rfl (lv_at hl 2 rfl) ?_
    refine lv_iload_n hx hb d_M_copy_11 rfl (lv_at hl 0 rfl) ?_
    refine vx_lald hx hb hG hS hV f1 (by omega) (by decide) d_M_copy_12 ?_
    refine vx_last hx hb hG hS hV f0 o0 (by omega) (by decide) d_M_copy_13 (fun H locs X4 eX4 hS hV => ?_)
    refine lv_iinc (v := nI (i1 + 1)) (lv' := [(2, .int (nI (i1 + 1))), (0, .ref a0), (1, .ref a1)]) hx hb d_M_copy_14 hl (k := 0) rfl (sx_inc _ _) (by decide) rfl (fun ls hl => ?_)
    refine lv_goto (tgt := 2) hx hb d_M_copy_17 (by decide) ?_
    exact ihi1 X4 _ _ _ (by subst eX4; exact rfl) ⟨hS, hV, lv_sub hl [0, 1, 2] rfl⟩
  · intro H locs ls hP
    obtain ⟨hS, hV, hl⟩ := hP
    refine lv_iload_n hx hb d_M_copy_2 rfl (lv_at hl 0 rfl) ?_
    refine lv_bipush (v := nI 16) hx hb d_M_copy_3 (by decide +kernel) ?_
    refine lv_icmp_ge (tgt := 20) hx hb d_M_copy_5 (by decide) (fun _ => ?_) (fun q => absurd (nI_le (by omega) (by omega)) q)
    exact hret _ _ _ _ _ (by subst eR3; exact rfl) hS hV d_M_copy_20
def LL_M_set_2 (v1 : Int32) (a0 : Nat) : Nat → vM → vM := fun i_0 s_1 => (let J_2 : Int64 := if i_0 = 0 then v1.toInt64 else (0 : Int64); (let X_3 : vM := stL s_1 a0 i_0 J_2; X_3))
def LF_M_set (X : vM) (a0 : Nat) (v1 : Int32) : vM := (let R3 : vM := lpU 1 (LL_M_set_2 v1 a0) 16 0 X; R3)
abbrev rm_M_set : Room := { frames := 0, cells := 0, slots := 0, locals := 0 }
set_option maxHeartbeats 4000000 in
set_option maxRecDepth 100000 in
theorem v_M_set {l : Launch} {D : va_G} {g : ClassId → FieldType → Prop} {E : Nat → Prop} {H0 : Heap} {X : vM} {a0 : Nat} {v1 : Int32} (f0 : sx_A g .long H0 a0 16) (o0 : E a0) (hV : mm g H0 = X) : Met l y_M_set (.code y_M_set b_M_set 3 none :: G_) rm_M_set (sx_Pc [.ref a0, .int v1] H0 D g) (vx_Qv g E H0 (LF_M_set X a0 v1)) 0 0 E := by
  refine vx_mv (own := R_M) (by decide) rfl rfl rfl (Nat.le_of_ble_eq_true rfl) ?_
  intro p e s m args below meth c Q ls EE hl hret
  obtain ⟨hx, hb, hml, hown, hts, hG, hK⟩ := id EE
  have hS : sx_S g E E H0 H0 [] := sx_S.rf
  have hl : lv_has ls 3 [(0, .ref a0), (1, .int v1)] := hl
  refine lv_iconst (v := nI 0) hx hb d_M_set_0 (by decide +kernel) ?_
  refine lv_istore_n (lv' := [(2, .int (nI (0))), (0, .ref a0), (1, .int v1)]) hx hb d_M_set_1 rfl hl (by decide) rfl (fun ls hl => ?_)
  obtain ⟨R3, eR3⟩ : ∃ t : vM, lpU 1 (LL_M_set_2 v1 a0) 16 0 X = t := ⟨_, rfl⟩
  refine lpU_go (σ := vM) (P := fun i1 s2 H locs ls => sx_S g E E H0 H locs ∧ mm g H = s2 ∧ lv_has ls 3 [(2, .int (nI (i1))), (0, .ref a0), (1, .int v1)]) (Wd := fun H locs ls => W p l e rm_M_set s m args below meth c H locs 0 0 Q (F0 m 2 ls [])) (N := 16) (d := 1) (by decide) ?_ ?_ 16 0 _ (by omega) eR3 _ _ _ ⟨hS, hV, lv_sub hl [0, 1, 2] rfl⟩
  · intro i1 s2 H locs ls hii1 hP ihi1
    obtain ⟨hS, hV, hl⟩ := hP
    refine lv_iload_n hx hb d_M_set_2 rfl (lv_at hl 0 rfl) ?_
    refine lv_bipush (v := nI 16) hx hb d_M_set_3 (by decide +kernel) ?_
    refine lv_icmp_ge (tgt := 27) hx hb d_M_set_5 (by decide) (fun q => absurd q (nI_ge (by omega) (by omega))) (fun _ => ?_)
    refine lv_aload_n hx hb d_M_set_8 rfl (lv_at hl 1 rfl) ?_
    refine lv_iload_n hx hb d_M_set_9 rfl (lv_at hl 0 rfl) ?_
    refine lv_iload_n hx hb d_M_set_10 rfl (lv_at hl 0 rfl) ?_
    have jn20_5 : ∀ (J5 : Int64) (H : Heap) (locs : List Loc) (ls : Array Slot), (if i1 = 0 then v1.toInt64 else (0 : Int64)) = J5 → sx_S g E E H0 H locs → mm g H = s2 → lv_has ls 3 [(2, .int (nI (i1))), (0, .ref a0), (1, .int v1)] → W p l e rm_M_set s m args below meth c H locs 0 0 Q (F0 m 20 ls [.long J5, .int (nI (i1)), .ref a0]) := by
      intro J5 H locs ls eJ5 hS hV hl
      refine vx_last hx hb hG hS hV f0 o0 (by omega) (by decide) d_M_set_20 (fun H locs X7 eX7 hS hV => ?_)
      refine lv_iinc (v := nI (i1 + 1)) (lv' := [(2, .int (nI (i1 + 1))), (0, .ref a0), (1, .int v1)]) hx hb d_M_set_21 hl (k := 0) rfl (sx_inc _ _) (by decide) rfl (fun ls hl => ?_)
      refine lv_goto (tgt := 2) hx hb d_M_set_24 (by decide) ?_
      exact ihi1 X7 _ _ _ (by subst eJ5 eX7; exact rfl) ⟨hS, hV, lv_sub hl [0, 1, 2] rfl⟩
    refine lv_if_ne (tgt := 19) hx hb d_M_set_11 (by decide) (fun q11_3 => ?_) (fun q11_3 => ?_)
    · skip
      have q11_3 : ¬ (i1 = 0) := fun z => q11_3 ((nI_eq (a := i1) (b := 0) (by omega) (by omega)).mpr z)
      refine lv_lconst (v := 0) hx hb d_M_set_19 (by decide +kernel) ?_
      exact jn20_5 (0 : Int64) _ _ _ (vx_n q11_3 rfl) hS hV (lv_sub hl [0, 1, 2] rfl)
    · skip
      have q11_3 : i1 = 0 := (nI_eq (a := i1) (b := 0) (by omega) (by omega)).mp q11_3
      refine lv_iload_n hx hb d_M_set_14 rfl (lv_at hl 2 rfl) ?_
      refine lv_i2l hx hb d_M_set_15 rfl ?_
      refine lv_goto (tgt := 20) hx hb d_M_set_16 (by decide) ?_
      exact jn20_5 v1.toInt64 _ _ _ (vx_p q11_3 rfl) hS hV (lv_sub hl [0, 1, 2] rfl)
  · intro H locs ls hP
    obtain ⟨hS, hV, hl⟩ := hP
    refine lv_iload_n hx hb d_M_set_2 rfl (lv_at hl 0 rfl) ?_
    refine lv_bipush (v := nI 16) hx hb d_M_set_3 (by decide +kernel) ?_
    refine lv_icmp_ge (tgt := 27) hx hb d_M_set_5 (by decide) (fun _ => ?_) (fun q => absurd (nI_le (by omega) (by omega)) q)
    exact hret _ _ _ _ _ (by subst eR3; exact rfl) hS hV d_M_set_27
def LL_M_zero_2 (X : vM) (a0 : Nat) : Nat → Unit → Bool ⊕ Unit := fun i_0 s_1 => if (X.1 a0 i_0) = (0 : Int64) then (Sum.inr ()) else (Sum.inl (false))
def LF_M_zero (X : vM) (a0 : Nat) : Bool := Sum.elim (fun r => r) (fun (s5 : Unit) => true) (lpE 1 (LL_M_zero_2 X a0) 16 0 ())
abbrev rm_M_zero : Room := { frames := 0, cells := 0, slots := 0, locals := 0 }
set_option maxHeartbeats 4000000 in
set_option maxRecDepth 100000 in
theorem v_M_zero {l : Launch} {D : va_G} {g : ClassId → FieldType → Prop} {E : Nat → Prop} {H0 : Heap} {X : vM} {a0 : Nat} (f0 : sx_A g .long H0 a0 16) (hV : mm g H0 = X) : Met l y_M_zero (.code y_M_zero b_M_zero 2 (some .boolean) :: G_) rm_M_zero (sx_Pc [.ref a0] H0 D g) (vx_Qi g E H0 X (nI ((LF_M_zero X a0)).toNat)) 0 0 E := by
  refine vx_mz (own := R_M) (by decide) rfl rfl rfl (Nat.le_of_ble_eq_true rfl) ?_
  intro p e s m args below meth c Q ls EE hl hret
  obtain ⟨hx, hb, hml, hown, hts, hG, hK⟩ := id EE
  have hS : sx_S g E E H0 H0 [] := sx_S.rf
  have hl : lv_has ls 2 [(0, .ref a0)] := hl
  refine lv_iconst (v := nI 0) hx hb d_M_zero_0 (by decide +kernel) ?_
  refine lv_istore_n (lv' := [(1, .int (nI (0))), (0, .ref a0)]) hx hb d_M_zero_1 rfl hl (by decide) rfl (fun ls hl => ?_)
  obtain ⟨R3, eR3⟩ : ∃ t : (Bool ⊕ Unit), lpE 1 (LL_M_zero_2 X a0) 16 0 () = t := ⟨_, rfl⟩
  refine lpE_go (σ := Unit) (P := fun i1 s2 H locs ls => sx_S g E E H0 H locs ∧ mm g H = X ∧ lv_has ls 2 [(1, .int (nI (i1))), (0, .ref a0)]) (Wd := fun H locs ls => W p l e rm_M_zero s m args below meth c H locs 0 0 Q (F0 m 2 ls [])) (N := 16) (d := 1) (by decide) ?_ ?_ 16 0 _ (by omega) eR3 _ _ _ ⟨hS, hV, lv_sub hl [0, 1] rfl⟩
  · intro i1 s2 H locs ls hii1 hP ihi1 hxR3
    obtain ⟨hS, hV, hl⟩ := hP
    refine lv_iload_n hx hb d_M_zero_2 rfl (lv_at hl 0 rfl) ?_
    refine lv_bipush (v := nI 16) hx hb d_M_zero_3 (by decide +kernel) ?_
    refine lv_icmp_ge (tgt := 24) hx hb d_M_zero_5 (by decide) (fun q => absurd q (nI_ge (by omega) (by omega))) (fun _ => ?_)
    refine lv_aload_n hx hb d_M_zero_8 rfl (lv_at hl 1 rfl) ?_
    refine lv_iload_n hx hb d_M_zero_9 rfl (lv_at hl 0 rfl) ?_
    refine vx_lald hx hb hG hS hV f0 (by omega) (by decide) d_M_zero_10 ?_
    refine lv_lconst (v := 0) hx hb d_M_zero_11 (by decide +kernel) ?_
    refine W.lcmp hx hb d_M_zero_12 ?_
    refine lv_if_eq (tgt := 18) hx hb d_M_zero_13 (by decide) (fun q13_3 => ?_) (fun q13_3 => ?_)
    · skip
      have q13_3 := (lg_cmp_eq _ _).mp q13_3
      refine lv_iinc (v := nI (i1 + 1)) (lv' := [(1, .int (nI (i1 + 1))), (0, .ref a0)]) hx hb d_M_zero_18 hl (k := 0) rfl (sx_inc _ _) (by decide) rfl (fun ls hl => ?_)
      refine lv_goto (tgt := 2) hx hb d_M_zero_21 (by decide) ?_
      exact ihi1 () _ _ _ (vx_p q13_3 rfl) ⟨hS, hV, lv_sub hl [0, 1] rfl⟩
    · skip
      have q13_3 : ¬ ((X.1 a0 i1) = (0 : Int64)) := fun z => q13_3 ((lg_cmp_eq _ _).mpr z)
      refine lv_iconst (v := nI 0) hx hb d_M_zero_16 (by decide +kernel) ?_
      have hrR3 := hxR3 (false) (vx_n q13_3 rfl)
      exact hret _ _ _ _ _ false _ rfl (by subst eR3; exact (vx_l hrR3 rfl)) rfl hS hV d_M_zero_17
  · intro s5 H locs ls erR3 hP
    obtain ⟨hS, hV, hl⟩ := hP
    refine lv_iload_n hx hb d_M_zero_2 rfl (lv_at hl 0 rfl) ?_
    refine lv_bipush (v := nI 16) hx hb d_M_zero_3 (by decide +kernel) ?_
    refine lv_icmp_ge (tgt := 24) hx hb d_M_zero_5 (by decide) (fun _ => ?_) (fun q => absurd (nI_le (by omega) (by omega)) q)
    refine lv_iconst (v := nI 1) hx hb d_M_zero_24 (by decide +kernel) ?_
    exact hret _ _ _ _ _ true _ rfl (by subst eR3; exact (vx_r erR3 rfl)) rfl hS hV d_M_zero_25
def LL_M_below_3 (X : vM) (a0 : Nat) (a1 : Nat) : Nat → Unit → Bool ⊕ Unit := fun i_0 s_1 => if (X.1 a0 i_0) = (X.1 a1 i_0) then (Sum.inr ()) else (let J_2 : Bool := if (X.1 a1 i_0) ≤ (X.1 a0 i_0) then false else true; Sum.inl (J_2))
def LF_M_below (X : vM) (a0 : Nat) (a1 : Nat) : Bool := Sum.elim (fun r => r) (fun (s8 : Unit) => false) (lpF (LL_M_below_3 X a0 a1) 16 ())
abbrev rm_M_below : Room := { frames := 0, cells := 0, slots := 0, locals := 0 }
set_option maxHeartbeats 4000000 in
set_option maxRecDepth 100000 in
theorem v_M_below {l : Launch} {D : va_G} {g : ClassId → FieldType → Prop} {E : Nat → Prop} {H0 : Heap} {X : vM} {a0 : Nat} {a1 : Nat} (f0 : sx_A g .long H0 a0 16) (f1 : sx_A g .long H0 a1 16) (hV : mm g H0 = X) : Met l y_M_below (.code y_M_below b_M_below 3 (some .boolean) :: G_) rm_M_below (sx_Pc [.ref a0, .ref a1] H0 D g) (vx_Qi g E H0 X (nI ((LF_M_below X a0 a1)).toNat)) 0 0 E := by
  refine vx_mz (own := R_M) (by decide) rfl rfl rfl (Nat.le_of_ble_eq_true rfl) ?_
  intro p e s m args below meth c Q ls EE hl hret
  obtain ⟨hx, hb, hml, hown, hts, hG, hK⟩ := id EE
  have hS : sx_S g E E H0 H0 [] := sx_S.rf
  have hl : lv_has ls 3 [(0, .ref a0), (1, .ref a1)] := hl
  refine lv_bipush (v := nI 15) hx hb d_M_below_0 (by decide +kernel) ?_
  refine lv_istore_n (lv' := [(2, .int (nI (15))), (0, .ref a0), (1, .ref a1)]) hx hb d_M_below_2 rfl hl (by decide) rfl (fun ls hl => ?_)
  obtain ⟨R3, eR3⟩ : ∃ t : (Bool ⊕ Unit), lpF (LL_M_below_3 X a0 a1) 16 () = t := ⟨_, rfl⟩
  rw [show (nI (15)) = nI 16 - 1 from (nI_pred _).symm] at hl
  refine lpF_go (σ := Unit) (P := fun i1 s2 H locs ls => sx_S g E E H0 H locs ∧ mm g H = X ∧ lv_has ls 3 [(2, .int (nI i1 - 1)), (0, .ref a0), (1, .ref a1)]) (Wd := fun H locs ls => W p l e rm_M_below s m args below meth c H locs 0 0 Q (F0 m 3 ls [])) (N := 16) ?_ ?_ 16 _ (by omega) eR3 _ _ _ ⟨hS, hV, lv_sub hl [0, 1, 2] rfl⟩
  · intro i1 s2 H locs ls hii1 hP ihi1 hxR3
    obtain ⟨hS, hV, hl⟩ := hP
    rw [nI_pred] at hl
    refine lv_iload_n hx hb d_M_below_3 rfl (lv_at hl 0 rfl) ?_
    refine lv_if_lt (tgt := 39) hx hb d_M_below_4 (by decide) (fun q => absurd q (nI_pos (by omega))) (fun _ => ?_)
    refine lv_aload_n hx hb d_M_below_7 rfl (lv_at hl 1 rfl) ?_
    refine lv_iload_n hx hb d_M_below_8 rfl (lv_at hl 0 rfl) ?_
    refine vx_lald hx hb hG hS hV f0 (by omega) (by decide) d_M_below_9 ?_
    refine lv_aload_n hx hb d_M_below_10 rfl (lv_at hl 2 rfl) ?_
    refine lv_iload_n hx hb d_M_below_11 rfl (lv_at hl 0 rfl) ?_
    refine vx_lald hx hb hG hS hV f1 (by omega) (by decide) d_M_below_12 ?_
    refine W.lcmp hx hb d_M_below_13 ?_
    refine lv_if_eq (tgt := 33) hx hb d_M_below_14 (by decide) (fun q14_3 => ?_) (fun q14_3 => ?_)
    · skip
      have q14_3 := (lg_cmp_eq _ _).mp q14_3
      refine lv_iinc (v := nI i1 - 1) (lv' := [(2, .int (nI i1 - 1)), (0, .ref a0), (1, .ref a1)]) hx hb d_M_below_33 hl (k := 0) rfl (sx_dn _) (by decide) rfl (fun ls hl => ?_)
      refine lv_goto (tgt := 3) hx hb d_M_below_36 (by decide) ?_
      exact ihi1 () _ _ _ (vx_p q14_3 rfl) ⟨hS, hV, lv_sub hl [0, 1, 2] rfl⟩
    · skip
      have q14_3 : ¬ ((X.1 a0 i1) = (X.1 a1 i1)) := fun z => q14_3 ((lg_cmp_eq _ _).mpr z)
      refine lv_aload_n hx hb d_M_below_17 rfl (lv_at hl 1 rfl) ?_
      refine lv_iload_n hx hb d_M_below_18 rfl (lv_at hl 0 rfl) ?_
      refine vx_lald hx hb hG hS hV f0 (by omega) (by decide) d_M_below_19 ?_
      refine lv_aload_n hx hb d_M_below_20 rfl (lv_at hl 2 rfl) ?_
      refine lv_iload_n hx hb d_M_below_21 rfl (lv_at hl 0 rfl) ?_
      refine vx_lald hx hb hG hS hV f1 (by omega) (by decide) d_M_below_22 ?_
      refine W.lcmp hx hb d_M_below_23 ?_
      have jn32_6 : ∀ (J6 : Bool) (H : Heap) (locs : List Loc) (ls : Array Slot), (if (X.1 a1 i1) ≤ (X.1 a0 i1) then false else true) = J6 → sx_S g E E H0 H locs → mm g H = X → lv_has ls 3 [(2, .int (nI (i1))), (0, .ref a0), (1, .ref a1)] → W p l e rm_M_below s m args below meth c H locs 0 0 Q (F0 m 32 ls [.int (nI ((J6).toNat))]) := by
        intro J6 H locs ls eJ6 hS hV hl
        have hrR3 := hxR3 (J6) (by subst eJ6; exact (vx_n q14_3 rfl))
        exact hret _ _ _ _ _ J6 _ rfl (by subst eR3; exact (vx_l hrR3 rfl)) rfl hS hV d_M_below_32
      refine lv_if_ge (tgt := 31) hx hb d_M_below_24 (by decide) (fun q24_4 => ?_) (fun q24_4 => ?_)
      · skip
        have q24_4 := (lg_cmp_ge _ _).mp q24_4
        refine lv_iconst (v := nI 0) hx hb d_M_below_31 (by decide +kernel) ?_
        exact jn32_6 false _ _ _ (vx_p q24_4 rfl) hS hV (lv_sub hl [0, 1, 2] rfl)
      · skip
        have q24_4 : ¬ ((X.1 a1 i1) ≤ (X.1 a0 i1)) := fun z => q24_4 ((lg_cmp_ge _ _).mpr z)
        refine lv_iconst (v := nI 1) hx hb d_M_below_27 (by decide +kernel) ?_
        refine lv_goto (tgt := 32) hx hb d_M_below_28 (by decide) ?_
        exact jn32_6 true _ _ _ (vx_n q24_4 rfl) hS hV (lv_sub hl [0, 1, 2] rfl)
  · intro s8 H locs ls erR3 hP
    obtain ⟨hS, hV, hl⟩ := hP
    refine lv_iload_n hx hb d_M_below_3 rfl (lv_at hl 0 rfl) ?_
    refine lv_if_lt (tgt := 39) hx hb d_M_below_4 (by decide) (fun _ => ?_) (fun q => absurd (by decide +kernel) q)
    refine lv_iconst (v := nI 0) hx hb d_M_below_39 (by decide +kernel) ?_
    exact hret _ _ _ _ _ false _ rfl (by subst eR3; exact (vx_r erR3 rfl)) rfl hS hV d_M_below_40
def LL_M_alike_2 (X : vM) (a0 : Nat) (a1 : Nat) : Nat → Unit → Bool ⊕ Unit := fun i_0 s_1 => if (X.1 a0 i_0) = (X.1 a1 i_0) then (Sum.inr ()) else (Sum.inl (false))
def LF_M_alike (X : vM) (a0 : Nat) (a1 : Nat) : Bool := Sum.elim (fun r => r) (fun (s5 : Unit) => true) (lpE 1 (LL_M_alike_2 X a0 a1) 16 0 ())
abbrev rm_M_alike : Room := { frames := 0, cells := 0, slots := 0, locals := 0 }
set_option maxHeartbeats 4000000 in
set_option maxRecDepth 100000 in
theorem v_M_alike {l : Launch} {D : va_G} {g : ClassId → FieldType → Prop} {E : Nat → Prop} {H0 : Heap} {X : vM} {a0 : Nat} {a1 : Nat} (f0 : sx_A g .long H0 a0 16) (f1 : sx_A g .long H0 a1 16) (hV : mm g H0 = X) : Met l y_M_alike (.code y_M_alike b_M_alike 3 (some .boolean) :: G_) rm_M_alike (sx_Pc [.ref a0, .ref a1] H0 D g) (vx_Qi g E H0 X (nI ((LF_M_alike X a0 a1)).toNat)) 0 0 E := by
  refine vx_mz (own := R_M) (by decide) rfl rfl rfl (Nat.le_of_ble_eq_true rfl) ?_
  intro p e s m args below meth c Q ls EE hl hret
  obtain ⟨hx, hb, hml, hown, hts, hG, hK⟩ := id EE
  have hS : sx_S g E E H0 H0 [] := sx_S.rf
  have hl : lv_has ls 3 [(0, .ref a0), (1, .ref a1)] := hl
  refine lv_iconst (v := nI 0) hx hb d_M_alike_0 (by decide +kernel) ?_
  refine lv_istore_n (lv' := [(2, .int (nI (0))), (0, .ref a0), (1, .ref a1)]) hx hb d_M_alike_1 rfl hl (by decide) rfl (fun ls hl => ?_)
  obtain ⟨R3, eR3⟩ : ∃ t : (Bool ⊕ Unit), lpE 1 (LL_M_alike_2 X a0 a1) 16 0 () = t := ⟨_, rfl⟩
  refine lpE_go (σ := Unit) (P := fun i1 s2 H locs ls => sx_S g E E H0 H locs ∧ mm g H = X ∧ lv_has ls 3 [(2, .int (nI (i1))), (0, .ref a0), (1, .ref a1)]) (Wd := fun H locs ls => W p l e rm_M_alike s m args below meth c H locs 0 0 Q (F0 m 2 ls [])) (N := 16) (d := 1) (by decide) ?_ ?_ 16 0 _ (by omega) eR3 _ _ _ ⟨hS, hV, lv_sub hl [0, 1, 2] rfl⟩
  · intro i1 s2 H locs ls hii1 hP ihi1 hxR3
    obtain ⟨hS, hV, hl⟩ := hP
    refine lv_iload_n hx hb d_M_alike_2 rfl (lv_at hl 0 rfl) ?_
    refine lv_bipush (v := nI 16) hx hb d_M_alike_3 (by decide +kernel) ?_
    refine lv_icmp_ge (tgt := 26) hx hb d_M_alike_5 (by decide) (fun q => absurd q (nI_ge (by omega) (by omega))) (fun _ => ?_)
    refine lv_aload_n hx hb d_M_alike_8 rfl (lv_at hl 1 rfl) ?_
    refine lv_iload_n hx hb d_M_alike_9 rfl (lv_at hl 0 rfl) ?_
    refine vx_lald hx hb hG hS hV f0 (by omega) (by decide) d_M_alike_10 ?_
    refine lv_aload_n hx hb d_M_alike_11 rfl (lv_at hl 2 rfl) ?_
    refine lv_iload_n hx hb d_M_alike_12 rfl (lv_at hl 0 rfl) ?_
    refine vx_lald hx hb hG hS hV f1 (by omega) (by decide) d_M_alike_13 ?_
    refine W.lcmp hx hb d_M_alike_14 ?_
    refine lv_if_eq (tgt := 20) hx hb d_M_alike_15 (by decide) (fun q15_3 => ?_) (fun q15_3 => ?_)
    · skip
      have q15_3 := (lg_cmp_eq _ _).mp q15_3
      refine lv_iinc (v := nI (i1 + 1)) (lv' := [(2, .int (nI (i1 + 1))), (0, .ref a0), (1, .ref a1)]) hx hb d_M_alike_20 hl (k := 0) rfl (sx_inc _ _) (by decide) rfl (fun ls hl => ?_)
      refine lv_goto (tgt := 2) hx hb d_M_alike_23 (by decide) ?_
      exact ihi1 () _ _ _ (vx_p q15_3 rfl) ⟨hS, hV, lv_sub hl [0, 1, 2] rfl⟩
    · skip
      have q15_3 : ¬ ((X.1 a0 i1) = (X.1 a1 i1)) := fun z => q15_3 ((lg_cmp_eq _ _).mpr z)
      refine lv_iconst (v := nI 0) hx hb d_M_alike_18 (by decide +kernel) ?_
      have hrR3 := hxR3 (false) (vx_n q15_3 rfl)
      exact hret _ _ _ _ _ false _ rfl (by subst eR3; exact (vx_l hrR3 rfl)) rfl hS hV d_M_alike_19
  · intro s5 H locs ls erR3 hP
    obtain ⟨hS, hV, hl⟩ := hP
    refine lv_iload_n hx hb d_M_alike_2 rfl (lv_at hl 0 rfl) ?_
    refine lv_bipush (v := nI 16) hx hb d_M_alike_3 (by decide +kernel) ?_
    refine lv_icmp_ge (tgt := 26) hx hb d_M_alike_5 (by decide) (fun _ => ?_) (fun q => absurd (nI_le (by omega) (by omega)) q)
    refine lv_iconst (v := nI 1) hx hb d_M_alike_26 (by decide +kernel) ?_
    exact hret _ _ _ _ _ true _ rfl (by subst eR3; exact (vx_r erR3 rfl)) rfl hS hV d_M_alike_27
def LL_M_less_5 (a1 : Nat) (a2 : Nat) (a0 : Nat) : Nat → (vM × Int64) → (vM × Int64) := fun i_0 s_1 => (let z_2 : Int64 := (((s_1.1.1 a1 i_0) - (s_1.1.1 a2 i_0)) - s_1.2); let J_3 : Int64 := if (0 : Int64) ≤ z_2 then (0 : Int64) else (1 : Int64); (let X_4 : vM := stL s_1.1 a0 i_0 (z_2 &&& (65535 : Int64)); (X_4, J_3)))
def LF_M_less (X : vM) (a0 : Nat) (a1 : Nat) (a2 : Nat) : vM := (let R3 : (vM × Int64) := lpU 1 (LL_M_less_5 a1 a2 a0) 16 0 (X, (0 : Int64)); R3.1)
abbrev rm_M_less : Room := { frames := 0, cells := 0, slots := 0, locals := 0 }
set_option maxHeartbeats 4000000 in
set_option maxRecDepth 100000 in
theorem v_M_less {l : Launch} {D : va_G} {g : ClassId → FieldType → Prop} {E : Nat → Prop} {H0 : Heap} {X : vM} {a0 : Nat} {a1 : Nat} {a2 : Nat} (f0 : sx_A g .long H0 a0 16) (o0 : E a0) (f1 : sx_A g .long H0 a1 16) (f2 : sx_A g .long H0 a2 16) (hV : mm g H0 = X) : Met l y_M_less (.code y_M_less b_M_less 8 none :: G_) rm_M_less (sx_Pc [.ref a0, .ref a1, .ref a2] H0 D g) (vx_Qv g E H0 (LF_M_less X a0 a1 a2)) 0 0 E := by
  refine vx_mv (own := R_M) (by decide) rfl rfl rfl (Nat.le_of_ble_eq_true rfl) ?_
  intro p e s m args below meth c Q ls EE hl hret
  obtain ⟨hx, hb, hml, hown, hts, hG, hK⟩ := id EE
  have hS : sx_S g E E H0 H0 [] := sx_S.rf
  have hl : lv_has ls 8 [(0, .ref a0), (1, .ref a1), (2, .ref a2)] := hl
  refine lv_lconst (v := 0) hx hb d_M_less_0 (by decide +kernel) ?_
  refine lv_lstore_n (lv' := [(3, .long (0 : Int64)), (0, .ref a0), (1, .ref a1), (2, .ref a2)]) hx hb d_M_less_1 rfl hl (by decide) rfl (fun ls hl => ?_)
  refine lv_iconst (v := nI 0) hx hb d_M_less_2 (by decide +kernel) ?_
  refine lv_istore (lv' := [(5, .int (nI (0))), (3, .long (0 : Int64)), (0, .ref a0), (1, .ref a1), (2, .ref a2)]) hx hb d_M_less_3 hl (by decide) rfl (fun ls hl => ?_)
  obtain ⟨R3, eR3⟩ : ∃ t : (vM × Int64), lpU 1 (LL_M_less_5 a1 a2 a0) 16 0 (X, (0 : Int64)) = t := ⟨_, rfl⟩
  refine lpU_go (σ := (vM × Int64)) (P := fun i1 s2 H locs ls => sx_S g E E H0 H locs ∧ mm g H = s2.1 ∧ lv_has ls 8 [(5, .int (nI (i1))), (3, .long s2.2), (0, .ref a0), (1, .ref a1), (2, .ref a2)]) (Wd := fun H locs ls => W p l e rm_M_less s m args below meth c H locs 0 0 Q (F0 m 5 ls [])) (N := 16) (d := 1) (by decide) ?_ ?_ 16 0 _ (by omega) eR3 _ _ _ ⟨hS, hV, lv_sub hl [0, 1, 2, 3, 4] rfl⟩
  · intro i1 s2 H locs ls hii1 hP ihi1
    obtain ⟨hS, hV, hl⟩ := hP
    refine lv_iload hx hb d_M_less_5 (lv_at hl 0 rfl) ?_
    refine lv_bipush (v := nI 16) hx hb d_M_less_7 (by decide +kernel) ?_
    refine lv_icmp_ge (tgt := 54) hx hb d_M_less_9 (by decide) (fun q => absurd q (nI_ge (by omega) (by omega))) (fun _ => ?_)
    refine lv_aload_n hx hb d_M_less_12 rfl (lv_at hl 3 rfl) ?_
    refine lv_iload hx hb d_M_less_13 (lv_at hl 0 rfl) ?_
    refine vx_lald hx hb hG hS hV f1 (by omega) (by decide) d_M_less_15 ?_
    refine lv_aload_n hx hb d_M_less_16 rfl (lv_at hl 4 rfl) ?_
    refine lv_iload hx hb d_M_less_17 (lv_at hl 0 rfl) ?_
    refine vx_lald hx hb hG hS hV f2 (by omega) (by decide) d_M_less_19 ?_
    refine lv_lsub hx hb d_M_less_20 ?_
    refine lv_lload_n hx hb d_M_less_21 rfl (lv_at hl 1 rfl) ?_
    refine lv_lsub hx hb d_M_less_22 ?_
    refine vx_nmL (fun z4 ez4 => ?_)
    refine lv_lstore (lv' := [(6, .long z4), (5, .int (nI (i1))), (3, .long s2.2), (0, .ref a0), (1, .ref a1), (2, .ref a2)]) hx hb d_M_less_23 hl (by decide) rfl (fun ls hl => ?_)
    refine lv_lload hx hb d_M_less_25 (lv_at hl 0 rfl) ?_
    refine lv_lconst (v := 0) hx hb d_M_less_27 (by decide +kernel) ?_
    refine W.lcmp hx hb d_M_less_28 ?_
    have jn37_6 : ∀ (J6 : Int64) (H : Heap) (locs : List Loc) (ls : Array Slot), (if (0 : Int64) ≤ z4 then (0 : Int64) else (1 : Int64)) = J6 → sx_S g E E H0 H locs → mm g H = s2.1 → lv_has ls 8 [(6, .long z4), (5, .int (nI (i1))), (3, .long s2.2), (0, .ref a0), (1, .ref a1), (2, .ref a2)] → W p l e rm_M_less s m args below meth c H locs 0 0 Q (F0 m 37 ls [.long J6]) := by
      intro J6 H locs ls eJ6 hS hV hl
      refine lv_lstore_n (lv' := [(3, .long J6), (6, .long z4), (5, .int (nI (i1))), (0, .ref a0), (1, .ref a1), (2, .ref a2)]) hx hb d_M_less_37 rfl hl (by decide) rfl (fun ls hl => ?_)
      refine lv_aload_n hx hb d_M_less_38 rfl (lv_at hl 3 rfl) ?_
      refine lv_iload hx hb d_M_less_39 (lv_at hl 2 rfl) ?_
      refine lv_lload hx hb d_M_less_41 (lv_at hl 1 rfl) ?_
      refine lv_ldc2 (v := (65535)) hx hb hown (hts (.constantLong R_M 169 (65535)) (by decide +kernel)) d_M_less_43 ?_
      refine lv_land hx hb d_M_less_46 ?_
      refine vx_last hx hb hG hS hV f0 o0 (by omega) (by decide) d_M_less_47 (fun H locs X8 eX8 hS hV => ?_)
      refine lv_iinc (v := nI (i1 + 1)) (lv' := [(5, .int (nI (i1 + 1))), (3, .long J6), (6, .long z4), (0, .ref a0), (1, .ref a1), (2, .ref a2)]) hx hb d_M_less_48 hl (k := 2) rfl (sx_inc _ _) (by decide) rfl (fun ls hl => ?_)
      refine lv_goto (tgt := 5) hx hb d_M_less_51 (by decide) ?_
      exact ihi1 (X8, J6) _ _ _ (by subst ez4 eJ6 eX8; exact rfl) ⟨hS, hV, lv_sub hl [0, 1, 3, 4, 5] rfl⟩
    refine lv_if_ge (tgt := 36) hx hb d_M_less_29 (by decide) (fun q29_4 => ?_) (fun q29_4 => ?_)
    · skip
      have q29_4 := (lg_cmp_ge _ _).mp q29_4
      refine lv_lconst (v := 0) hx hb d_M_less_36 (by decide +kernel) ?_
      exact jn37_6 (0 : Int64) _ _ _ (vx_p q29_4 rfl) hS hV (lv_sub hl [0, 1, 2, 3, 4, 5] rfl)
    · skip
      have q29_4 : ¬ ((0 : Int64) ≤ z4) := fun z => q29_4 ((lg_cmp_ge _ _).mpr z)
      refine lv_lconst (v := 1) hx hb d_M_less_32 (by decide +kernel) ?_
      refine lv_goto (tgt := 37) hx hb d_M_less_33 (by decide) ?_
      exact jn37_6 (1 : Int64) _ _ _ (vx_n q29_4 rfl) hS hV (lv_sub hl [0, 1, 2, 3, 4, 5] rfl)
  · intro H locs ls hP
    obtain ⟨hS, hV, hl⟩ := hP
    refine lv_iload hx hb d_M_less_5 (lv_at hl 0 rfl) ?_
    refine lv_bipush (v := nI 16) hx hb d_M_less_7 (by decide +kernel) ?_
    refine lv_icmp_ge (tgt := 54) hx hb d_M_less_9 (by decide) (fun _ => ?_) (fun q => absurd (nI_le (by omega) (by omega)) q)
    exact hret _ _ _ _ _ (by subst eR3; exact rfl) hS hV d_M_less_54
def LL_M_plus_6 (a1 : Nat) (a2 : Nat) (a0 : Nat) : Nat → (vM × Int64) → (vM × Int64) := fun i_0 s_1 => (let z_2 : Int64 := (s_1.2 + ((s_1.1.1 a1 i_0) + (s_1.1.1 a2 i_0))); let X_3 : vM := stL s_1.1 a0 i_0 (z_2 &&& (65535 : Int64)); let z_4 : Int64 := (z_2 >>> ((nI 16).toInt64 &&& 63)); (X_3, z_4))
def LF_M_plus (X : vM) (a0 : Nat) (a1 : Nat) (a2 : Nat) (a3 : Nat) : vM := (let R3 : (vM × Int64) := lpU 1 (LL_M_plus_6 a1 a2 a0) 16 0 (X, (0 : Int64)); (let J11 : vM := if (0 : Int64) < R3.2 then (let X8 : vM := (LF_M_less R3.1 a0 a0 a3); X8) else (if (LF_M_below R3.1 a0 a3) = true then (R3.1) else (let X10 : vM := (LF_M_less R3.1 a0 a0 a3); X10)); J11))
abbrev rm_M_plus : Room := { frames := 1, cells := 0, slots := 0, locals := 27 }
set_option maxHeartbeats 4000000 in
set_option maxRecDepth 100000 in
theorem v_M_plus {l : Launch} {D : va_G} {g : ClassId → FieldType → Prop} {E : Nat → Prop} {H0 : Heap} {X : vM} {a0 : Nat} {a1 : Nat} {a2 : Nat} {a3 : Nat} (f0 : sx_A g .long H0 a0 16) (o0 : E a0) (f1 : sx_A g .long H0 a1 16) (f2 : sx_A g .long H0 a2 16) (f3 : sx_A g .long H0 a3 16) (hV : mm g H0 = X) : Met l y_M_plus (.code y_M_plus b_M_plus 7 none :: G_) rm_M_plus (sx_Pc [.ref a0, .ref a1, .ref a2, .ref a3] H0 D g) (vx_Qv g E H0 (LF_M_plus X a0 a1 a2 a3)) 0 0 E := by
  refine vx_mv (own := R_M) (by decide) rfl rfl rfl (Nat.le_of_ble_eq_true rfl) ?_
  intro p e s m args below meth c Q ls EE hl hret
  obtain ⟨hx, hb, hml, hown, hts, hG, hK⟩ := id EE
  have hS : sx_S g E E H0 H0 [] := sx_S.rf
  have hl : lv_has ls 7 [(0, .ref a0), (1, .ref a1), (2, .ref a2), (3, .ref a3)] := hl
  refine lv_lconst (v := 0) hx hb d_M_plus_0 (by decide +kernel) ?_
  refine lv_lstore (lv' := [(4, .long (0 : Int64)), (0, .ref a0), (1, .ref a1), (2, .ref a2), (3, .ref a3)]) hx hb d_M_plus_1 hl (by decide) rfl (fun ls hl => ?_)
  refine lv_iconst (v := nI 0) hx hb d_M_plus_3 (by decide +kernel) ?_
  refine lv_istore (lv' := [(6, .int (nI (0))), (4, .long (0 : Int64)), (0, .ref a0), (1, .ref a1), (2, .ref a2), (3, .ref a3)]) hx hb d_M_plus_4 hl (by decide) rfl (fun ls hl => ?_)
  obtain ⟨R3, eR3⟩ : ∃ t : (vM × Int64), lpU 1 (LL_M_plus_6 a1 a2 a0) 16 0 (X, (0 : Int64)) = t := ⟨_, rfl⟩
  refine lpU_go (σ := (vM × Int64)) (P := fun i1 s2 H locs ls => sx_S g E E H0 H locs ∧ mm g H = s2.1 ∧ lv_has ls 7 [(6, .int (nI (i1))), (4, .long s2.2), (0, .ref a0), (1, .ref a1), (2, .ref a2), (3, .ref a3)]) (Wd := fun H locs ls => W p l e rm_M_plus s m args below meth c H locs 0 0 Q (F0 m 6 ls [])) (N := 16) (d := 1) (by decide) ?_ ?_ 16 0 _ (by omega) eR3 _ _ _ ⟨hS, hV, lv_sub hl [0, 1, 2, 3, 4, 5] rfl⟩
  · intro i1 s2 H locs ls hii1 hP ihi1
    obtain ⟨hS, hV, hl⟩ := hP
    refine lv_iload hx hb d_M_plus_6 (lv_at hl 0 rfl) ?_
    refine lv_bipush (v := nI 16) hx hb d_M_plus_8 (by decide +kernel) ?_
    refine lv_icmp_ge (tgt := 50) hx hb d_M_plus_10 (by decide) (fun q => absurd q (nI_ge (by omega) (by omega))) (fun _ => ?_)
    refine lv_lload hx hb d_M_plus_13 (lv_at hl 1 rfl) ?_
    refine lv_aload_n hx hb d_M_plus_15 rfl (lv_at hl 3 rfl) ?_
    refine lv_iload hx hb d_M_plus_16 (lv_at hl 0 rfl) ?_
    refine vx_lald hx hb hG hS hV f1 (by omega) (by decide) d_M_plus_18 ?_
    refine lv_aload_n hx hb d_M_plus_19 rfl (lv_at hl 4 rfl) ?_
    refine lv_iload hx hb d_M_plus_20 (lv_at hl 0 rfl) ?_
    refine vx_lald hx hb hG hS hV f2 (by omega) (by decide) d_M_plus_22 ?_
    refine lv_ladd hx hb d_M_plus_23 ?_
    refine lv_ladd hx hb d_M_plus_24 ?_
    refine vx_nmL (fun z4 ez4 => ?_)
    refine lv_lstore (lv' := [(4, .long z4), (6, .int (nI (i1))), (0, .ref a0), (1, .ref a1), (2, .ref a2), (3, .ref a3)]) hx hb d_M_plus_25 hl (by decide) rfl (fun ls hl => ?_)
    refine lv_aload_n hx hb d_M_plus_27 rfl (lv_at hl 2 rfl) ?_
    refine lv_iload hx hb d_M_plus_28 (lv_at hl 1 rfl) ?_
    refine lv_lload hx hb d_M_plus_30 (lv_at hl 0 rfl) ?_
    refine lv_ldc2 (v := (65535)) hx hb hown (hts (.constantLong R_M 169 (65535)) (by decide +kernel)) d_M_plus_32 ?_
    refine lv_land hx hb d_M_plus_35 ?_
    refine vx_last hx hb hG hS hV f0 o0 (by omega) (by decide) d_M_plus_36 (fun H locs X5 eX5 hS hV => ?_)
    refine lv_lload hx hb d_M_plus_37 (lv_at hl 0 rfl) ?_
    refine lv_bipush (v := nI 16) hx hb d_M_plus_39 (by decide +kernel) ?_
    refine lv_lshr hx hb d_M_plus_41 rfl ?_
    refine vx_nmL (fun z6 ez6 => ?_)
    refine lv_lstore (lv' := [(4, .long z6), (6, .int (nI (i1))), (0, .ref a0), (1, .ref a1), (2, .ref a2), (3, .ref a3)]) hx hb d_M_plus_42 hl (by decide) rfl (fun ls hl => ?_)
    refine lv_iinc (v := nI (i1 + 1)) (lv' := [(6, .int (nI (i1 + 1))), (4, .long z6), (0, .ref a0), (1, .ref a1), (2, .ref a2), (3, .ref a3)]) hx hb d_M_plus_44 hl (k := 1) rfl (sx_inc _ _) (by decide) rfl (fun ls hl => ?_)
    refine lv_goto (tgt := 6) hx hb d_M_plus_47 (by decide) ?_
    exact ihi1 (X5, z6) _ _ _ (by subst ez4 eX5 ez6; exact rfl) ⟨hS, hV, lv_sub hl [0, 1, 2, 3, 4, 5] rfl⟩
  · intro H locs ls hP
    obtain ⟨hS, hV, hl⟩ := hP
    refine lv_iload hx hb d_M_plus_6 (lv_at hl 0 rfl) ?_
    refine lv_bipush (v := nI 16) hx hb d_M_plus_8 (by decide +kernel) ?_
    refine lv_icmp_ge (tgt := 50) hx hb d_M_plus_10 (by decide) (fun _ => ?_) (fun q => absurd (nI_le (by omega) (by omega)) q)
    refine lv_lload hx hb d_M_plus_50 (lv_at hl 1 rfl) ?_
    refine lv_lconst (v := 0) hx hb d_M_plus_52 (by decide +kernel) ?_
    refine W.lcmp hx hb d_M_plus_53 ?_
    have jn71_11 : ∀ (J11 : vM) (H : Heap) (locs : List Loc) (ls : Array Slot), (if (0 : Int64) < R3.2 then (let X8 : vM := (LF_M_less R3.1 a0 a0 a3); X8) else (if (LF_M_below R3.1 a0 a3) = true then (R3.1) else (let X10 : vM := (LF_M_less R3.1 a0 a0 a3); X10))) = J11 → sx_S g E E H0 H locs → mm g H = J11 → lv_has ls 7 [(6, .int (nI (16))), (4, .long R3.2), (0, .ref a0), (1, .ref a1), (2, .ref a2), (3, .ref a3)] → W p l e rm_M_plus s m args below meth c H locs 0 0 Q (F0 m 71 ls []) := by
      intro J11 H locs ls eJ11 hS hV hl
      exact hret _ _ _ _ _ (by subst eR3 eJ11; exact rfl) hS hV d_M_plus_71
    refine lv_if_gt (tgt := 65) hx hb d_M_plus_54 (by decide) (fun q54_6 => ?_) (fun q54_6 => ?_)
    · skip
      have q54_6 := (lg_cmp_gt _ _).mp q54_6
      refine lv_aload_n hx hb d_M_plus_65 rfl (lv_at hl 2 rfl) ?_
      refine lv_aload_n hx hb d_M_plus_66 rfl (lv_at hl 2 rfl) ?_
      refine lv_aload_n hx hb d_M_plus_67 rfl (lv_at hl 5 rfl) ?_
      refine vx_gv (sx_runS (As := [.ref a0, .ref a0, .ref a3]) (rest := []) EE (v_M_less (X := R3.1) (hS.a f0) o0 (hS.a f0) (hS.a f3) hV) w_M_219 rfl ⟨rfl, rfl⟩ ⟨Nat.le_of_ble_eq_true rfl, Nat.le_of_ble_eq_true rfl⟩ ⟨Nat.zero_le _, Nat.zero_le _⟩ hl.1 rfl (Nat.le_of_ble_eq_true rfl) d_M_plus_68) hS (fun H locs X13 eX13 hS hV => ?_)
      exact jn71_11 X13 _ _ _ (by subst eX13; exact (vx_p q54_6 rfl)) hS hV (lv_sub hl [0, 1, 2, 3, 4, 5] rfl)
    · skip
      have q54_6 : ¬ ((0 : Int64) < R3.2) := fun z => q54_6 ((lg_cmp_gt _ _).mpr z)
      refine lv_aload_n hx hb d_M_plus_57 rfl (lv_at hl 2 rfl) ?_
      refine lv_aload_n hx hb d_M_plus_58 rfl (lv_at hl 5 rfl) ?_
      refine vx_gi (sx_runS (As := [.ref a0, .ref a3]) (rest := []) EE (v_M_below (X := R3.1) (hS.a f0) (hS.a f3) hV) w_M_215 rfl ⟨rfl, rfl⟩ ⟨Nat.le_of_ble_eq_true rfl, Nat.le_of_ble_eq_true rfl⟩ ⟨Nat.zero_le _, Nat.zero_le _⟩ hl.1 rfl (Nat.le_of_ble_eq_true rfl) d_M_plus_59) hS (fun H locs X_ eX_ hS hV => ?_)
      subst eX_
      refine lv_if_ne (tgt := 71) hx hb d_M_plus_62 (by decide) (fun q62_13 => ?_) (fun q62_13 => ?_)
      · skip
        have q62_13 := vx_b1 q62_13
        exact jn71_11 R3.1 _ _ _ (vx_n q54_6 (vx_p q62_13 rfl)) hS hV (lv_sub hl [0, 1, 2, 3, 4, 5] rfl)
      · skip
        have q62_13 := vx_bf (vx_b0 q62_13)
        refine lv_aload_n hx hb d_M_plus_65 rfl (lv_at hl 2 rfl) ?_
        refine lv_aload_n hx hb d_M_plus_66 rfl (lv_at hl 2 rfl) ?_
        refine lv_aload_n hx hb d_M_plus_67 rfl (lv_at hl 5 rfl) ?_
        refine vx_gv (sx_runS (As := [.ref a0, .ref a0, .ref a3]) (rest := []) EE (v_M_less (X := R3.1) (hS.a f0) o0 (hS.a f0) (hS.a f3) hV) w_M_219 rfl ⟨rfl, rfl⟩ ⟨Nat.le_of_ble_eq_true rfl, Nat.le_of_ble_eq_true rfl⟩ ⟨Nat.zero_le _, Nat.zero_le _⟩ hl.1 rfl (Nat.le_of_ble_eq_true rfl) d_M_plus_68) hS (fun H locs X15 eX15 hS hV => ?_)
        exact jn71_11 X15 _ _ _ (by subst eX15; exact (vx_n q54_6 (vx_n q62_13 rfl))) hS hV (lv_sub hl [0, 1, 2, 3, 4, 5] rfl)
def LL_M_minus_6 (a1 : Nat) (a2 : Nat) (a0 : Nat) : Nat → (vM × Int64) → (vM × Int64) := fun i_0 s_1 => (let z_2 : Int64 := (((s_1.1.1 a1 i_0) - (s_1.1.1 a2 i_0)) - s_1.2); let J_3 : Int64 := if (0 : Int64) ≤ z_2 then (0 : Int64) else (1 : Int64); (let X_4 : vM := stL s_1.1 a0 i_0 (z_2 &&& (65535 : Int64)); (X_4, J_3)))
def LL_M_minus_71 (a0 : Nat) (a3 : Nat) : Nat → (vM × Int64) → (vM × Int64) := fun i_0 s_1 => (let z_2 : Int64 := (s_1.2 + ((s_1.1.1 a0 i_0) + (s_1.1.1 a3 i_0))); let X_3 : vM := stL s_1.1 a0 i_0 (z_2 &&& (65535 : Int64)); let z_4 : Int64 := (z_2 >>> ((nI 16).toInt64 &&& 63)); (X_3, z_4))
def LF_M_minus (X : vM) (a0 : Nat) (a1 : Nat) (a2 : Nat) (a3 : Nat) : vM := (let R3 : (vM × Int64) := lpU 1 (LL_M_minus_6 a1 a2 a0) 16 0 (X, (0 : Int64)); if R3.2 = (0 : Int64) then R3.1 else (let R12 : (vM × Int64) := lpU 1 (LL_M_minus_71 a0 a3) 16 0 (R3.1, (0 : Int64)); R12.1))
abbrev rm_M_minus : Room := { frames := 0, cells := 0, slots := 0, locals := 0 }
set_option maxHeartbeats 4000000 in
set_option maxRecDepth 100000 in
theorem v_M_minus {l : Launch} {D : va_G} {g : ClassId → FieldType → Prop} {E : Nat → Prop} {H0 : Heap} {X : vM} {a0 : Nat} {a1 : Nat} {a2 : Nat} {a3 : Nat} (f0 : sx_A g .long H0 a0 16) (o0 : E a0) (f1 : sx_A g .long H0 a1 16) (f2 : sx_A g .long H0 a2 16) (f3 : sx_A g .long H0 a3 16) (hV : mm g H0 = X) : Met l y_M_minus (.code y_M_minus b_M_minus 9 none :: G_) rm_M_minus (sx_Pc [.ref a0, .ref a1, .ref a2, .ref a3] H0 D g) (vx_Qv g E H0 (LF_M_minus X a0 a1 a2 a3)) 0 0 E := by
  refine vx_mv (own := R_M) (by decide) rfl rfl rfl (Nat.le_of_ble_eq_true rfl) ?_
  intro p e s m args below meth c Q ls EE hl hret
  obtain ⟨hx, hb, hml, hown, hts, hG, hK⟩ := id EE
  have hS : sx_S g E E H0 H0 [] := sx_S.rf
  have hl : lv_has ls 9 [(0, .ref a0), (1, .ref a1), (2, .ref a2), (3, .ref a3)] := hl
  refine lv_lconst (v := 0) hx hb d_M_minus_0 (by decide +kernel) ?_
  refine lv_lstore (lv' := [(4, .long (0 : Int64)), (0, .ref a0), (1, .ref a1), (2, .ref a2), (3, .ref a3)]) hx hb d_M_minus_1 hl (by decide) rfl (fun ls hl => ?_)
  refine lv_iconst (v := nI 0) hx hb d_M_minus_3 (by decide +kernel) ?_
  refine lv_istore (lv' := [(6, .int (nI (0))), (4, .long (0 : Int64)), (0, .ref a0), (1, .ref a1), (2, .ref a2), (3, .ref a3)]) hx hb d_M_minus_4 hl (by decide) rfl (fun ls hl => ?_)
  obtain ⟨R3, eR3⟩ : ∃ t : (vM × Int64), lpU 1 (LL_M_minus_6 a1 a2 a0) 16 0 (X, (0 : Int64)) = t := ⟨_, rfl⟩
  refine lpU_go (σ := (vM × Int64)) (P := fun i1 s2 H locs ls => sx_S g E E H0 H locs ∧ mm g H = s2.1 ∧ lv_has ls 9 [(6, .int (nI (i1))), (4, .long s2.2), (0, .ref a0), (1, .ref a1), (2, .ref a2), (3, .ref a3)]) (Wd := fun H locs ls => W p l e rm_M_minus s m args below meth c H locs 0 0 Q (F0 m 6 ls [])) (N := 16) (d := 1) (by decide) ?_ ?_ 16 0 _ (by omega) eR3 _ _ _ ⟨hS, hV, lv_sub hl [0, 1, 2, 3, 4, 5] rfl⟩
  · intro i1 s2 H locs ls hii1 hP ihi1
    obtain ⟨hS, hV, hl⟩ := hP
    refine lv_iload hx hb d_M_minus_6 (lv_at hl 0 rfl) ?_
    refine lv_bipush (v := nI 16) hx hb d_M_minus_8 (by decide +kernel) ?_
    refine lv_icmp_ge (tgt := 57) hx hb d_M_minus_10 (by decide) (fun q => absurd q (nI_ge (by omega) (by omega))) (fun _ => ?_)
    refine lv_aload_n hx hb d_M_minus_13 rfl (lv_at hl 3 rfl) ?_
    refine lv_iload hx hb d_M_minus_14 (lv_at hl 0 rfl) ?_
    refine vx_lald hx hb hG hS hV f1 (by omega) (by decide) d_M_minus_16 ?_
    refine lv_aload_n hx hb d_M_minus_17 rfl (lv_at hl 4 rfl) ?_
    refine lv_iload hx hb d_M_minus_18 (lv_at hl 0 rfl) ?_
    refine vx_lald hx hb hG hS hV f2 (by omega) (by decide) d_M_minus_20 ?_
    refine lv_lsub hx hb d_M_minus_21 ?_
    refine lv_lload hx hb d_M_minus_22 (lv_at hl 1 rfl) ?_
    refine lv_lsub hx hb d_M_minus_24 ?_
    refine vx_nmL (fun z4 ez4 => ?_)
    refine lv_lstore (lv' := [(7, .long z4), (6, .int (nI (i1))), (4, .long s2.2), (0, .ref a0), (1, .ref a1), (2, .ref a2), (3, .ref a3)]) hx hb d_M_minus_25 hl (by decide) rfl (fun ls hl => ?_)
    refine lv_lload hx hb d_M_minus_27 (lv_at hl 0 rfl) ?_
    refine lv_lconst (v := 0) hx hb d_M_minus_29 (by decide +kernel) ?_
    refine W.lcmp hx hb d_M_minus_30 ?_
    have jn39_6 : ∀ (J6 : Int64) (H : Heap) (locs : List Loc) (ls : Array Slot), (if (0 : Int64) ≤ z4 then (0 : Int64) else (1 : Int64)) = J6 → sx_S g E E H0 H locs → mm g H = s2.1 → lv_has ls 9 [(7, .long z4), (6, .int (nI (i1))), (4, .long s2.2), (0, .ref a0), (1, .ref a1), (2, .ref a2), (3, .ref a3)] → W p l e rm_M_minus s m args below meth c H locs 0 0 Q (F0 m 39 ls [.long J6]) := by
      intro J6 H locs ls eJ6 hS hV hl
      refine lv_lstore (lv' := [(4, .long J6), (7, .long z4), (6, .int (nI (i1))), (0, .ref a0), (1, .ref a1), (2, .ref a2), (3, .ref a3)]) hx hb d_M_minus_39 hl (by decide) rfl (fun ls hl => ?_)
      refine lv_aload_n hx hb d_M_minus_41 rfl (lv_at hl 3 rfl) ?_
      refine lv_iload hx hb d_M_minus_42 (lv_at hl 2 rfl) ?_
      refine lv_lload hx hb d_M_minus_44 (lv_at hl 1 rfl) ?_
      refine lv_ldc2 (v := (65535)) hx hb hown (hts (.constantLong R_M 169 (65535)) (by decide +kernel)) d_M_minus_46 ?_
      refine lv_land hx hb d_M_minus_49 ?_
      refine vx_last hx hb hG hS hV f0 o0 (by omega) (by decide) d_M_minus_50 (fun H locs X8 eX8 hS hV => ?_)
      refine lv_iinc (v := nI (i1 + 1)) (lv' := [(6, .int (nI (i1 + 1))), (4, .long J6), (7, .long z4), (0, .ref a0), (1, .ref a1), (2, .ref a2), (3, .ref a3)]) hx hb d_M_minus_51 hl (k := 2) rfl (sx_inc _ _) (by decide) rfl (fun ls hl => ?_)
      refine lv_goto (tgt := 6) hx hb d_M_minus_54 (by decide) ?_
      exact ihi1 (X8, J6) _ _ _ (by subst ez4 eJ6 eX8; exact rfl) ⟨hS, hV, lv_sub hl [0, 1, 3, 4, 5, 6] rfl⟩
    refine lv_if_ge (tgt := 38) hx hb d_M_minus_31 (by decide) (fun q31_4 => ?_) (fun q31_4 => ?_)
    · skip
      have q31_4 := (lg_cmp_ge _ _).mp q31_4
      refine lv_lconst (v := 0) hx hb d_M_minus_38 (by decide +kernel) ?_
      exact jn39_6 (0 : Int64) _ _ _ (vx_p q31_4 rfl) hS hV (lv_sub hl [0, 1, 2, 3, 4, 5, 6] rfl)
    · skip
      have q31_4 : ¬ ((0 : Int64) ≤ z4) := fun z => q31_4 ((lg_cmp_ge _ _).mpr z)
      refine lv_lconst (v := 1) hx hb d_M_minus_34 (by decide +kernel) ?_
      refine lv_goto (tgt := 39) hx hb d_M_minus_35 (by decide) ?_
      exact jn39_6 (1 : Int64) _ _ _ (vx_n q31_4 rfl) hS hV (lv_sub hl [0, 1, 2, 3, 4, 5, 6] rfl)
  · intro H locs ls hP
    obtain ⟨hS, hV, hl⟩ := hP
    refine lv_iload hx hb d_M_minus_6 (lv_at hl 0 rfl) ?_
    refine lv_bipush (v := nI 16) hx hb d_M_minus_8 (by decide +kernel) ?_
    refine lv_icmp_ge (tgt := 57) hx hb d_M_minus_10 (by decide) (fun _ => ?_) (fun q => absurd (nI_le (by omega) (by omega)) q)
    refine lv_lload hx hb d_M_minus_57 (lv_at hl 1 rfl) ?_
    refine lv_lconst (v := 0) hx hb d_M_minus_59 (by decide +kernel) ?_
    refine W.lcmp hx hb d_M_minus_60 ?_
    refine lv_if_ne (tgt := 65) hx hb d_M_minus_61 (by decide) (fun q61_8 => ?_) (fun q61_8 => ?_)
    · skip
      have q61_8 : ¬ (R3.2 = (0 : Int64)) := fun z => q61_8 ((lg_cmp_eq _ _).mpr z)
      refine lv_lconst (v := 0) hx hb d_M_minus_65 (by decide +kernel) ?_
      refine lv_lstore (lv' := [(6, .long (0 : Int64)), (4, .long R3.2), (0, .ref a0), (1, .ref a1), (2, .ref a2), (3, .ref a3)]) hx hb d_M_minus_66 hl (by decide) rfl (fun ls hl => ?_)
      refine lv_iconst (v := nI 0) hx hb d_M_minus_68 (by decide +kernel) ?_
      refine lv_istore (lv' := [(8, .int (nI (0))), (6, .long (0 : Int64)), (4, .long R3.2), (0, .ref a0), (1, .ref a1), (2, .ref a2), (3, .ref a3)]) hx hb d_M_minus_69 hl (by decide) rfl (fun ls hl => ?_)
      obtain ⟨R12, eR12⟩ : ∃ t : (vM × Int64), lpU 1 (LL_M_minus_71 a0 a3) 16 0 (R3.1, (0 : Int64)) = t := ⟨_, rfl⟩
      refine lpU_go (σ := (vM × Int64)) (P := fun i10 s11 H locs ls => sx_S g E E H0 H locs ∧ mm g H = s11.1 ∧ lv_has ls 9 [(8, .int (nI (i10))), (6, .long s11.2), (0, .ref a0), (3, .ref a3)]) (Wd := fun H locs ls => W p l e rm_M_minus s m args below meth c H locs 0 0 Q (F0 m 71 ls [])) (N := 16) (d := 1) (by decide) ?_ ?_ 16 0 _ (by omega) eR12 _ _ _ ⟨hS, hV, lv_sub hl [0, 1, 3, 6] rfl⟩
      · intro i10 s11 H locs ls hii10 hP ihi10
        obtain ⟨hS, hV, hl⟩ := hP
        refine lv_iload hx hb d_M_minus_71 (lv_at hl 0 rfl) ?_
        refine lv_bipush (v := nI 16) hx hb d_M_minus_73 (by decide +kernel) ?_
        refine lv_icmp_ge (tgt := 115) hx hb d_M_minus_75 (by decide) (fun q => absurd q (nI_ge (by omega) (by omega))) (fun _ => ?_)
        refine lv_lload hx hb d_M_minus_78 (lv_at hl 1 rfl) ?_
        refine lv_aload_n hx hb d_M_minus_80 rfl (lv_at hl 2 rfl) ?_
        refine lv_iload hx hb d_M_minus_81 (lv_at hl 0 rfl) ?_
        refine vx_lald hx hb hG hS hV f0 (by omega) (by decide) d_M_minus_83 ?_
        refine lv_aload_n hx hb d_M_minus_84 rfl (lv_at hl 3 rfl) ?_
        refine lv_iload hx hb d_M_minus_85 (lv_at hl 0 rfl) ?_
        refine vx_lald hx hb hG hS hV f3 (by omega) (by decide) d_M_minus_87 ?_
        refine lv_ladd hx hb d_M_minus_88 ?_
        refine lv_ladd hx hb d_M_minus_89 ?_
        refine vx_nmL (fun z13 ez13 => ?_)
        refine lv_lstore (lv' := [(6, .long z13), (8, .int (nI (i10))), (0, .ref a0), (3, .ref a3)]) hx hb d_M_minus_90 hl (by decide) rfl (fun ls hl => ?_)
        refine lv_aload_n hx hb d_M_minus_92 rfl (lv_at hl 2 rfl) ?_
        refine lv_iload hx hb d_M_minus_93 (lv_at hl 1 rfl) ?_
        refine lv_lload hx hb d_M_minus_95 (lv_at hl 0 rfl) ?_
        refine lv_ldc2 (v := (65535)) hx hb hown (hts (.constantLong R_M 169 (65535)) (by decide +kernel)) d_M_minus_97 ?_
        refine lv_land hx hb d_M_minus_100 ?_
        refine vx_last hx hb hG hS hV f0 o0 (by omega) (by decide) d_M_minus_101 (fun H locs X14 eX14 hS hV => ?_)
        refine lv_lload hx hb d_M_minus_102 (lv_at hl 0 rfl) ?_
        refine lv_bipush (v := nI 16) hx hb d_M_minus_104 (by decide +kernel) ?_
        refine lv_lshr hx hb d_M_minus_106 rfl ?_
        refine vx_nmL (fun z15 ez15 => ?_)
        refine lv_lstore (lv' := [(6, .long z15), (8, .int (nI (i10))), (0, .ref a0), (3, .ref a3)]) hx hb d_M_minus_107 hl (by decide) rfl (fun ls hl => ?_)
        refine lv_iinc (v := nI (i10 + 1)) (lv' := [(8, .int (nI (i10 + 1))), (6, .long z15), (0, .ref a0), (3, .ref a3)]) hx hb d_M_minus_109 hl (k := 1) rfl (sx_inc _ _) (by decide) rfl (fun ls hl => ?_)
        refine lv_goto (tgt := 71) hx hb d_M_minus_112 (by decide) ?_
        exact ihi10 (X14, z15) _ _ _ (by subst ez13 eX14 ez15; exact rfl) ⟨hS, hV, lv_sub hl [0, 1, 2, 3] rfl⟩
      · intro H locs ls hP
        obtain ⟨hS, hV, hl⟩ := hP
        refine lv_iload hx hb d_M_minus_71 (lv_at hl 0 rfl) ?_
        refine lv_bipush (v := nI 16) hx hb d_M_minus_73 (by decide +kernel) ?_
        refine lv_icmp_ge (tgt := 115) hx hb d_M_minus_75 (by decide) (fun _ => ?_) (fun q => absurd (nI_le (by omega) (by omega)) q)
        exact hret _ _ _ _ _ (by subst eR3 eR12; exact (vx_n q61_8 rfl)) hS hV d_M_minus_115
    · skip
      have q61_8 := (lg_cmp_eq _ _).mp q61_8
      exact hret _ _ _ _ _ (by subst eR3; exact (vx_p q61_8 rfl)) hS hV d_M_minus_64
def LL_M_half_64 (a0 : Nat) : Nat → vM → vM := fun i_0 s_1 => (let X_2 : vM := stL s_1 a0 i_0 (((s_1.1 a0 i_0) >>> ((nI 1).toInt64 &&& 63)) ||| (((s_1.1 a0 (i_0 + 1)) &&& (1 : Int64)) <<< ((nI 15).toInt64 &&& 63))); X_2)
def LL_M_half_15 (a0 : Nat) (a1 : Nat) : Nat → (vM × Int64) → (vM × Int64) := fun i_0 s_1 => (let z_2 : Int64 := (s_1.2 + ((s_1.1.1 a0 i_0) + (s_1.1.1 a1 i_0))); let X_3 : vM := stL s_1.1 a0 i_0 (z_2 &&& (65535 : Int64)); let z_4 : Int64 := (z_2 >>> ((nI 16).toInt64 &&& 63)); (X_3, z_4))
def LF_M_half (X : vM) (a0 : Nat) (a1 : Nat) : vM := (let J9 : vM := if ((X.1 a0 0) &&& (1 : Int64)) = (1 : Int64) then (let R4 : (vM × Int64) := lpU 1 (LL_M_half_15 a0 a1) 16 0 (X, (0 : Int64)); (let X8 : vM := stL R4.1 a0 16 ((R4.1.1 a0 16) + R4.2); X8)) else X; (let R13 : vM := lpU 1 (LL_M_half_64 a0) 16 0 J9; (let X15 : vM := stL R13 a0 16 ((R13.1 a0 16) >>> ((nI 1).toInt64 &&& 63)); X15)))
abbrev rm_M_half : Room := { frames := 0, cells := 0, slots := 0, locals := 0 }
set_option maxHeartbeats 4000000 in
set_option maxRecDepth 100000 in
theorem v_M_half {l : Launch} {D : va_G} {g : ClassId → FieldType → Prop} {E : Nat → Prop} {H0 : Heap} {X : vM} {a0 : Nat} {a1 : Nat} (f0 : sx_A g .long H0 a0 17) (o0 : E a0) (f1 : sx_A g .long H0 a1 16) (hV : mm g H0 = X) : Met l y_M_half (.code y_M_half b_M_half 5 none :: G_) rm_M_half (sx_Pc [.ref a0, .ref a1] H0 D g) (vx_Qv g E H0 (LF_M_half X a0 a1)) 0 0 E := by
  refine vx_mv (own := R_M) (by decide) rfl rfl rfl (Nat.le_of_ble_eq_true rfl) ?_
  intro p e s m args below meth c Q ls EE hl hret
  obtain ⟨hx, hb, hml, hown, hts, hG, hK⟩ := id EE
  have hS : sx_S g E E H0 H0 [] := sx_S.rf
  have hl : lv_has ls 5 [(0, .ref a0), (1, .ref a1)] := hl
  refine lv_aload_n hx hb d_M_half_0 rfl (lv_at hl 0 rfl) ?_
  refine lv_iconst (v := nI 0) hx hb d_M_half_1 (by decide +kernel) ?_
  refine vx_lald hx hb hG hS hV f0 (by omega) (by decide) d_M_half_2 ?_
  refine lv_lconst (v := 1) hx hb d_M_half_3 (by decide +kernel) ?_
  refine lv_land hx hb d_M_half_4 ?_
  refine lv_lconst (v := 1) hx hb d_M_half_5 (by decide +kernel) ?_
  refine W.lcmp hx hb d_M_half_6 ?_
  have jn62_9 : ∀ (J9 : vM) (H : Heap) (locs : List Loc) (ls : Array Slot), (if ((X.1 a0 0) &&& (1 : Int64)) = (1 : Int64) then (let R4 : (vM × Int64) := lpU 1 (LL_M_half_15 a0 a1) 16 0 (X, (0 : Int64)); (let X8 : vM := stL R4.1 a0 16 ((R4.1.1 a0 16) + R4.2); X8)) else X) = J9 → sx_S g E E H0 H locs → mm g H = J9 → lv_has ls 5 [(0, .ref a0), (1, .ref a1)] → W p l e rm_M_half s m args below meth c H locs 0 0 Q (F0 m 62 ls []) := by
    intro J9 H locs ls eJ9 hS hV hl
    refine lv_iconst (v := nI 0) hx hb d_M_half_62 (by decide +kernel) ?_
    refine lv_istore_n (lv' := [(2, .int (nI (0))), (0, .ref a0), (1, .ref a1)]) hx hb d_M_half_63 rfl hl (by decide) rfl (fun ls hl => ?_)
    obtain ⟨R13, eR13⟩ : ∃ t : vM, lpU 1 (LL_M_half_64 a0) 16 0 J9 = t := ⟨_, rfl⟩
    refine lpU_go (σ := vM) (P := fun i11 s12 H locs ls => sx_S g E E H0 H locs ∧ mm g H = s12 ∧ lv_has ls 5 [(2, .int (nI (i11))), (0, .ref a0)]) (Wd := fun H locs ls => W p l e rm_M_half s m args below meth c H locs 0 0 Q (F0 m 64 ls [])) (N := 16) (d := 1) (by decide) ?_ ?_ 16 0 _ (by omega) eR13 _ _ _ ⟨hS, hV, lv_sub hl [0, 1] rfl⟩
    · intro i11 s12 H locs ls hii11 hP ihi11
      obtain ⟨hS, hV, hl⟩ := hP
      refine lv_iload_n hx hb d_M_half_64 rfl (lv_at hl 0 rfl) ?_
      refine lv_bipush (v := nI 16) hx hb d_M_half_65 (by decide +kernel) ?_
      refine lv_icmp_ge (tgt := 95) hx hb d_M_half_67 (by decide) (fun q => absurd q (nI_ge (by omega) (by omega))) (fun _ => ?_)
      refine lv_aload_n hx hb d_M_half_70 rfl (lv_at hl 1 rfl) ?_
      refine lv_iload_n hx hb d_M_half_71 rfl (lv_at hl 0 rfl) ?_
      refine lv_aload_n hx hb d_M_half_72 rfl (lv_at hl 1 rfl) ?_
      refine lv_iload_n hx hb d_M_half_73 rfl (lv_at hl 0 rfl) ?_
      refine vx_lald hx hb hG hS hV f0 (by omega) (by decide) d_M_half_74 ?_
      refine lv_iconst (v := nI 1) hx hb d_M_half_75 (by decide +kernel) ?_
      refine lv_lshr hx hb d_M_half_76 rfl ?_
      refine lv_aload_n hx hb d_M_half_77 rfl (lv_at hl 1 rfl) ?_
      refine lv_iload_n hx hb d_M_half_78 rfl (lv_at hl 0 rfl) ?_
      refine lv_iconst (v := nI 1) hx hb d_M_half_79 (by decide +kernel) ?_
      refine lv_iadd hx hb d_M_half_80 ?_
      refine sx_ti (y := nI (i11 + 1)) (nI_add _ _) ?_
      refine vx_lald hx hb hG hS hV f0 (by omega) (by decide) d_M_half_81 ?_
      refine lv_lconst (v := 1) hx hb d_M_half_82 (by decide +kernel) ?_
      refine lv_land hx hb d_M_half_83 ?_
      refine lv_bipush (v := nI 15) hx hb d_M_half_84 (by decide +kernel) ?_
      refine lv_lshl hx hb d_M_half_86 rfl ?_
      refine lv_lor hx hb d_M_half_87 ?_
      refine vx_last hx hb hG hS hV f0 o0 (by omega) (by decide) d_M_half_88 (fun H locs X14 eX14 hS hV => ?_)
      refine lv_iinc (v := nI (i11 + 1)) (lv' := [(2, .int (nI (i11 + 1))), (0, .ref a0)]) hx hb d_M_half_89 hl (k := 0) rfl (sx_inc _ _) (by decide) rfl (fun ls hl => ?_)
      refine lv_goto (tgt := 64) hx hb d_M_half_92 (by decide) ?_
      exact ihi11 X14 _ _ _ (by subst eX14; exact rfl) ⟨hS, hV, lv_sub hl [0, 1] rfl⟩
    · intro H locs ls hP
      obtain ⟨hS, hV, hl⟩ := hP
      refine lv_iload_n hx hb d_M_half_64 rfl (lv_at hl 0 rfl) ?_
      refine lv_bipush (v := nI 16) hx hb d_M_half_65 (by decide +kernel) ?_
      refine lv_icmp_ge (tgt := 95) hx hb d_M_half_67 (by decide) (fun _ => ?_) (fun q => absurd (nI_le (by omega) (by omega)) q)
      refine lv_aload_n hx hb d_M_half_95 rfl (lv_at hl 1 rfl) ?_
      refine lv_bipush (v := nI 16) hx hb d_M_half_96 (by decide +kernel) ?_
      refine lv_dup2_11 hx hb d_M_half_98 rfl rfl ?_
      refine vx_lald hx hb hG hS hV f0 (by omega) (by decide) d_M_half_99 ?_
      refine lv_iconst (v := nI 1) hx hb d_M_half_100 (by decide +kernel) ?_
      refine lv_lshr hx hb d_M_half_101 rfl ?_
      refine vx_last hx hb hG hS hV f0 o0 (by omega) (by decide) d_M_half_102 (fun H locs X15 eX15 hS hV => ?_)
      exact hret _ _ _ _ _ (by subst eJ9 eR13 eX15; exact rfl) hS hV d_M_half_103
  refine lv_if_ne (tgt := 62) hx hb d_M_half_7 (by decide) (fun q7_0 => ?_) (fun q7_0 => ?_)
  · skip
    have q7_0 : ¬ (((X.1 a0 0) &&& (1 : Int64)) = (1 : Int64)) := fun z => q7_0 ((lg_cmp_eq _ _).mpr z)
    exact jn62_9 X _ _ _ (vx_n q7_0 rfl) hS hV (lv_sub hl [0, 1] rfl)
  · skip
    have q7_0 := (lg_cmp_eq _ _).mp q7_0
    refine lv_lconst (v := 0) hx hb d_M_half_10 (by decide +kernel) ?_
    refine lv_lstore_n (lv' := [(2, .long (0 : Int64)), (0, .ref a0), (1, .ref a1)]) hx hb d_M_half_11 rfl hl (by decide) rfl (fun ls hl => ?_)
    refine lv_iconst (v := nI 0) hx hb d_M_half_12 (by decide +kernel) ?_
    refine lv_istore (lv' := [(4, .int (nI (0))), (2, .long (0 : Int64)), (0, .ref a0), (1, .ref a1)]) hx hb d_M_half_13 hl (by decide) rfl (fun ls hl => ?_)
    obtain ⟨R18, eR18⟩ : ∃ t : (vM × Int64), lpU 1 (LL_M_half_15 a0 a1) 16 0 (X, (0 : Int64)) = t := ⟨_, rfl⟩
    refine lpU_go (σ := (vM × Int64)) (P := fun i16 s17 H locs ls => sx_S g E E H0 H locs ∧ mm g H = s17.1 ∧ lv_has ls 5 [(4, .int (nI (i16))), (2, .long s17.2), (0, .ref a0), (1, .ref a1)]) (Wd := fun H locs ls => W p l e rm_M_half s m args below meth c H locs 0 0 Q (F0 m 15 ls [])) (N := 16) (d := 1) (by decide) ?_ ?_ 16 0 _ (by omega) eR18 _ _ _ ⟨hS, hV, lv_sub hl [0, 1, 2, 3] rfl⟩
    · intro i16 s17 H locs ls hii16 hP ihi16
      obtain ⟨hS, hV, hl⟩ := hP
      refine lv_iload hx hb d_M_half_15 (lv_at hl 0 rfl) ?_
      refine lv_bipush (v := nI 16) hx hb d_M_half_17 (by decide +kernel) ?_
      refine lv_icmp_ge (tgt := 54) hx hb d_M_half_19 (by decide) (fun q => absurd q (nI_ge (by omega) (by omega))) (fun _ => ?_)
      refine lv_lload_n hx hb d_M_half_22 rfl (lv_at hl 1 rfl) ?_
      refine lv_aload_n hx hb d_M_half_23 rfl (lv_at hl 2 rfl) ?_
      refine lv_iload hx hb d_M_half_24 (lv_at hl 0 rfl) ?_
      refine vx_lald hx hb hG hS hV f0 (by omega) (by decide) d_M_half_26 ?_
      refine lv_aload_n hx hb d_M_half_27 rfl (lv_at hl 3 rfl) ?_
      refine lv_iload hx hb d_M_half_28 (lv_at hl 0 rfl) ?_
      refine vx_lald hx hb hG hS hV f1 (by omega) (by decide) d_M_half_30 ?_
      refine lv_ladd hx hb d_M_half_31 ?_
      refine lv_ladd hx hb d_M_half_32 ?_
      refine vx_nmL (fun z19 ez19 => ?_)
      refine lv_lstore_n (lv' := [(2, .long z19), (4, .int (nI (i16))), (0, .ref a0), (1, .ref a1)]) hx hb d_M_half_33 rfl hl (by decide) rfl (fun ls hl => ?_)
      refine lv_aload_n hx hb d_M_half_34 rfl (lv_at hl 2 rfl) ?_
      refine lv_iload hx hb d_M_half_35 (lv_at hl 1 rfl) ?_
      refine lv_lload_n hx hb d_M_half_37 rfl (lv_at hl 0 rfl) ?_
      refine lv_ldc2 (v := (65535)) hx hb hown (hts (.constantLong R_M 169 (65535)) (by decide +kernel)) d_M_half_38 ?_
      refine lv_land hx hb d_M_half_41 ?_
      refine vx_last hx hb hG hS hV f0 o0 (by omega) (by decide) d_M_half_42 (fun H locs X20 eX20 hS hV => ?_)
      refine lv_lload_n hx hb d_M_half_43 rfl (lv_at hl 0 rfl) ?_
      refine lv_bipush (v := nI 16) hx hb d_M_half_44 (by decide +kernel) ?_
      refine lv_lshr hx hb d_M_half_46 rfl ?_
      refine vx_nmL (fun z21 ez21 => ?_)
      refine lv_lstore_n (lv' := [(2, .long z21), (4, .int (nI (i16))), (0, .ref a0), (1, .ref a1)]) hx hb d_M_half_47 rfl hl (by decide) rfl (fun ls hl => ?_)
      refine lv_iinc (v := nI (i16 + 1)) (lv' := [(4, .int (nI (i16 + 1))), (2, .long z21), (0, .ref a0), (1, .ref a1)]) hx hb d_M_half_48 hl (k := 1) rfl (sx_inc _ _) (by decide) rfl (fun ls hl => ?_)
      refine lv_goto (tgt := 15) hx hb d_M_half_51 (by decide) ?_
      exact ihi16 (X20, z21) _ _ _ (by subst ez19 eX20 ez21; exact rfl) ⟨hS, hV, lv_sub hl [0, 1, 2, 3] rfl⟩
    · intro H locs ls hP
      obtain ⟨hS, hV, hl⟩ := hP
      refine lv_iload hx hb d_M_half_15 (lv_at hl 0 rfl) ?_
      refine lv_bipush (v := nI 16) hx hb d_M_half_17 (by decide +kernel) ?_
      refine lv_icmp_ge (tgt := 54) hx hb d_M_half_19 (by decide) (fun _ => ?_) (fun q => absurd (nI_le (by omega) (by omega)) q)
      refine lv_aload_n hx hb d_M_half_54 rfl (lv_at hl 2 rfl) ?_
      refine lv_bipush (v := nI 16) hx hb d_M_half_55 (by decide +kernel) ?_
      refine lv_dup2_11 hx hb d_M_half_57 rfl rfl ?_
      refine vx_lald hx hb hG hS hV f0 (by omega) (by decide) d_M_half_58 ?_
      refine lv_lload_n hx hb d_M_half_59 rfl (lv_at hl 1 rfl) ?_
      refine lv_ladd hx hb d_M_half_60 ?_
      refine vx_last hx hb hG hS hV f0 o0 (by omega) (by decide) d_M_half_61 (fun H locs X22 eX22 hS hV => ?_)
      exact jn62_9 X22 _ _ _ (by subst eR18 eX22; exact (vx_p q7_0 rfl)) hS hV (lv_sub hl [2, 3] rfl)
def LL_M_halve_2 (a0 : Nat) : Nat → vM → vM := fun i_0 s_1 => (let J_2 : Int64 := if 15 ≤ i_0 then (0 : Int64) else (((s_1.1 a0 (i_0 + 1)) &&& (1 : Int64)) <<< ((nI 15).toInt64 &&& 63)); (let X_3 : vM := stL s_1 a0 i_0 (((s_1.1 a0 i_0) >>> ((nI 1).toInt64 &&& 63)) ||| J_2); X_3))
def LF_M_halve (X : vM) (a0 : Nat) : vM := (let R3 : vM := lpU 1 (LL_M_halve_2 a0) 16 0 X; R3)
abbrev rm_M_halve : Room := { frames := 0, cells := 0, slots := 0, locals := 0 }
set_option maxHeartbeats 4000000 in
set_option maxRecDepth 100000 in
theorem v_M_halve {l : Launch} {D : va_G} {g : ClassId → FieldType → Prop} {E : Nat → Prop} {H0 : Heap} {X : vM} {a0 : Nat} (f0 : sx_A g .long H0 a0 16) (o0 : E a0) (hV : mm g H0 = X) : Met l y_M_halve (.code y_M_halve b_M_halve 2 none :: G_) rm_M_halve (sx_Pc [.ref a0] H0 D g) (vx_Qv g E H0 (LF_M_halve X a0)) 0 0 E := by
  refine vx_mv (own := R_M) (by decide) rfl rfl rfl (Nat.le_of_ble_eq_true rfl) ?_
  intro p e s m args below meth c Q ls EE hl hret
  obtain ⟨hx, hb, hml, hown, hts, hG, hK⟩ := id EE
  have hS : sx_S g E E H0 H0 [] := sx_S.rf
  have hl : lv_has ls 2 [(0, .ref a0)] := hl
  refine lv_iconst (v := nI 0) hx hb d_M_halve_0 (by decide +kernel) ?_
  refine lv_istore_n (lv' := [(1, .int (nI (0))), (0, .ref a0)]) hx hb d_M_halve_1 rfl hl (by decide) rfl (fun ls hl => ?_)
  obtain ⟨R3, eR3⟩ : ∃ t : vM, lpU 1 (LL_M_halve_2 a0) 16 0 X = t := ⟨_, rfl⟩
  refine lpU_go (σ := vM) (P := fun i1 s2 H locs ls => sx_S g E E H0 H locs ∧ mm g H = s2 ∧ lv_has ls 2 [(1, .int (nI (i1))), (0, .ref a0)]) (Wd := fun H locs ls => W p l e rm_M_halve s m args below meth c H locs 0 0 Q (F0 m 2 ls [])) (N := 16) (d := 1) (by decide) ?_ ?_ 16 0 _ (by omega) eR3 _ _ _ ⟨hS, hV, lv_sub hl [0, 1] rfl⟩
  · intro i1 s2 H locs ls hii1 hP ihi1
    obtain ⟨hS, hV, hl⟩ := hP
    refine lv_iload_n hx hb d_M_halve_2 rfl (lv_at hl 0 rfl) ?_
    refine lv_bipush (v := nI 16) hx hb d_M_halve_3 (by decide +kernel) ?_
    refine lv_icmp_ge (tgt := 43) hx hb d_M_halve_5 (by decide) (fun q => absurd q (nI_ge (by omega) (by omega))) (fun _ => ?_)
    refine lv_aload_n hx hb d_M_halve_8 rfl (lv_at hl 1 rfl) ?_
    refine lv_iload_n hx hb d_M_halve_9 rfl (lv_at hl 0 rfl) ?_
    refine lv_aload_n hx hb d_M_halve_10 rfl (lv_at hl 1 rfl) ?_
    refine lv_iload_n hx hb d_M_halve_11 rfl (lv_at hl 0 rfl) ?_
    refine vx_lald hx hb hG hS hV f0 (by omega) (by decide) d_M_halve_12 ?_
    refine lv_iconst (v := nI 1) hx hb d_M_halve_13 (by decide +kernel) ?_
    refine lv_lshr hx hb d_M_halve_14 rfl ?_
    refine lv_iload_n hx hb d_M_halve_15 rfl (lv_at hl 0 rfl) ?_
    refine lv_bipush (v := nI 15) hx hb d_M_halve_16 (by decide +kernel) ?_
    have jn35_5 : ∀ (J5 : Int64) (H : Heap) (locs : List Loc) (ls : Array Slot), (if 15 ≤ i1 then (0 : Int64) else (((s2.1 a0 (i1 + 1)) &&& (1 : Int64)) <<< ((nI 15).toInt64 &&& 63))) = J5 → sx_S g E E H0 H locs → mm g H = s2 → lv_has ls 2 [(1, .int (nI (i1))), (0, .ref a0)] → W p l e rm_M_halve s m args below meth c H locs 0 0 Q (F0 m 35 ls [.long J5, .long ((s2.1 a0 i1) >>> ((nI 1).toInt64 &&& 63)), .int (nI (i1)), .ref a0]) := by
      intro J5 H locs ls eJ5 hS hV hl
      refine lv_lor hx hb d_M_halve_35 ?_
      refine vx_last hx hb hG hS hV f0 o0 (by omega) (by decide) d_M_halve_36 (fun H locs X7 eX7 hS hV => ?_)
      refine lv_iinc (v := nI (i1 + 1)) (lv' := [(1, .int (nI (i1 + 1))), (0, .ref a0)]) hx hb d_M_halve_37 hl (k := 0) rfl (sx_inc _ _) (by decide) rfl (fun ls hl => ?_)
      refine lv_goto (tgt := 2) hx hb d_M_halve_40 (by decide) ?_
      exact ihi1 X7 _ _ _ (by subst eJ5 eX7; exact rfl) ⟨hS, hV, lv_sub hl [0, 1] rfl⟩
    refine lv_icmp_ge (tgt := 34) hx hb d_M_halve_18 (by decide) (fun q18_3 => ?_) (fun q18_3 => ?_)
    · skip
      have q18_3 : 15 ≤ i1 := (nI_leI (a := 15) (b := i1) (by omega) (by omega)).mp q18_3
      refine lv_lconst (v := 0) hx hb d_M_halve_34 (by decide +kernel) ?_
      exact jn35_5 (0 : Int64) _ _ _ (vx_p q18_3 rfl) hS hV (lv_sub hl [0, 1] rfl)
    · skip
      have q18_3 : ¬ (15 ≤ i1) := fun z => q18_3 ((nI_leI (a := 15) (b := i1) (by omega) (by omega)).mpr z)
      refine lv_aload_n hx hb d_M_halve_21 rfl (lv_at hl 1 rfl) ?_
      refine lv_iload_n hx hb d_M_halve_22 rfl (lv_at hl 0 rfl) ?_
      refine lv_iconst (v := nI 1) hx hb d_M_halve_23 (by decide +kernel) ?_
      refine lv_iadd hx hb d_M_halve_24 ?_
      refine sx_ti (y := nI (i1 + 1)) (nI_add _ _) ?_
      refine vx_lald hx hb hG hS hV f0 (by omega) (by decide) d_M_halve_25 ?_
      refine lv_lconst (v := 1) hx hb d_M_halve_26 (by decide +kernel) ?_
      refine lv_land hx hb d_M_halve_27 ?_
      refine lv_bipush (v := nI 15) hx hb d_M_halve_28 (by decide +kernel) ?_
      refine lv_lshl hx hb d_M_halve_30 rfl ?_
      refine lv_goto (tgt := 35) hx hb d_M_halve_31 (by decide) ?_
      exact jn35_5 (((s2.1 a0 (i1 + 1)) &&& (1 : Int64)) <<< ((nI 15).toInt64 &&& 63)) _ _ _ (vx_n q18_3 rfl) hS hV (lv_sub hl [0, 1] rfl)
  · intro H locs ls hP
    obtain ⟨hS, hV, hl⟩ := hP
    refine lv_iload_n hx hb d_M_halve_2 rfl (lv_at hl 0 rfl) ?_
    refine lv_bipush (v := nI 16) hx hb d_M_halve_3 (by decide +kernel) ?_
    refine lv_icmp_ge (tgt := 43) hx hb d_M_halve_5 (by decide) (fun _ => ?_) (fun q => absurd (nI_le (by omega) (by omega)) q)
    exact hret _ _ _ _ _ (by subst eR3; exact rfl) hS hV d_M_halve_43
def LL_M_one_12 (X : vM) (a0 : Nat) : Nat → Unit → Bool ⊕ Unit := fun i_0 s_1 => if (X.1 a0 i_0) = (0 : Int64) then (Sum.inr ()) else (Sum.inl (false))
def LF_M_one (X : vM) (a0 : Nat) : Bool := if (X.1 a0 0) = (1 : Int64) then (Sum.elim (fun r => r) (fun (s6 : Unit) => true) (lpE 1 (LL_M_one_12 X a0) 15 1 ())) else false
abbrev rm_M_one : Room := { frames := 0, cells := 0, slots := 0, locals := 0 }
set_option maxHeartbeats 4000000 in
set_option maxRecDepth 100000 in
theorem v_M_one {l : Launch} {D : va_G} {g : ClassId → FieldType → Prop} {E : Nat → Prop} {H0 : Heap} {X : vM} {a0 : Nat} (f0 : sx_A g .long H0 a0 16) (hV : mm g H0 = X) : Met l y_M_one (.code y_M_one b_M_one 2 (some .boolean) :: G_) rm_M_one (sx_Pc [.ref a0] H0 D g) (vx_Qi g E H0 X (nI ((LF_M_one X a0)).toNat)) 0 0 E := by
  refine vx_mz (own := R_M) (by decide) rfl rfl rfl (Nat.le_of_ble_eq_true rfl) ?_
  intro p e s m args below meth c Q ls EE hl hret
  obtain ⟨hx, hb, hml, hown, hts, hG, hK⟩ := id EE
  have hS : sx_S g E E H0 H0 [] := sx_S.rf
  have hl : lv_has ls 2 [(0, .ref a0)] := hl
  refine lv_aload_n hx hb d_M_one_0 rfl (lv_at hl 0 rfl) ?_
  refine lv_iconst (v := nI 0) hx hb d_M_one_1 (by decide +kernel) ?_
  refine vx_lald hx hb hG hS hV f0 (by omega) (by decide) d_M_one_2 ?_
  refine lv_lconst (v := 1) hx hb d_M_one_3 (by decide +kernel) ?_
  refine W.lcmp hx hb d_M_one_4 ?_
  refine lv_if_eq (tgt := 10) hx hb d_M_one_5 (by decide) (fun q5_0 => ?_) (fun q5_0 => ?_)
  · skip
    have q5_0 := (lg_cmp_eq _ _).mp q5_0
    refine lv_iconst (v := nI 1) hx hb d_M_one_10 (by decide +kernel) ?_
    refine lv_istore_n (lv' := [(1, .int (nI (1))), (0, .ref a0)]) hx hb d_M_one_11 rfl hl (by decide) rfl (fun ls hl => ?_)
    obtain ⟨R4, eR4⟩ : ∃ t : (Bool ⊕ Unit), lpE 1 (LL_M_one_12 X a0) 15 1 () = t := ⟨_, rfl⟩
    refine lpE_go (σ := Unit) (P := fun i2 s3 H locs ls => 1 ≤ i2 ∧ sx_S g E E H0 H locs ∧ mm g H = X ∧ lv_has ls 2 [(1, .int (nI (i2))), (0, .ref a0)]) (Wd := fun H locs ls => W p l e rm_M_one s m args below meth c H locs 0 0 Q (F0 m 12 ls [])) (N := 16) (d := 1) (by decide) ?_ ?_ 15 1 _ (by omega) eR4 _ _ _ ⟨(by omega), hS, hV, lv_sub hl [0, 1] rfl⟩
    · intro i2 s3 H locs ls hii2 hP ihi2 hxR4
      obtain ⟨hxs3_0, hS, hV, hl⟩ := hP
      refine lv_iload_n hx hb d_M_one_12 rfl (lv_at hl 0 rfl) ?_
      refine lv_bipush (v := nI 16) hx hb d_M_one_13 (by decide +kernel) ?_
      refine lv_icmp_ge (tgt := 34) hx hb d_M_one_15 (by decide) (fun q => absurd q (nI_ge (by omega) (by omega))) (fun _ => ?_)
      refine lv_aload_n hx hb d_M_one_18 rfl (lv_at hl 1 rfl) ?_
      refine lv_iload_n hx hb d_M_one_19 rfl (lv_at hl 0 rfl) ?_
      refine vx_lald hx hb hG hS hV f0 (by omega) (by decide) d_M_one_20 ?_
      refine lv_lconst (v := 0) hx hb d_M_one_21 (by decide +kernel) ?_
      refine W.lcmp hx hb d_M_one_22 ?_
      refine lv_if_eq (tgt := 28) hx hb d_M_one_23 (by decide) (fun q23_4 => ?_) (fun q23_4 => ?_)
      · skip
        have q23_4 := (lg_cmp_eq _ _).mp q23_4
        refine lv_iinc (v := nI (i2 + 1)) (lv' := [(1, .int (nI (i2 + 1))), (0, .ref a0)]) hx hb d_M_one_28 hl (k := 0) rfl (sx_inc _ _) (by decide) rfl (fun ls hl => ?_)
        refine lv_goto (tgt := 12) hx hb d_M_one_31 (by decide) ?_
        exact ihi2 () _ _ _ (vx_p q23_4 rfl) ⟨(by omega), hS, hV, lv_sub hl [0, 1] rfl⟩
      · skip
        have q23_4 : ¬ ((X.1 a0 i2) = (0 : Int64)) := fun z => q23_4 ((lg_cmp_eq _ _).mpr z)
        refine lv_iconst (v := nI 0) hx hb d_M_one_26 (by decide +kernel) ?_
        have hrR4 := hxR4 (false) (vx_n q23_4 rfl)
        exact hret _ _ _ _ _ false _ rfl (by subst eR4; exact (vx_p q5_0 (vx_l hrR4 rfl))) rfl hS hV d_M_one_27
    · intro s6 H locs ls erR4 hP
      obtain ⟨hxs6_0, hS, hV, hl⟩ := hP
      refine lv_iload_n hx hb d_M_one_12 rfl (lv_at hl 0 rfl) ?_
      refine lv_bipush (v := nI 16) hx hb d_M_one_13 (by decide +kernel) ?_
      refine lv_icmp_ge (tgt := 34) hx hb d_M_one_15 (by decide) (fun _ => ?_) (fun q => absurd (nI_le (by omega) (by omega)) q)
      refine lv_iconst (v := nI 1) hx hb d_M_one_34 (by decide +kernel) ?_
      exact hret _ _ _ _ _ true _ rfl (by subst eR4; exact (vx_p q5_0 (vx_r erR4 rfl))) rfl hS hV d_M_one_35
  · skip
    have q5_0 : ¬ ((X.1 a0 0) = (1 : Int64)) := fun z => q5_0 ((lg_cmp_eq _ _).mpr z)
    refine lv_iconst (v := nI 0) hx hb d_M_one_8 (by decide +kernel) ?_
    exact hret _ _ _ _ _ false _ rfl (vx_n q5_0 rfl) rfl hS hV d_M_one_9
def LF_M_bit (X : vM) (a0 : Nat) (v1 : Nat) : Int32 := ((((X.1 a0 (v1 / 16)) >>> ((nI (v1 % 16)).toInt64 &&& 63)) &&& (1 : Int64)).toInt32)
abbrev rm_M_bit : Room := { frames := 0, cells := 0, slots := 0, locals := 0 }
set_option maxHeartbeats 4000000 in
set_option maxRecDepth 100000 in
theorem v_M_bit {l : Launch} {D : va_G} {g : ClassId → FieldType → Prop} {E : Nat → Prop} {H0 : Heap} {X : vM} {a0 : Nat} {v1 : Nat} (f0 : sx_A g .long H0 a0 16) (h1 : v1 < 256) (hV : mm g H0 = X) : Met l y_M_bit (.code y_M_bit b_M_bit 2 (some .int) :: G_) rm_M_bit (sx_Pc [.ref a0, .int (nI v1)] H0 D g) (vx_Qi g E H0 X (LF_M_bit X a0 v1)) 0 0 E := by
  refine vx_mi (own := R_M) (by decide) rfl rfl rfl (Nat.le_of_ble_eq_true rfl) ?_
  intro p e s m args below meth c Q ls EE hl hret
  obtain ⟨hx, hb, hml, hown, hts, hG, hK⟩ := id EE
  have hS : sx_S g E E H0 H0 [] := sx_S.rf
  have hl : lv_has ls 2 [(0, .ref a0), (1, .int (nI (v1)))] := hl
  refine lv_aload_n hx hb d_M_bit_0 rfl (lv_at hl 0 rfl) ?_
  refine lv_iload_n hx hb d_M_bit_1 rfl (lv_at hl 1 rfl) ?_
  refine lv_iconst (v := nI 4) hx hb d_M_bit_2 (by decide +kernel) ?_
  refine lv_ishr hx hb d_M_bit_3 ?_
  refine sx_ti (y := nI (v1 / 16)) (pk_shrN (by omega) _ 4 (by decide +kernel)) ?_
  refine vx_lald hx hb hG hS hV f0 (by omega) (by decide) d_M_bit_4 ?_
  refine lv_iload_n hx hb d_M_bit_5 rfl (lv_at hl 1 rfl) ?_
  refine lv_bipush (v := nI 15) hx hb d_M_bit_6 (by decide +kernel) ?_
  refine lv_iand hx hb d_M_bit_8 ?_
  refine sx_ti (y := nI (v1 % 16)) (pk_andN (by omega) 4 (by decide +kernel)) ?_
  refine lv_lshr hx hb d_M_bit_9 rfl ?_
  refine lv_lconst (v := 1) hx hb d_M_bit_10 (by decide +kernel) ?_
  refine lv_land hx hb d_M_bit_11 ?_
  refine lv_l2i hx hb d_M_bit_12 rfl ?_
  exact hret _ _ _ _ _ _ rfl rfl hS hV d_M_bit_13
def LF_M_turned (X : vM) (v0 : Int64) (v1 : Int32) : Int64 := ((((v0).toUInt64 >>> (v1.toInt64.toUInt64 &&& Int64.toUInt64 63)).toInt64) ||| (v0 <<< (((nI 64) - v1).toInt64 &&& 63)))
abbrev rm_M_turned : Room := { frames := 0, cells := 0, slots := 0, locals := 0 }
set_option maxHeartbeats 4000000 in
set_option maxRecDepth 100000 in
theorem v_M_turned {l : Launch} {D : va_G} {g : ClassId → FieldType → Prop} {E : Nat → Prop} {H0 : Heap} {X : vM} {v0 : Int64} {v1 : Int32}  (hV : mm g H0 = X) : Met l y_M_turned (.code y_M_turned b_M_turned 3 (some .long) :: G_) rm_M_turned (sx_Pc [.long v0, .int v1] H0 D g) (vx_Ql g E H0 X (LF_M_turned X v0 v1)) 0 0 E := by
  refine vx_ml (own := R_M) (by decide) rfl rfl rfl (Nat.le_of_ble_eq_true rfl) ?_
  intro p e s m args below meth c Q ls EE hl hret
  obtain ⟨hx, hb, hml, hown, hts, hG, hK⟩ := id EE
  have hS : sx_S g E E H0 H0 [] := sx_S.rf
  have hl : lv_has ls 3 [(0, .long v0), (2, .int v1)] := hl
  refine lv_lload_n hx hb d_M_turned_0 rfl (lv_at hl 0 rfl) ?_
  refine lv_iload_n hx hb d_M_turned_1 rfl (lv_at hl 1 rfl) ?_
  refine lv_lushr hx hb d_M_turned_2 rfl ?_
  refine lv_lload_n hx hb d_M_turned_3 rfl (lv_at hl 0 rfl) ?_
  refine lv_bipush (v := nI 64) hx hb d_M_turned_4 (by decide +kernel) ?_
  refine lv_iload_n hx hb d_M_turned_6 rfl (lv_at hl 1 rfl) ?_
  refine lv_isub hx hb d_M_turned_7 ?_
  refine lv_lshl hx hb d_M_turned_8 rfl ?_
  refine lv_lor hx hb d_M_turned_9 ?_
  exact hret _ _ _ _ _ _ rfl rfl hS hV d_M_turned_10
