def LF_M_padded (X : vM) (a0 : Nat) (v1 : Nat) (v2 : Nat) (v3 : Nat) : Int32 := if v1 ≤ v2 then (if v2 = v1 then (nI 128) else (let J4 : Int32 := if (v3 - 8) ≤ v2 then (((((((8 : Int64) * ((nI v1).toInt64))).toUInt64 >>> ((nI (8 * ((v3 - 1) - v2))).toInt64.toUInt64 &&& Int64.toUInt64 63)).toInt64).toInt32) &&& (nI 255)) else (nI 0); J4)) else ((X.2 a0 v2) &&& (nI 255))
abbrev rm_M_padded : Room := { frames := 0, cells := 0, slots := 0, locals := 0 }
set_option maxHeartbeats 4000000 in
set_option maxRecDepth 100000 in
theorem v_M_padded {l : Launch} {D : va_G} {g : ClassId → FieldType → Prop} {E : Nat → Prop} {H0 : Heap} {X : vM} {a0 : Nat} {v1 : Nat} {v2 : Nat} {v3 : Nat} (f0 : sx_A g .byte H0 a0 65664) (h1 : v1 ≤ 65600) (h2 : v2 < v3) (h3 : 18 ≤ v3 ∧ v3 ≤ 65792) (hV : mm g H0 = X) : Met l y_M_padded (.code y_M_padded b_M_padded 4 (some .int) :: G_) rm_M_padded (sx_Pc [.ref a0, .int (nI v1), .int (nI v2), .int (nI v3)] H0 D g) (vx_Qi g E H0 X (LF_M_padded X a0 v1 v2 v3)) 0 0 E := by
  refine vx_mi (own := R_M) (by decide) rfl rfl rfl (Nat.le_of_ble_eq_true rfl) ?_
  intro p e s m args below meth c Q ls EE hl hret
  obtain ⟨hx, hb, hml, hown, hts, hG, hK⟩ := id EE
  have hS : sx_S g E E H0 H0 [] := sx_S.rf
  have hl : lv_has ls 4 [(0, .ref a0), (1, .int (nI (v1))), (2, .int (nI (v2))), (3, .int (nI (v3)))] := hl
  refine lv_iload_n hx hb d_M_padded_0 rfl (lv_at hl 2 rfl) ?_
  refine lv_iload_n hx hb d_M_padded_1 rfl (lv_at hl 1 rfl) ?_
  refine lv_icmp_ge (tgt := 13) hx hb d_M_padded_2 (by decide) (fun q2_0 => ?_) (fun q2_0 => ?_)
  · skip
    have q2_0 : v1 ≤ v2 := (nI_leI (a := v1) (b := v2) (by omega) (by omega)).mp q2_0
    refine lv_iload_n hx hb d_M_padded_13 rfl (lv_at hl 2 rfl) ?_
    refine lv_iload_n hx hb d_M_padded_14 rfl (lv_at hl 1 rfl) ?_
    refine lv_icmp_ne (tgt := 22) hx hb d_M_padded_15 (by decide) (fun q15_1 => ?_) (fun q15_1 => ?_)
    · skip
      have q15_1 : ¬ (v2 = v1) := fun z => q15_1 ((nI_eq (a := v2) (b := v1) (by omega) (by omega)).mpr z)
      refine lv_iload_n hx hb d_M_padded_22 rfl (lv_at hl 2 rfl) ?_
      refine lv_iload_n hx hb d_M_padded_23 rfl (lv_at hl 3 rfl) ?_
      refine lv_bipush (v := nI 8) hx hb d_M_padded_24 (by decide +kernel) ?_
      refine lv_isub hx hb d_M_padded_26 ?_
      refine sx_ti (y := nI (v3 - 8)) (pk_sub (by omega)) ?_
      have jn54_4 : ∀ (J4 : Int32) (H : Heap) (locs : List Loc) (ls : Array Slot), (if (v3 - 8) ≤ v2 then (((((((8 : Int64) * ((nI v1).toInt64))).toUInt64 >>> ((nI (8 * ((v3 - 1) - v2))).toInt64.toUInt64 &&& Int64.toUInt64 63)).toInt64).toInt32) &&& (nI 255)) else (nI 0)) = J4 → sx_S g E E H0 H locs → mm g H = X → lv_has ls 4 [(0, .ref a0), (1, .int (nI (v1))), (2, .int (nI (v2))), (3, .int (nI (v3)))] → W p l e rm_M_padded s m args below meth c H locs 0 0 Q (F0 m 54 ls [.int J4]) := by
        intro J4 H locs ls eJ4 hS hV hl
        exact hret _ _ _ _ _ _ rfl (by subst eJ4; exact (vx_p q2_0 (vx_n q15_1 rfl))) hS hV d_M_padded_54
      refine lv_icmp_ge (tgt := 34) hx hb d_M_padded_27 (by decide) (fun q27_2 => ?_) (fun q27_2 => ?_)
      · skip
        have q27_2 : (v3 - 8) ≤ v2 := (nI_leI (a := (v3 - 8)) (b := v2) (by omega) (by omega)).mp q27_2
        refine lv_ldc2 (v := (8)) hx hb hown (hts (.constantLong R_M 258 (8)) (by decide +kernel)) d_M_padded_34 ?_
        refine lv_iload_n hx hb d_M_padded_37 rfl (lv_at hl 1 rfl) ?_
        refine lv_i2l hx hb d_M_padded_38 rfl ?_
        refine lv_lmul hx hb d_M_padded_39 ?_
        refine lv_bipush (v := nI 8) hx hb d_M_padded_40 (by decide +kernel) ?_
        refine lv_iload_n hx hb d_M_padded_42 rfl (lv_at hl 3 rfl) ?_
        refine lv_iconst (v := nI 1) hx hb d_M_padded_43 (by decide +kernel) ?_
        refine lv_isub hx hb d_M_padded_44 ?_
        refine sx_ti (y := nI (v3 - 1)) (pk_sub (by omega)) ?_
        refine lv_iload_n hx hb d_M_padded_45 rfl (lv_at hl 2 rfl) ?_
        refine lv_isub hx hb d_M_padded_46 ?_
        refine sx_ti (y := nI ((v3 - 1) - v2)) (pk_sub (by omega)) ?_
        refine lv_imul hx hb d_M_padded_47 ?_
        refine sx_ti (y := nI (8 * ((v3 - 1) - v2))) (pk_mul _ _) ?_
        refine lv_lushr hx hb d_M_padded_48 rfl ?_
        refine lv_l2i hx hb d_M_padded_49 rfl ?_
        refine lv_sipush (v := nI 255) hx hb d_M_padded_50 (by decide +kernel) ?_
        refine lv_iand hx hb d_M_padded_53 ?_
        exact jn54_4 (((((((8 : Int64) * ((nI v1).toInt64))).toUInt64 >>> ((nI (8 * ((v3 - 1) - v2))).toInt64.toUInt64 &&& Int64.toUInt64 63)).toInt64).toInt32) &&& (nI 255)) _ _ _ (vx_p q27_2 rfl) hS hV (lv_sub hl [0, 1, 2, 3] rfl)
      · skip
        have q27_2 : ¬ ((v3 - 8) ≤ v2) := fun z => q27_2 ((nI_leI (a := (v3 - 8)) (b := v2) (by omega) (by omega)).mpr z)
        refine lv_iconst (v := nI 0) hx hb d_M_padded_30 (by decide +kernel) ?_
        refine lv_goto (tgt := 54) hx hb d_M_padded_31 (by decide) ?_
        exact jn54_4 (nI 0) _ _ _ (vx_n q27_2 rfl) hS hV (lv_sub hl [0, 1, 2, 3] rfl)
    · skip
      have q15_1 : v2 = v1 := (nI_eq (a := v2) (b := v1) (by omega) (by omega)).mp q15_1
      refine lv_sipush (v := nI 128) hx hb d_M_padded_18 (by decide +kernel) ?_
      exact hret _ _ _ _ _ _ rfl (vx_p q2_0 (vx_p q15_1 rfl)) hS hV d_M_padded_21
  · skip
    have q2_0 : ¬ (v1 ≤ v2) := fun z => q2_0 ((nI_leI (a := v1) (b := v2) (by omega) (by omega)).mpr z)
    refine lv_aload_n hx hb d_M_padded_5 rfl (lv_at hl 0 rfl) ?_
    refine lv_iload_n hx hb d_M_padded_6 rfl (lv_at hl 2 rfl) ?_
    refine vx_bald hx hb hG hS hV f0 (by omega) (by decide) d_M_padded_7 ?_
    refine lv_sipush (v := nI 255) hx hb d_M_padded_8 (by decide +kernel) ?_
    refine lv_iand hx hb d_M_padded_11 ?_
    exact hret _ _ _ _ _ _ rfl (vx_n q2_0 rfl) hS hV d_M_padded_12
def LL_M_over_3 (r : Nat → Nat) : Nat → vM → vM := fun i_0 s_1 => (let z_2 : Int64 := (s_1.1 (r 48) (i_0 - 15)); let z_3 : Int64 := (s_1.1 (r 48) (i_0 - 2)); let X_4 : vM := stL s_1 (r 48) i_0 ((((s_1.1 (r 48) (i_0 - 16)) + (((LF_M_turned s_1 z_2 (nI 1)) ^^^ (LF_M_turned s_1 z_2 (nI 8))) ^^^ (((z_2).toUInt64 >>> ((nI 7).toInt64.toUInt64 &&& Int64.toUInt64 63)).toInt64))) + (s_1.1 (r 48) (i_0 - 7))) + (((LF_M_turned s_1 z_3 (nI 19)) ^^^ (LF_M_turned s_1 z_3 (nI 61))) ^^^ (((z_3).toUInt64 >>> ((nI 6).toInt64.toUInt64 &&& Int64.toUInt64 63)).toInt64))); X_4)
def LL_M_over_167 (R_0 : vM) (r : Nat → Nat) : Nat → (Int64 × Int64 × Int64 × Int64 × Int64 × Int64 × Int64 × Int64) → (Int64 × Int64 × Int64 × Int64 × Int64 × Int64 × Int64 × Int64) := fun i_1 s_2 => (let z_3 : Int64 := ((((s_2.1 + (((LF_M_turned R_0 s_2.2.2.2.1 (nI 14)) ^^^ (LF_M_turned R_0 s_2.2.2.2.1 (nI 18))) ^^^ (LF_M_turned R_0 s_2.2.2.2.1 (nI 41)))) + ((s_2.2.2.2.1 &&& s_2.2.2.1) ^^^ ((s_2.2.2.2.1 ^^^ (-1 : Int64)) &&& s_2.2.1))) + (R_0.1 (r 46) i_1)) + (R_0.1 (r 48) i_1)); let z_4 : Int64 := ((((LF_M_turned R_0 s_2.2.2.2.2.2.2.2 (nI 28)) ^^^ (LF_M_turned R_0 s_2.2.2.2.2.2.2.2 (nI 34))) ^^^ (LF_M_turned R_0 s_2.2.2.2.2.2.2.2 (nI 39))) + (((s_2.2.2.2.2.2.2.2 &&& s_2.2.2.2.2.2.2.1) ^^^ (s_2.2.2.2.2.2.2.2 &&& s_2.2.2.2.2.2.1)) ^^^ (s_2.2.2.2.2.2.2.1 &&& s_2.2.2.2.2.2.1))); let z_5 : Int64 := (s_2.2.2.2.2.1 + z_3); let z_6 : Int64 := (z_3 + z_4); (s_2.2.1, s_2.2.2.1, s_2.2.2.2.1, z_5, s_2.2.2.2.2.2.1, s_2.2.2.2.2.2.2.1, s_2.2.2.2.2.2.2.2, z_6))
def LF_M_over (X : vM) (r : Nat → Nat) : vM := (let R3 : vM := lpU 1 (LL_M_over_3 r) 64 16 X; (let z7 : Int64 := (R3.1 (r 49) 0); let z8 : Int64 := (R3.1 (r 49) 1); let z9 : Int64 := (R3.1 (r 49) 2); let z10 : Int64 := (R3.1 (r 49) 3); let z11 : Int64 := (R3.1 (r 49) 4); let z12 : Int64 := (R3.1 (r 49) 5); let z13 : Int64 := (R3.1 (r 49) 6); let z14 : Int64 := (R3.1 (r 49) 7); let R17 : (Int64 × Int64 × Int64 × Int64 × Int64 × Int64 × Int64 × Int64) := lpU 1 (LL_M_over_167 R3 r) 80 0 (z14, z13, z12, z11, z10, z9, z8, z7); (let X22 : vM := stL R3 (r 49) 0 ((R3.1 (r 49) 0) + R17.2.2.2.2.2.2.2); let X23 : vM := stL X22 (r 49) 1 ((X22.1 (r 49) 1) + R17.2.2.2.2.2.2.1); let X24 : vM := stL X23 (r 49) 2 ((X23.1 (r 49) 2) + R17.2.2.2.2.2.1); let X25 : vM := stL X24 (r 49) 3 ((X24.1 (r 49) 3) + R17.2.2.2.2.1); let X26 : vM := stL X25 (r 49) 4 ((X25.1 (r 49) 4) + R17.2.2.2.1); let X27 : vM := stL X26 (r 49) 5 ((X26.1 (r 49) 5) + R17.2.2.1); let X28 : vM := stL X27 (r 49) 6 ((X27.1 (r 49) 6) + R17.2.1); let X29 : vM := stL X28 (r 49) 7 ((X28.1 (r 49) 7) + R17.1); X29)))
abbrev rm_M_over : Room := { frames := 1, cells := 0, slots := 0, locals := 22 }
set_option maxHeartbeats 4000000 in
set_option maxRecDepth 100000 in
theorem v_M_over {l : Launch} {D : va_G} {g : ClassId → FieldType → Prop} {E : Nat → Prop} {H0 : Heap} {X : vM} {o : Nat} {r : Nat → Nat} {i : Nat → Int32} (hM : mo_ D g H0 o r i) (hE : ¬ E o) (hW : ∀ q ∈ mo_wr, E (r q.1)) (hV : mm g H0 = X) : Met l y_M_over (.code y_M_over b_M_over 22 none :: G_) rm_M_over (sx_Pc [.ref o] H0 D g) (vx_Qv g E H0 (LF_M_over X r)) 0 0 E := by
  refine vx_mv (own := R_M) (by decide) rfl rfl rfl (Nat.le_of_ble_eq_true rfl) ?_
  intro p e s m args below meth c Q ls EE hl hret
  obtain ⟨hx, hb, hml, hown, hts, hG, hK⟩ := id EE
  have hS : sx_S g E E H0 H0 [] := sx_S.rf
  have hl : lv_has ls 22 [(0, .ref o)] := hl
  refine lv_bipush (v := nI 16) hx hb d_M_over_0 (by decide +kernel) ?_
  refine lv_istore_n (lv' := [(1, .int (nI (16))), (0, .ref o)]) hx hb d_M_over_2 rfl hl (by decide) rfl (fun ls hl => ?_)
  obtain ⟨R3, eR3⟩ : ∃ t : vM, lpU 1 (LL_M_over_3 r) 64 16 X = t := ⟨_, rfl⟩
  refine lpU_go (σ := vM) (P := fun i1 s2 H locs ls => 16 ≤ i1 ∧ sx_S g E E H0 H locs ∧ mm g H = s2 ∧ lv_has ls 22 [(1, .int (nI (i1))), (0, .ref o)]) (Wd := fun H locs ls => W p l e rm_M_over s m args below meth c H locs 0 0 Q (F0 m 3 ls [])) (N := 80) (d := 1) (by decide) ?_ ?_ 64 16 _ (by omega) eR3 _ _ _ ⟨(by omega), hS, hV, lv_sub hl [0, 1] rfl⟩
  · intro i1 s2 H locs ls hii1 hP ihi1
    obtain ⟨hxs2_0, hS, hV, hl⟩ := hP
    refine lv_iload_n hx hb d_M_over_3 rfl (lv_at hl 0 rfl) ?_
    refine lv_bipush (v := nI 80) hx hb d_M_over_4 (by decide +kernel) ?_
    refine lv_icmp_ge (tgt := 100) hx hb d_M_over_6 (by decide) (fun q => absurd q (nI_ge (by omega) (by omega))) (fun _ => ?_)
    refine lv_aload_n hx hb d_M_over_9 rfl (lv_at hl 1 rfl) ?_
    refine sx_get EE (hS.1.ob hE hM.1) rfl i_M 48 (by decide) rfl fl_M_147 rfl d_M_over_10 ?_
    refine lv_iload_n hx hb d_M_over_13 rfl (lv_at hl 0 rfl) ?_
    refine lv_bipush (v := nI 15) hx hb d_M_over_14 (by decide +kernel) ?_
    refine lv_isub hx hb d_M_over_16 ?_
    refine sx_ti (y := nI (i1 - 15)) (pk_sub (by omega)) ?_
    refine vx_lald hx hb hG hS hV (mo_48 hM) (by omega) (by decide) d_M_over_17 ?_
    refine vx_nmL (fun z4 ez4 => ?_)
    refine lv_lstore_n (lv' := [(2, .long z4), (1, .int (nI (i1))), (0, .ref o)]) hx hb d_M_over_18 rfl hl (by decide) rfl (fun ls hl => ?_)
    refine lv_aload_n hx hb d_M_over_19 rfl (lv_at hl 2 rfl) ?_
    refine sx_get EE (hS.1.ob hE hM.1) rfl i_M 48 (by decide) rfl fl_M_147 rfl d_M_over_20 ?_
    refine lv_iload_n hx hb d_M_over_23 rfl (lv_at hl 1 rfl) ?_
    refine lv_iconst (v := nI 2) hx hb d_M_over_24 (by decide +kernel) ?_
    refine lv_isub hx hb d_M_over_25 ?_
    refine sx_ti (y := nI (i1 - 2)) (pk_sub (by omega)) ?_
    refine vx_lald hx hb hG hS hV (mo_48 hM) (by omega) (by decide) d_M_over_26 ?_
    refine vx_nmL (fun z5 ez5 => ?_)
    refine lv_lstore (lv' := [(4, .long z5), (2, .long z4), (1, .int (nI (i1))), (0, .ref o)]) hx hb d_M_over_27 hl (by decide) rfl (fun ls hl => ?_)
    refine lv_aload_n hx hb d_M_over_29 rfl (lv_at hl 3 rfl) ?_
    refine sx_get EE (hS.1.ob hE hM.1) rfl i_M 48 (by decide) rfl fl_M_147 rfl d_M_over_30 ?_
    refine lv_iload_n hx hb d_M_over_33 rfl (lv_at hl 2 rfl) ?_
    refine lv_aload_n hx hb d_M_over_34 rfl (lv_at hl 3 rfl) ?_
    refine sx_get EE (hS.1.ob hE hM.1) rfl i_M 48 (by decide) rfl fl_M_147 rfl d_M_over_35 ?_
    refine lv_iload_n hx hb d_M_over_38 rfl (lv_at hl 2 rfl) ?_
    refine lv_bipush (v := nI 16) hx hb d_M_over_39 (by decide +kernel) ?_
    refine lv_isub hx hb d_M_over_41 ?_
    refine sx_ti (y := nI (i1 - 16)) (pk_sub (by omega)) ?_
    refine vx_lald hx hb hG hS hV (mo_48 hM) (by omega) (by decide) d_M_over_42 ?_
    refine lv_lload_n hx hb d_M_over_43 rfl (lv_at hl 1 rfl) ?_
    refine lv_iconst (v := nI 1) hx hb d_M_over_44 (by decide +kernel) ?_
    refine vx_gl (sx_runS (As := [.long z4, .int (nI (1))]) (rest := [.long (s2.1 (r 48) (i1 - 16)), .int (nI (i1)), .ref (r 48)]) EE (v_M_turned (X := s2) hV) w_M_267 rfl ⟨rfl, rfl⟩ ⟨Nat.le_of_ble_eq_true rfl, Nat.le_of_ble_eq_true rfl⟩ ⟨Nat.zero_le _, Nat.zero_le _⟩ hl.1 rfl (Nat.le_of_ble_eq_true rfl) d_M_over_45) hS (fun H locs X_ eX_ hS hV => ?_)
    subst eX_
    refine lv_lload_n hx hb d_M_over_48 rfl (lv_at hl 1 rfl) ?_
    refine lv_bipush (v := nI 8) hx hb d_M_over_49 (by decide +kernel) ?_
    refine vx_gl (sx_runS (As := [.long z4, .int (nI (8))]) (rest := [.long (LF_M_turned s2 z4 (nI 1)), .long (s2.1 (r 48) (i1 - 16)), .int (nI (i1)), .ref (r 48)]) EE (v_M_turned (X := s2) hV) w_M_267 rfl ⟨rfl, rfl⟩ ⟨Nat.le_of_ble_eq_true rfl, Nat.le_of_ble_eq_true rfl⟩ ⟨Nat.zero_le _, Nat.zero_le _⟩ hl.1 rfl (Nat.le_of_ble_eq_true rfl) d_M_over_51) hS (fun H locs X_ eX_ hS hV => ?_)
    subst eX_
    refine lv_lxor hx hb d_M_over_54 ?_
    refine lv_lload_n hx hb d_M_over_55 rfl (lv_at hl 1 rfl) ?_
    refine lv_bipush (v := nI 7) hx hb d_M_over_56 (by decide +kernel) ?_
    refine lv_lushr hx hb d_M_over_58 rfl ?_
    refine lv_lxor hx hb d_M_over_59 ?_
    refine lv_ladd hx hb d_M_over_60 ?_
    refine lv_aload_n hx hb d_M_over_61 rfl (lv_at hl 3 rfl) ?_
    refine sx_get EE (hS.1.ob hE hM.1) rfl i_M 48 (by decide) rfl fl_M_147 rfl d_M_over_62 ?_
    refine lv_iload_n hx hb d_M_over_65 rfl (lv_at hl 2 rfl) ?_
    refine lv_bipush (v := nI 7) hx hb d_M_over_66 (by decide +kernel) ?_
    refine lv_isub hx hb d_M_over_68 ?_
    refine sx_ti (y := nI (i1 - 7)) (pk_sub (by omega)) ?_
    refine vx_lald hx hb hG hS hV (mo_48 hM) (by omega) (by decide) d_M_over_69 ?_
    refine lv_ladd hx hb d_M_over_70 ?_
    refine lv_lload hx hb d_M_over_71 (lv_at hl 0 rfl) ?_
    refine lv_bipush (v := nI 19) hx hb d_M_over_73 (by decide +kernel) ?_
    refine vx_gl (sx_runS (As := [.long z5, .int (nI (19))]) (rest := [.long (((s2.1 (r 48) (i1 - 16)) + (((LF_M_turned s2 z4 (nI 1)) ^^^ (LF_M_turned s2 z4 (nI 8))) ^^^ (((z4).toUInt64 >>> ((nI 7).toInt64.toUInt64 &&& Int64.toUInt64 63)).toInt64))) + (s2.1 (r 48) (i1 - 7))), .int (nI (i1)), .ref (r 48)]) EE (v_M_turned (X := s2) hV) w_M_267 rfl ⟨rfl, rfl⟩ ⟨Nat.le_of_ble_eq_true rfl, Nat.le_of_ble_eq_true rfl⟩ ⟨Nat.zero_le _, Nat.zero_le _⟩ hl.1 rfl (Nat.le_of_ble_eq_true rfl) d_M_over_75) hS (fun H locs X_ eX_ hS hV => ?_)
    subst eX_
    refine lv_lload hx hb d_M_over_78 (lv_at hl 0 rfl) ?_
    refine lv_bipush (v := nI 61) hx hb d_M_over_80 (by decide +kernel) ?_
    refine vx_gl (sx_runS (As := [.long z5, .int (nI (61))]) (rest := [.long (LF_M_turned s2 z5 (nI 19)), .long (((s2.1 (r 48) (i1 - 16)) + (((LF_M_turned s2 z4 (nI 1)) ^^^ (LF_M_turned s2 z4 (nI 8))) ^^^ (((z4).toUInt64 >>> ((nI 7).toInt64.toUInt64 &&& Int64.toUInt64 63)).toInt64))) + (s2.1 (r 48) (i1 - 7))), .int (nI (i1)), .ref (r 48)]) EE (v_M_turned (X := s2) hV) w_M_267 rfl ⟨rfl, rfl⟩ ⟨Nat.le_of_ble_eq_true rfl, Nat.le_of_ble_eq_true rfl⟩ ⟨Nat.zero_le _, Nat.zero_le _⟩ hl.1 rfl (Nat.le_of_ble_eq_true rfl) d_M_over_82) hS (fun H locs X_ eX_ hS hV => ?_)
    subst eX_
    refine lv_lxor hx hb d_M_over_85 ?_
    refine lv_lload hx hb d_M_over_86 (lv_at hl 0 rfl) ?_
    refine lv_bipush (v := nI 6) hx hb d_M_over_88 (by decide +kernel) ?_
    refine lv_lushr hx hb d_M_over_90 rfl ?_
    refine lv_lxor hx hb d_M_over_91 ?_
    refine lv_ladd hx hb d_M_over_92 ?_
    refine vx_last hx hb hG hS hV (mo_48 hM) (mow_48 hW) (by omega) (by decide) d_M_over_93 (fun H locs X6 eX6 hS hV => ?_)
    refine lv_iinc (v := nI (i1 + 1)) (lv' := [(1, .int (nI (i1 + 1))), (4, .long z5), (2, .long z4), (0, .ref o)]) hx hb d_M_over_94 hl (k := 2) rfl (sx_inc _ _) (by decide) rfl (fun ls hl => ?_)
    refine lv_goto (tgt := 3) hx hb d_M_over_97 (by decide) ?_
    exact ihi1 X6 _ _ _ (by subst ez4 ez5 eX6; exact rfl) ⟨(by omega), hS, hV, lv_sub hl [0, 3] rfl⟩
  · intro H locs ls hP
    obtain ⟨hxR3_0, hS, hV, hl⟩ := hP
    refine lv_iload_n hx hb d_M_over_3 rfl (lv_at hl 0 rfl) ?_
    refine lv_bipush (v := nI 80) hx hb d_M_over_4 (by decide +kernel) ?_
    refine lv_icmp_ge (tgt := 100) hx hb d_M_over_6 (by decide) (fun _ => ?_) (fun q => absurd (nI_le (by omega) (by omega)) q)
    refine lv_aload_n hx hb d_M_over_100 rfl (lv_at hl 1 rfl) ?_
    refine sx_get EE (hS.1.ob hE hM.1) rfl i_M 49 (by decide) rfl fl_M_150 rfl d_M_over_101 ?_
    refine lv_iconst (v := nI 0) hx hb d_M_over_104 (by decide +kernel) ?_
    refine vx_lald hx hb hG hS hV (mo_49 hM) (by omega) (by decide) d_M_over_105 ?_
    refine vx_nmL (fun z7 ez7 => ?_)
    refine lv_lstore_n (lv' := [(1, .long z7), (0, .ref o)]) hx hb d_M_over_106 rfl hl (by decide) rfl (fun ls hl => ?_)
    refine lv_aload_n hx hb d_M_over_107 rfl (lv_at hl 1 rfl) ?_
    refine sx_get EE (hS.1.ob hE hM.1) rfl i_M 49 (by decide) rfl fl_M_150 rfl d_M_over_108 ?_
    refine lv_iconst (v := nI 1) hx hb d_M_over_111 (by decide +kernel) ?_
    refine vx_lald hx hb hG hS hV (mo_49 hM) (by omega) (by decide) d_M_over_112 ?_
    refine vx_nmL (fun z8 ez8 => ?_)
    refine lv_lstore_n (lv' := [(3, .long z8), (1, .long z7), (0, .ref o)]) hx hb d_M_over_113 rfl hl (by decide) rfl (fun ls hl => ?_)
    refine lv_aload_n hx hb d_M_over_114 rfl (lv_at hl 2 rfl) ?_
    refine sx_get EE (hS.1.ob hE hM.1) rfl i_M 49 (by decide) rfl fl_M_150 rfl d_M_over_115 ?_
    refine lv_iconst (v := nI 2) hx hb d_M_over_118 (by decide +kernel) ?_
    refine vx_lald hx hb hG hS hV (mo_49 hM) (by omega) (by decide) d_M_over_119 ?_
    refine vx_nmL (fun z9 ez9 => ?_)
    refine lv_lstore (lv' := [(5, .long z9), (3, .long z8), (1, .long z7), (0, .ref o)]) hx hb d_M_over_120 hl (by decide) rfl (fun ls hl => ?_)
    refine lv_aload_n hx hb d_M_over_122 rfl (lv_at hl 3 rfl) ?_
    refine sx_get EE (hS.1.ob hE hM.1) rfl i_M 49 (by decide) rfl fl_M_150 rfl d_M_over_123 ?_
    refine lv_iconst (v := nI 3) hx hb d_M_over_126 (by decide +kernel) ?_
    refine vx_lald hx hb hG hS hV (mo_49 hM) (by omega) (by decide) d_M_over_127 ?_
    refine vx_nmL (fun z10 ez10 => ?_)
    refine lv_lstore (lv' := [(7, .long z10), (5, .long z9), (3, .long z8), (1, .long z7), (0, .ref o)]) hx hb d_M_over_128 hl (by decide) rfl (fun ls hl => ?_)
    refine lv_aload_n hx hb d_M_over_130 rfl (lv_at hl 4 rfl) ?_
    refine sx_get EE (hS.1.ob hE hM.1) rfl i_M 49 (by decide) rfl fl_M_150 rfl d_M_over_131 ?_
    refine lv_iconst (v := nI 4) hx hb d_M_over_134 (by decide +kernel) ?_
    refine vx_lald hx hb hG hS hV (mo_49 hM) (by omega) (by decide) d_M_over_135 ?_
    refine vx_nmL (fun z11 ez11 => ?_)
    refine lv_lstore (lv' := [(9, .long z11), (7, .long z10), (5, .long z9), (3, .long z8), (1, .long z7), (0, .ref o)]) hx hb d_M_over_136 hl (by decide) rfl (fun ls hl => ?_)
    refine lv_aload_n hx hb d_M_over_138 rfl (lv_at hl 5 rfl) ?_
    refine sx_get EE (hS.1.ob hE hM.1) rfl i_M 49 (by decide) rfl fl_M_150 rfl d_M_over_139 ?_
    refine lv_iconst (v := nI 5) hx hb d_M_over_142 (by decide +kernel) ?_
    refine vx_lald hx hb hG hS hV (mo_49 hM) (by omega) (by decide) d_M_over_143 ?_
    refine vx_nmL (fun z12 ez12 => ?_)
    refine lv_lstore (lv' := [(11, .long z12), (9, .long z11), (7, .long z10), (5, .long z9), (3, .long z8), (1, .long z7), (0, .ref o)]) hx hb d_M_over_144 hl (by decide) rfl (fun ls hl => ?_)
    refine lv_aload_n hx hb d_M_over_146 rfl (lv_at hl 6 rfl) ?_
    refine sx_get EE (hS.1.ob hE hM.1) rfl i_M 49 (by decide) rfl fl_M_150 rfl d_M_over_147 ?_
    refine lv_bipush (v := nI 6) hx hb d_M_over_150 (by decide +kernel) ?_
    refine vx_lald hx hb hG hS hV (mo_49 hM) (by omega) (by decide) d_M_over_152 ?_
    refine vx_nmL (fun z13 ez13 => ?_)
    refine lv_lstore (lv' := [(13, .long z13), (11, .long z12), (9, .long z11), (7, .long z10), (5, .long z9), (3, .long z8), (1, .long z7), (0, .ref o)]) hx hb d_M_over_153 hl (by decide) rfl (fun ls hl => ?_)
    refine lv_aload_n hx hb d_M_over_155 rfl (lv_at hl 7 rfl) ?_
    refine sx_get EE (hS.1.ob hE hM.1) rfl i_M 49 (by decide) rfl fl_M_150 rfl d_M_over_156 ?_
    refine lv_bipush (v := nI 7) hx hb d_M_over_159 (by decide +kernel) ?_
    refine vx_lald hx hb hG hS hV (mo_49 hM) (by omega) (by decide) d_M_over_161 ?_
    refine vx_nmL (fun z14 ez14 => ?_)
    refine lv_lstore (lv' := [(15, .long z14), (13, .long z13), (11, .long z12), (9, .long z11), (7, .long z10), (5, .long z9), (3, .long z8), (1, .long z7), (0, .ref o)]) hx hb d_M_over_162 hl (by decide) rfl (fun ls hl => ?_)
    refine lv_iconst (v := nI 0) hx hb d_M_over_164 (by decide +kernel) ?_
    refine lv_istore (lv' := [(17, .int (nI (0))), (15, .long z14), (13, .long z13), (11, .long z12), (9, .long z11), (7, .long z10), (5, .long z9), (3, .long z8), (1, .long z7), (0, .ref o)]) hx hb d_M_over_165 hl (by decide) rfl (fun ls hl => ?_)
    obtain ⟨R17, eR17⟩ : ∃ t : (Int64 × Int64 × Int64 × Int64 × Int64 × Int64 × Int64 × Int64), lpU 1 (LL_M_over_167 R3 r) 80 0 (z14, z13, z12, z11, z10, z9, z8, z7) = t := ⟨_, rfl⟩
    refine lpU_go (σ := (Int64 × Int64 × Int64 × Int64 × Int64 × Int64 × Int64 × Int64)) (P := fun i15 s16 H locs ls => sx_S g E E H0 H locs ∧ mm g H = R3 ∧ lv_has ls 22 [(17, .int (nI (i15))), (15, .long s16.1), (13, .long s16.2.1), (11, .long s16.2.2.1), (9, .long s16.2.2.2.1), (7, .long s16.2.2.2.2.1), (5, .long s16.2.2.2.2.2.1), (3, .long s16.2.2.2.2.2.2.1), (1, .long s16.2.2.2.2.2.2.2), (0, .ref o)]) (Wd := fun H locs ls => W p l e rm_M_over s m args below meth c H locs 0 0 Q (F0 m 167 ls [])) (N := 80) (d := 1) (by decide) ?_ ?_ 80 0 _ (by omega) eR17 _ _ _ ⟨hS, hV, lv_sub hl [0, 1, 2, 3, 4, 5, 6, 7, 8, 9] rfl⟩
    · intro i15 s16 H locs ls hii15 hP ihi15
      obtain ⟨hS, hV, hl⟩ := hP
      refine lv_iload hx hb d_M_over_167 (lv_at hl 0 rfl) ?_
      refine lv_bipush (v := nI 80) hx hb d_M_over_169 (by decide +kernel) ?_
      refine lv_icmp_ge (tgt := 310) hx hb d_M_over_171 (by decide) (fun q => absurd q (nI_ge (by omega) (by omega))) (fun _ => ?_)
      refine lv_lload hx hb d_M_over_174 (lv_at hl 1 rfl) ?_
      refine lv_lload hx hb d_M_over_176 (lv_at hl 4 rfl) ?_
      refine lv_bipush (v := nI 14) hx hb d_M_over_178 (by decide +kernel) ?_
      refine vx_gl (sx_runS (As := [.long s16.2.2.2.1, .int (nI (14))]) (rest := [.long s16.1]) EE (v_M_turned (X := R3) hV) w_M_267 rfl ⟨rfl, rfl⟩ ⟨Nat.le_of_ble_eq_true rfl, Nat.le_of_ble_eq_true rfl⟩ ⟨Nat.zero_le _, Nat.zero_le _⟩ hl.1 rfl (Nat.le_of_ble_eq_true rfl) d_M_over_180) hS (fun H locs X_ eX_ hS hV => ?_)
      subst eX_
      refine lv_lload hx hb d_M_over_183 (lv_at hl 4 rfl) ?_
      refine lv_bipush (v := nI 18) hx hb d_M_over_185 (by decide +kernel) ?_
      refine vx_gl (sx_runS (As := [.long s16.2.2.2.1, .int (nI (18))]) (rest := [.long (LF_M_turned R3 s16.2.2.2.1 (nI 14)), .long s16.1]) EE (v_M_turned (X := R3) hV) w_M_267 rfl ⟨rfl, rfl⟩ ⟨Nat.le_of_ble_eq_true rfl, Nat.le_of_ble_eq_true rfl⟩ ⟨Nat.zero_le _, Nat.zero_le _⟩ hl.1 rfl (Nat.le_of_ble_eq_true rfl) d_M_over_187) hS (fun H locs X_ eX_ hS hV => ?_)
      subst eX_
      refine lv_lxor hx hb d_M_over_190 ?_
      refine lv_lload hx hb d_M_over_191 (lv_at hl 4 rfl) ?_
      refine lv_bipush (v := nI 41) hx hb d_M_over_193 (by decide +kernel) ?_
      refine vx_gl (sx_runS (As := [.long s16.2.2.2.1, .int (nI (41))]) (rest := [.long ((LF_M_turned R3 s16.2.2.2.1 (nI 14)) ^^^ (LF_M_turned R3 s16.2.2.2.1 (nI 18))), .long s16.1]) EE (v_M_turned (X := R3) hV) w_M_267 rfl ⟨rfl, rfl⟩ ⟨Nat.le_of_ble_eq_true rfl, Nat.le_of_ble_eq_true rfl⟩ ⟨Nat.zero_le _, Nat.zero_le _⟩ hl.1 rfl (Nat.le_of_ble_eq_true rfl) d_M_over_195) hS (fun H locs X_ eX_ hS hV => ?_)
      subst eX_
      refine lv_lxor hx hb d_M_over_198 ?_
      refine lv_ladd hx hb d_M_over_199 ?_
      refine lv_lload hx hb d_M_over_200 (lv_at hl 4 rfl) ?_
      refine lv_lload hx hb d_M_over_202 (lv_at hl 3 rfl) ?_
      refine lv_land hx hb d_M_over_204 ?_
      refine lv_lload hx hb d_M_over_205 (lv_at hl 4 rfl) ?_
      refine lv_ldc2 (v := (-1)) hx hb hown (hts (.constantLong R_M 271 (-1)) (by decide +kernel)) d_M_over_207 ?_
      refine lv_lxor hx hb d_M_over_210 ?_
      refine lv_lload hx hb d_M_over_211 (lv_at hl 2 rfl) ?_
      refine lv_land hx hb d_M_over_213 ?_
      refine lv_lxor hx hb d_M_over_214 ?_
      refine lv_ladd hx hb d_M_over_215 ?_
      refine lv_aload_n hx hb d_M_over_216 rfl (lv_at hl 9 rfl) ?_
      refine sx_get EE (hS.1.ob hE hM.1) rfl i_M 46 (by decide) rfl fl_M_141 rfl d_M_over_217 ?_
      refine lv_iload hx hb d_M_over_220 (lv_at hl 0 rfl) ?_
      refine vx_lald hx hb hG hS hV (mo_46 hM) (by omega) (by decide) d_M_over_222 ?_
      refine lv_ladd hx hb d_M_over_223 ?_
      refine lv_aload_n hx hb d_M_over_224 rfl (lv_at hl 9 rfl) ?_
      refine sx_get EE (hS.1.ob hE hM.1) rfl i_M 48 (by decide) rfl fl_M_147 rfl d_M_over_225 ?_
      refine lv_iload hx hb d_M_over_228 (lv_at hl 0 rfl) ?_
      refine vx_lald hx hb hG hS hV (mo_48 hM) (by omega) (by decide) d_M_over_230 ?_
      refine lv_ladd hx hb d_M_over_231 ?_
      refine vx_nmL (fun z18 ez18 => ?_)
      refine lv_lstore (lv' := [(18, .long z18), (17, .int (nI (i15))), (15, .long s16.1), (13, .long s16.2.1), (11, .long s16.2.2.1), (9, .long s16.2.2.2.1), (7, .long s16.2.2.2.2.1), (5, .long s16.2.2.2.2.2.1), (3, .long s16.2.2.2.2.2.2.1), (1, .long s16.2.2.2.2.2.2.2), (0, .ref o)]) hx hb d_M_over_232 hl (by decide) rfl (fun ls hl => ?_)
      refine lv_lload_n hx hb d_M_over_234 rfl (lv_at hl 9 rfl) ?_
      refine lv_bipush (v := nI 28) hx hb d_M_over_235 (by decide +kernel) ?_
      refine vx_gl (sx_runS (As := [.long s16.2.2.2.2.2.2.2, .int (nI (28))]) (rest := []) EE (v_M_turned (X := R3) hV) w_M_267 rfl ⟨rfl, rfl⟩ ⟨Nat.le_of_ble_eq_true rfl, Nat.le_of_ble_eq_true rfl⟩ ⟨Nat.zero_le _, Nat.zero_le _⟩ hl.1 rfl (Nat.le_of_ble_eq_true rfl) d_M_over_237) hS (fun H locs X_ eX_ hS hV => ?_)
      subst eX_
      refine lv_lload_n hx hb d_M_over_240 rfl (lv_at hl 9 rfl) ?_
      refine lv_bipush (v := nI 34) hx hb d_M_over_241 (by decide +kernel) ?_
      refine vx_gl (sx_runS (As := [.long s16.2.2.2.2.2.2.2, .int (nI (34))]) (rest := [.long (LF_M_turned R3 s16.2.2.2.2.2.2.2 (nI 28))]) EE (v_M_turned (X := R3) hV) w_M_267 rfl ⟨rfl, rfl⟩ ⟨Nat.le_of_ble_eq_true rfl, Nat.le_of_ble_eq_true rfl⟩ ⟨Nat.zero_le _, Nat.zero_le _⟩ hl.1 rfl (Nat.le_of_ble_eq_true rfl) d_M_over_243) hS (fun H locs X_ eX_ hS hV => ?_)
      subst eX_
      refine lv_lxor hx hb d_M_over_246 ?_
      refine lv_lload_n hx hb d_M_over_247 rfl (lv_at hl 9 rfl) ?_
      refine lv_bipush (v := nI 39) hx hb d_M_over_248 (by decide +kernel) ?_
      refine vx_gl (sx_runS (As := [.long s16.2.2.2.2.2.2.2, .int (nI (39))]) (rest := [.long ((LF_M_turned R3 s16.2.2.2.2.2.2.2 (nI 28)) ^^^ (LF_M_turned R3 s16.2.2.2.2.2.2.2 (nI 34)))]) EE (v_M_turned (X := R3) hV) w_M_267 rfl ⟨rfl, rfl⟩ ⟨Nat.le_of_ble_eq_true rfl, Nat.le_of_ble_eq_true rfl⟩ ⟨Nat.zero_le _, Nat.zero_le _⟩ hl.1 rfl (Nat.le_of_ble_eq_true rfl) d_M_over_250) hS (fun H locs X_ eX_ hS hV => ?_)
      subst eX_
      refine lv_lxor hx hb d_M_over_253 ?_
      refine lv_lload_n hx hb d_M_over_254 rfl (lv_at hl 9 rfl) ?_
      refine lv_lload_n hx hb d_M_over_255 rfl (lv_at hl 8 rfl) ?_
      refine lv_land hx hb d_M_over_256 ?_
      refine lv_lload_n hx hb d_M_over_257 rfl (lv_at hl 9 rfl) ?_
      refine lv_lload hx hb d_M_over_258 (lv_at hl 7 rfl) ?_
      refine lv_land hx hb d_M_over_260 ?_
      refine lv_lxor hx hb d_M_over_261 ?_
      refine lv_lload_n hx hb d_M_over_262 rfl (lv_at hl 8 rfl) ?_
      refine lv_lload hx hb d_M_over_263 (lv_at hl 7 rfl) ?_
      refine lv_land hx hb d_M_over_265 ?_
      refine lv_lxor hx hb d_M_over_266 ?_
      refine lv_ladd hx hb d_M_over_267 ?_
      refine vx_nmL (fun z19 ez19 => ?_)
      refine lv_lstore (lv' := [(20, .long z19), (18, .long z18), (17, .int (nI (i15))), (15, .long s16.1), (13, .long s16.2.1), (11, .long s16.2.2.1), (9, .long s16.2.2.2.1), (7, .long s16.2.2.2.2.1), (5, .long s16.2.2.2.2.2.1), (3, .long s16.2.2.2.2.2.2.1), (1, .long s16.2.2.2.2.2.2.2), (0, .ref o)]) hx hb d_M_over_268 hl (by decide) rfl (fun ls hl => ?_)
      refine lv_lload hx hb d_M_over_270 (lv_at hl 4 rfl) ?_
      refine lv_lstore (lv' := [(15, .long s16.2.1), (20, .long z19), (18, .long z18), (17, .int (nI (i15))), (13, .long s16.2.1), (11, .long s16.2.2.1), (9, .long s16.2.2.2.1), (7, .long s16.2.2.2.2.1), (5, .long s16.2.2.2.2.2.1), (3, .long s16.2.2.2.2.2.2.1), (1, .long s16.2.2.2.2.2.2.2), (0, .ref o)]) hx hb d_M_over_272 hl (by decide) rfl (fun ls hl => ?_)
      refine lv_lload hx hb d_M_over_274 (lv_at hl 5 rfl) ?_
      refine lv_lstore (lv' := [(13, .long s16.2.2.1), (15, .long s16.2.1), (20, .long z19), (18, .long z18), (17, .int (nI (i15))), (11, .long s16.2.2.1), (9, .long s16.2.2.2.1), (7, .long s16.2.2.2.2.1), (5, .long s16.2.2.2.2.2.1), (3, .long s16.2.2.2.2.2.2.1), (1, .long s16.2.2.2.2.2.2.2), (0, .ref o)]) hx hb d_M_over_276 hl (by decide) rfl (fun ls hl => ?_)
      refine lv_lload hx hb d_M_over_278 (lv_at hl 6 rfl) ?_
      refine lv_lstore (lv' := [(11, .long s16.2.2.2.1), (13, .long s16.2.2.1), (15, .long s16.2.1), (20, .long z19), (18, .long z18), (17, .int (nI (i15))), (9, .long s16.2.2.2.1), (7, .long s16.2.2.2.2.1), (5, .long s16.2.2.2.2.2.1), (3, .long s16.2.2.2.2.2.2.1), (1, .long s16.2.2.2.2.2.2.2), (0, .ref o)]) hx hb d_M_over_280 hl (by decide) rfl (fun ls hl => ?_)
      refine lv_lload hx hb d_M_over_282 (lv_at hl 7 rfl) ?_
      refine lv_lload hx hb d_M_over_284 (lv_at hl 4 rfl) ?_
      refine lv_ladd hx hb d_M_over_286 ?_
      refine vx_nmL (fun z20 ez20 => ?_)
      refine lv_lstore (lv' := [(9, .long z20), (11, .long s16.2.2.2.1), (13, .long s16.2.2.1), (15, .long s16.2.1), (20, .long z19), (18, .long z18), (17, .int (nI (i15))), (7, .long s16.2.2.2.2.1), (5, .long s16.2.2.2.2.2.1), (3, .long s16.2.2.2.2.2.2.1), (1, .long s16.2.2.2.2.2.2.2), (0, .ref o)]) hx hb d_M_over_287 hl (by decide) rfl (fun ls hl => ?_)
      refine lv_lload hx hb d_M_over_289 (lv_at hl 8 rfl) ?_
      refine lv_lstore (lv' := [(7, .long s16.2.2.2.2.2.1), (9, .long z20), (11, .long s16.2.2.2.1), (13, .long s16.2.2.1), (15, .long s16.2.1), (20, .long z19), (18, .long z18), (17, .int (nI (i15))), (5, .long s16.2.2.2.2.2.1), (3, .long s16.2.2.2.2.2.2.1), (1, .long s16.2.2.2.2.2.2.2), (0, .ref o)]) hx hb d_M_over_291 hl (by decide) rfl (fun ls hl => ?_)
      refine lv_lload_n hx hb d_M_over_293 rfl (lv_at hl 9 rfl) ?_
      refine lv_lstore (lv' := [(5, .long s16.2.2.2.2.2.2.1), (7, .long s16.2.2.2.2.2.1), (9, .long z20), (11, .long s16.2.2.2.1), (13, .long s16.2.2.1), (15, .long s16.2.1), (20, .long z19), (18, .long z18), (17, .int (nI (i15))), (3, .long s16.2.2.2.2.2.2.1), (1, .long s16.2.2.2.2.2.2.2), (0, .ref o)]) hx hb d_M_over_294 hl (by decide) rfl (fun ls hl => ?_)
      refine lv_lload_n hx hb d_M_over_296 rfl (lv_at hl 10 rfl) ?_
      refine lv_lstore_n (lv' := [(3, .long s16.2.2.2.2.2.2.2), (5, .long s16.2.2.2.2.2.2.1), (7, .long s16.2.2.2.2.2.1), (9, .long z20), (11, .long s16.2.2.2.1), (13, .long s16.2.2.1), (15, .long s16.2.1), (20, .long z19), (18, .long z18), (17, .int (nI (i15))), (1, .long s16.2.2.2.2.2.2.2), (0, .ref o)]) hx hb d_M_over_297 rfl hl (by decide) rfl (fun ls hl => ?_)
      refine lv_lload hx hb d_M_over_298 (lv_at hl 8 rfl) ?_
      refine lv_lload hx hb d_M_over_300 (lv_at hl 7 rfl) ?_
      refine lv_ladd hx hb d_M_over_302 ?_
      refine vx_nmL (fun z21 ez21 => ?_)
      refine lv_lstore_n (lv' := [(1, .long z21), (3, .long s16.2.2.2.2.2.2.2), (5, .long s16.2.2.2.2.2.2.1), (7, .long s16.2.2.2.2.2.1), (9, .long z20), (11, .long s16.2.2.2.1), (13, .long s16.2.2.1), (15, .long s16.2.1), (20, .long z19), (18, .long z18), (17, .int (nI (i15))), (0, .ref o)]) hx hb d_M_over_303 rfl hl (by decide) rfl (fun ls hl => ?_)
      refine lv_iinc (v := nI (i15 + 1)) (lv' := [(17, .int (nI (i15 + 1))), (1, .long z21), (3, .long s16.2.2.2.2.2.2.2), (5, .long s16.2.2.2.2.2.2.1), (7, .long s16.2.2.2.2.2.1), (9, .long z20), (11, .long s16.2.2.2.1), (13, .long s16.2.2.1), (15, .long s16.2.1), (20, .long z19), (18, .long z18), (0, .ref o)]) hx hb d_M_over_304 hl (k := 10) rfl (sx_inc _ _) (by decide) rfl (fun ls hl => ?_)
      refine lv_goto (tgt := 167) hx hb d_M_over_307 (by decide) ?_
      exact ihi15 (s16.2.1, s16.2.2.1, s16.2.2.2.1, z20, s16.2.2.2.2.2.1, s16.2.2.2.2.2.2.1, s16.2.2.2.2.2.2.2, z21) _ _ _ (by subst ez18 ez19 ez20 ez21; exact rfl) ⟨hS, hV, lv_sub hl [0, 8, 7, 6, 5, 4, 3, 2, 1, 11] rfl⟩
    · intro H locs ls hP
      obtain ⟨hS, hV, hl⟩ := hP
      refine lv_iload hx hb d_M_over_167 (lv_at hl 0 rfl) ?_
      refine lv_bipush (v := nI 80) hx hb d_M_over_169 (by decide +kernel) ?_
      refine lv_icmp_ge (tgt := 310) hx hb d_M_over_171 (by decide) (fun _ => ?_) (fun q => absurd (nI_le (by omega) (by omega)) q)
      refine lv_aload_n hx hb d_M_over_310 rfl (lv_at hl 9 rfl) ?_
      refine sx_get EE (hS.1.ob hE hM.1) rfl i_M 49 (by decide) rfl fl_M_150 rfl d_M_over_311 ?_
      refine lv_iconst (v := nI 0) hx hb d_M_over_314 (by decide +kernel) ?_
      refine lv_dup2_11 hx hb d_M_over_315 rfl rfl ?_
      refine vx_lald hx hb hG hS hV (mo_49 hM) (by omega) (by decide) d_M_over_316 ?_
      refine lv_lload_n hx hb d_M_over_317 rfl (lv_at hl 8 rfl) ?_
      refine lv_ladd hx hb d_M_over_318 ?_
      refine vx_last hx hb hG hS hV (mo_49 hM) (mow_49 hW) (by omega) (by decide) d_M_over_319 (fun H locs X22 eX22 hS hV => ?_)
      refine lv_aload_n hx hb d_M_over_320 rfl (lv_at hl 9 rfl) ?_
      refine sx_get EE (hS.1.ob hE hM.1) rfl i_M 49 (by decide) rfl fl_M_150 rfl d_M_over_321 ?_
      refine lv_iconst (v := nI 1) hx hb d_M_over_324 (by decide +kernel) ?_
      refine lv_dup2_11 hx hb d_M_over_325 rfl rfl ?_
      refine vx_lald hx hb hG hS hV (mo_49 hM) (by omega) (by decide) d_M_over_326 ?_
      refine lv_lload_n hx hb d_M_over_327 rfl (lv_at hl 7 rfl) ?_
      refine lv_ladd hx hb d_M_over_328 ?_
      refine vx_last hx hb hG hS hV (mo_49 hM) (mow_49 hW) (by omega) (by decide) d_M_over_329 (fun H locs X23 eX23 hS hV => ?_)
      refine lv_aload_n hx hb d_M_over_330 rfl (lv_at hl 9 rfl) ?_
      refine sx_get EE (hS.1.ob hE hM.1) rfl i_M 49 (by decide) rfl fl_M_150 rfl d_M_over_331 ?_
      refine lv_iconst (v := nI 2) hx hb d_M_over_334 (by decide +kernel) ?_
      refine lv_dup2_11 hx hb d_M_over_335 rfl rfl ?_
      refine vx_lald hx hb hG hS hV (mo_49 hM) (by omega) (by decide) d_M_over_336 ?_
      refine lv_lload hx hb d_M_over_337 (lv_at hl 6 rfl) ?_
      refine lv_ladd hx hb d_M_over_339 ?_
      refine vx_last hx hb hG hS hV (mo_49 hM) (mow_49 hW) (by omega) (by decide) d_M_over_340 (fun H locs X24 eX24 hS hV => ?_)
      refine lv_aload_n hx hb d_M_over_341 rfl (lv_at hl 9 rfl) ?_
      refine sx_get EE (hS.1.ob hE hM.1) rfl i_M 49 (by decide) rfl fl_M_150 rfl d_M_over_342 ?_
      refine lv_iconst (v := nI 3) hx hb d_M_over_345 (by decide +kernel) ?_
      refine lv_dup2_11 hx hb d_M_over_346 rfl rfl ?_
      refine vx_lald hx hb hG hS hV (mo_49 hM) (by omega) (by decide) d_M_over_347 ?_
      refine lv_lload hx hb d_M_over_348 (lv_at hl 5 rfl) ?_
      refine lv_ladd hx hb d_M_over_350 ?_
      refine vx_last hx hb hG hS hV (mo_49 hM) (mow_49 hW) (by omega) (by decide) d_M_over_351 (fun H locs X25 eX25 hS hV => ?_)
      refine lv_aload_n hx hb d_M_over_352 rfl (lv_at hl 9 rfl) ?_
      refine sx_get EE (hS.1.ob hE hM.1) rfl i_M 49 (by decide) rfl fl_M_150 rfl d_M_over_353 ?_
      refine lv_iconst (v := nI 4) hx hb d_M_over_356 (by decide +kernel) ?_
      refine lv_dup2_11 hx hb d_M_over_357 rfl rfl ?_
      refine vx_lald hx hb hG hS hV (mo_49 hM) (by omega) (by decide) d_M_over_358 ?_
      refine lv_lload hx hb d_M_over_359 (lv_at hl 4 rfl) ?_
      refine lv_ladd hx hb d_M_over_361 ?_
      refine vx_last hx hb hG hS hV (mo_49 hM) (mow_49 hW) (by omega) (by decide) d_M_over_362 (fun H locs X26 eX26 hS hV => ?_)
      refine lv_aload_n hx hb d_M_over_363 rfl (lv_at hl 9 rfl) ?_
      refine sx_get EE (hS.1.ob hE hM.1) rfl i_M 49 (by decide) rfl fl_M_150 rfl d_M_over_364 ?_
      refine lv_iconst (v := nI 5) hx hb d_M_over_367 (by decide +kernel) ?_
      refine lv_dup2_11 hx hb d_M_over_368 rfl rfl ?_
      refine vx_lald hx hb hG hS hV (mo_49 hM) (by omega) (by decide) d_M_over_369 ?_
      refine lv_lload hx hb d_M_over_370 (lv_at hl 3 rfl) ?_
      refine lv_ladd hx hb d_M_over_372 ?_
      refine vx_last hx hb hG hS hV (mo_49 hM) (mow_49 hW) (by omega) (by decide) d_M_over_373 (fun H locs X27 eX27 hS hV => ?_)
      refine lv_aload_n hx hb d_M_over_374 rfl (lv_at hl 9 rfl) ?_
      refine sx_get EE (hS.1.ob hE hM.1) rfl i_M 49 (by decide) rfl fl_M_150 rfl d_M_over_375 ?_
      refine lv_bipush (v := nI 6) hx hb d_M_over_378 (by decide +kernel) ?_
      refine lv_dup2_11 hx hb d_M_over_380 rfl rfl ?_
      refine vx_lald hx hb hG hS hV (mo_49 hM) (by omega) (by decide) d_M_over_381 ?_
      refine lv_lload hx hb d_M_over_382 (lv_at hl 2 rfl) ?_
      refine lv_ladd hx hb d_M_over_384 ?_
      refine vx_last hx hb hG hS hV (mo_49 hM) (mow_49 hW) (by omega) (by decide) d_M_over_385 (fun H locs X28 eX28 hS hV => ?_)
      refine lv_aload_n hx hb d_M_over_386 rfl (lv_at hl 9 rfl) ?_
      refine sx_get EE (hS.1.ob hE hM.1) rfl i_M 49 (by decide) rfl fl_M_150 rfl d_M_over_387 ?_
      refine lv_bipush (v := nI 7) hx hb d_M_over_390 (by decide +kernel) ?_
      refine lv_dup2_11 hx hb d_M_over_392 rfl rfl ?_
      refine vx_lald hx hb hG hS hV (mo_49 hM) (by omega) (by decide) d_M_over_393 ?_
      refine lv_lload hx hb d_M_over_394 (lv_at hl 1 rfl) ?_
      refine lv_ladd hx hb d_M_over_396 ?_
      refine vx_last hx hb hG hS hV (mo_49 hM) (mow_49 hW) (by omega) (by decide) d_M_over_397 (fun H locs X29 eX29 hS hV => ?_)
      exact hret _ _ _ _ _ (by subst eR3 ez7 ez8 ez9 ez10 ez11 ez12 ez13 ez14 eR17 eX22 eX23 eX24 eX25 eX26 eX27 eX28 eX29; exact rfl) hS hV d_M_over_398
def LL_M_hash_19 (r : Nat → Nat) : Nat → vM → vM := fun i_0 s_1 => (let X_2 : vM := stL s_1 (r 49) i_0 (s_1.1 (r 47) i_0); X_2)
def LL_M_hash_76 (r : Nat → Nat) (i_0 : Nat) (a0 : Nat) (v1 : Nat) (i_1 : Nat) : Nat → vM → vM := fun i_2 s_3 => (let X_4 : vM := stL s_3 (r 48) i_0 (((s_3.1 (r 48) i_0) <<< ((nI 8).toInt64 &&& 63)) ||| ((LF_M_padded s_3 a0 v1 ((i_1 + (8 * i_0)) + i_2) ((((v1 + 17) + 127) / 128) * 128)).toInt64)); X_4)
def LL_M_hash_58 (r : Nat → Nat) (a0 : Nat) (v1 : Nat) (i_0 : Nat) : Nat → vM → vM := fun i_1 s_2 => (let X_3 : vM := stL s_2 (r 48) i_1 (0 : Int64); let R_4 : vM := lpU 1 (LL_M_hash_76 r i_1 a0 v1 i_0) 8 0 X_3; R_4)
def LL_M_hash_49 (r : Nat → Nat) (a0 : Nat) (v1 : Nat) : Nat → vM → vM := fun i_0 s_1 => (let R_2 : vM := lpU 1 (LL_M_hash_58 r a0 v1 i_0) 16 0 s_1; (let X_3 : vM := (LF_M_over R_2 r); X_3))
def LL_M_hash_147 (r : Nat → Nat) : Nat → vM → vM := fun i_0 s_1 => (let X_2 : vM := stI s_1 (r 52) i_0 (((((((s_1.1 (r 49) (i_0 / 8))).toUInt64 >>> ((nI (56 - (8 * (i_0 % 8)))).toInt64.toUInt64 &&& Int64.toUInt64 63)).toInt64).toInt32).toInt8.toInt32).toInt8.toInt32); X_2)
def LF_M_hash (X : vM) (r : Nat → Nat) (a0 : Nat) (v1 : Nat) : vM := (let R3 : vM := lpU 1 (LL_M_hash_19 r) 8 0 X; (let R7 : vM := lpU 128 (LL_M_hash_49 r a0 v1) (((((v1 + 17) + 127) / 128) * 128 - 0) / 128) 0 R3; (let R19 : vM := lpU 1 (LL_M_hash_147 r) 64 0 R7; R19)))
abbrev rm_M_hash : Room := { frames := 2, cells := 0, slots := 0, locals := 63 }
set_option maxHeartbeats 4000000 in
set_option maxRecDepth 100000 in
theorem v_M_hash {l : Launch} {D : va_G} {g : ClassId → FieldType → Prop} {E : Nat → Prop} {H0 : Heap} {X : vM} {o : Nat} {r : Nat → Nat} {i : Nat → Int32} {a0 : Nat} {v1 : Nat} (hM : mo_ D g H0 o r i) (hE : ¬ E o) (hW : ∀ q ∈ mo_wr, E (r q.1)) (f0 : sx_A g .byte H0 a0 65664) (h1 : v1 ≤ 65600) (hV : mm g H0 = X) : Met l y_M_hash (.code y_M_hash b_M_hash 7 none :: G_) rm_M_hash (sx_Pc [.ref o, .ref a0, .int (nI v1)] H0 D g) (vx_Qv g E H0 (LF_M_hash X r a0 v1)) 0 0 E := by
  refine vx_mv (own := R_M) (by decide) rfl rfl rfl (Nat.le_of_ble_eq_true rfl) ?_
  intro p e s m args below meth c Q ls EE hl hret
  obtain ⟨hx, hb, hml, hown, hts, hG, hK⟩ := id EE
  have hS : sx_S g E E H0 H0 [] := sx_S.rf
  have hl : lv_has ls 7 [(0, .ref o), (1, .ref a0), (2, .int (nI (v1)))] := hl
  refine lv_iload_n hx hb d_M_hash_0 rfl (lv_at hl 2 rfl) ?_
  refine lv_bipush (v := nI 17) hx hb d_M_hash_1 (by decide +kernel) ?_
  refine lv_iadd hx hb d_M_hash_3 ?_
  refine sx_ti (y := nI (v1 + 17)) (nI_add _ _) ?_
  refine lv_bipush (v := nI 127) hx hb d_M_hash_4 (by decide +kernel) ?_
  refine lv_iadd hx hb d_M_hash_6 ?_
  refine sx_ti (y := nI ((v1 + 17) + 127)) (nI_add _ _) ?_
  refine lv_sipush (v := nI 128) hx hb d_M_hash_7 (by decide +kernel) ?_
  refine lv_idiv hx hb d_M_hash_10 (nI_ne0 (by omega) (by omega)) ?_
  refine sx_ti (y := nI (((v1 + 17) + 127) / 128)) (pk_div (by omega) (by omega) (by omega)) ?_
  refine lv_sipush (v := nI 128) hx hb d_M_hash_11 (by decide +kernel) ?_
  refine lv_imul hx hb d_M_hash_14 ?_
  refine sx_ti (y := nI ((((v1 + 17) + 127) / 128) * 128)) (pk_mul _ _) ?_
  refine lv_istore_n (lv' := [(3, .int (nI ((((v1 + 17) + 127) / 128) * 128))), (0, .ref o), (1, .ref a0), (2, .int (nI (v1)))]) hx hb d_M_hash_15 rfl hl (by decide) rfl (fun ls hl => ?_)
  refine lv_iconst (v := nI 0) hx hb d_M_hash_16 (by decide +kernel) ?_
  refine lv_istore (lv' := [(4, .int (nI (0))), (3, .int (nI ((((v1 + 17) + 127) / 128) * 128))), (0, .ref o), (1, .ref a0), (2, .int (nI (v1)))]) hx hb d_M_hash_17 hl (by decide) rfl (fun ls hl => ?_)
  obtain ⟨R3, eR3⟩ : ∃ t : vM, lpU 1 (LL_M_hash_19 r) 8 0 X = t := ⟨_, rfl⟩
  refine lpU_go (σ := vM) (P := fun i1 s2 H locs ls => sx_S g E E H0 H locs ∧ mm g H = s2 ∧ lv_has ls 7 [(4, .int (nI (i1))), (3, .int (nI ((((v1 + 17) + 127) / 128) * 128))), (0, .ref o), (1, .ref a0), (2, .int (nI (v1)))]) (Wd := fun H locs ls => W p l e rm_M_hash s m args below meth c H locs 0 0 Q (F0 m 19 ls [])) (N := 8) (d := 1) (by decide) ?_ ?_ 8 0 _ (by omega) eR3 _ _ _ ⟨hS, hV, lv_sub hl [0, 1, 2, 3, 4] rfl⟩
  · intro i1 s2 H locs ls hii1 hP ihi1
    obtain ⟨hS, hV, hl⟩ := hP
    refine lv_iload hx hb d_M_hash_19 (lv_at hl 0 rfl) ?_
    refine lv_bipush (v := nI 8) hx hb d_M_hash_21 (by decide +kernel) ?_
    refine lv_icmp_ge (tgt := 46) hx hb d_M_hash_23 (by decide) (fun q => absurd q (nI_ge (by omega) (by omega))) (fun _ => ?_)
    refine lv_aload_n hx hb d_M_hash_26 rfl (lv_at hl 2 rfl) ?_
    refine sx_get EE (hS.1.ob hE hM.1) rfl i_M 49 (by decide) rfl fl_M_150 rfl d_M_hash_27 ?_
    refine lv_iload hx hb d_M_hash_30 (lv_at hl 0 rfl) ?_
    refine lv_aload_n hx hb d_M_hash_32 rfl (lv_at hl 2 rfl) ?_
    refine sx_get EE (hS.1.ob hE hM.1) rfl i_M 47 (by decide) rfl fl_M_144 rfl d_M_hash_33 ?_
    refine lv_iload hx hb d_M_hash_36 (lv_at hl 0 rfl) ?_
    refine vx_lald hx hb hG hS hV (mo_47 hM) (by omega) (by decide) d_M_hash_38 ?_
    refine vx_last hx hb hG hS hV (mo_49 hM) (mow_49 hW) (by omega) (by decide) d_M_hash_39 (fun H locs X4 eX4 hS hV => ?_)
    refine lv_iinc (v := nI (i1 + 1)) (lv' := [(4, .int (nI (i1 + 1))), (3, .int (nI ((((v1 + 17) + 127) / 128) * 128))), (0, .ref o), (1, .ref a0), (2, .int (nI (v1)))]) hx hb d_M_hash_40 hl (k := 0) rfl (sx_inc _ _) (by decide) rfl (fun ls hl => ?_)
    refine lv_goto (tgt := 19) hx hb d_M_hash_43 (by decide) ?_
    exact ihi1 X4 _ _ _ (by subst eX4; exact rfl) ⟨hS, hV, lv_sub hl [0, 1, 2, 3, 4] rfl⟩
  · intro H locs ls hP
    obtain ⟨hS, hV, hl⟩ := hP
    refine lv_iload hx hb d_M_hash_19 (lv_at hl 0 rfl) ?_
    refine lv_bipush (v := nI 8) hx hb d_M_hash_21 (by decide +kernel) ?_
    refine lv_icmp_ge (tgt := 46) hx hb d_M_hash_23 (by decide) (fun _ => ?_) (fun q => absurd (nI_le (by omega) (by omega)) q)
    refine lv_iconst (v := nI 0) hx hb d_M_hash_46 (by decide +kernel) ?_
    refine lv_istore (lv' := [(4, .int (nI (0))), (3, .int (nI ((((v1 + 17) + 127) / 128) * 128))), (0, .ref o), (1, .ref a0), (2, .int (nI (v1)))]) hx hb d_M_hash_47 hl (by decide) rfl (fun ls hl => ?_)
    obtain ⟨R7, eR7⟩ : ∃ t : vM, lpU 128 (LL_M_hash_49 r a0 v1) (((((v1 + 17) + 127) / 128) * 128 - 0) / 128) 0 R3 = t := ⟨_, rfl⟩
    refine lpU_go (σ := vM) (P := fun i5 s6 H locs ls => i5 % 128 = 0 % 128 ∧ sx_S g E E H0 H locs ∧ mm g H = s6 ∧ lv_has ls 7 [(4, .int (nI (i5))), (3, .int (nI ((((v1 + 17) + 127) / 128) * 128))), (0, .ref o), (1, .ref a0), (2, .int (nI (v1)))]) (Wd := fun H locs ls => W p l e rm_M_hash s m args below meth c H locs 0 0 Q (F0 m 49 ls [])) (N := ((((v1 + 17) + 127) / 128) * 128)) (d := 128) (by decide) ?_ ?_ (((((v1 + 17) + 127) / 128) * 128 - 0) / 128) 0 _ (by omega) eR7 _ _ _ ⟨(by omega), hS, hV, lv_sub hl [0, 1, 2, 3, 4] rfl⟩
    · intro i5 s6 H locs ls hii5 hP ihi5
      obtain ⟨hxs6_0, hS, hV, hl⟩ := hP
      refine lv_iload hx hb d_M_hash_49 (lv_at hl 0 rfl) ?_
      refine lv_iload_n hx hb d_M_hash_51 rfl (lv_at hl 1 rfl) ?_
      refine lv_icmp_ge (tgt := 144) hx hb d_M_hash_52 (by decide) (fun q => absurd q (nI_ge (by omega) (by omega))) (fun _ => ?_)
      refine lv_iconst (v := nI 0) hx hb d_M_hash_55 (by decide +kernel) ?_
      refine lv_istore (lv' := [(5, .int (nI (0))), (4, .int (nI (i5))), (3, .int (nI ((((v1 + 17) + 127) / 128) * 128))), (0, .ref o), (1, .ref a0), (2, .int (nI (v1)))]) hx hb d_M_hash_56 hl (by decide) rfl (fun ls hl => ?_)
      obtain ⟨R10, eR10⟩ : ∃ t : vM, lpU 1 (LL_M_hash_58 r a0 v1 i5) 16 0 s6 = t := ⟨_, rfl⟩
      refine lpU_go (σ := vM) (P := fun i8 s9 H locs ls => sx_S g E E H0 H locs ∧ mm g H = s9 ∧ lv_has ls 7 [(5, .int (nI (i8))), (4, .int (nI (i5))), (3, .int (nI ((((v1 + 17) + 127) / 128) * 128))), (0, .ref o), (1, .ref a0), (2, .int (nI (v1)))]) (Wd := fun H locs ls => W p l e rm_M_hash s m args below meth c H locs 0 0 Q (F0 m 58 ls [])) (N := 16) (d := 1) (by decide) ?_ ?_ 16 0 _ (by omega) eR10 _ _ _ ⟨hS, hV, lv_sub hl [0, 1, 2, 3, 4, 5] rfl⟩
      · intro i8 s9 H locs ls hii8 hP ihi8
        obtain ⟨hS, hV, hl⟩ := hP
        refine lv_iload hx hb d_M_hash_58 (lv_at hl 0 rfl) ?_
        refine lv_bipush (v := nI 16) hx hb d_M_hash_60 (by decide +kernel) ?_
        refine lv_icmp_ge (tgt := 131) hx hb d_M_hash_62 (by decide) (fun q => absurd q (nI_ge (by omega) (by omega))) (fun _ => ?_)
        refine lv_aload_n hx hb d_M_hash_65 rfl (lv_at hl 3 rfl) ?_
        refine sx_get EE (hS.1.ob hE hM.1) rfl i_M 48 (by decide) rfl fl_M_147 rfl d_M_hash_66 ?_
        refine lv_iload hx hb d_M_hash_69 (lv_at hl 0 rfl) ?_
        refine lv_lconst (v := 0) hx hb d_M_hash_71 (by decide +kernel) ?_
        refine vx_last hx hb hG hS hV (mo_48 hM) (mow_48 hW) (by omega) (by decide) d_M_hash_72 (fun H locs X11 eX11 hS hV => ?_)
        refine lv_iconst (v := nI 0) hx hb d_M_hash_73 (by decide +kernel) ?_
        refine lv_istore (lv' := [(6, .int (nI (0))), (5, .int (nI (i8))), (4, .int (nI (i5))), (3, .int (nI ((((v1 + 17) + 127) / 128) * 128))), (0, .ref o), (1, .ref a0), (2, .int (nI (v1)))]) hx hb d_M_hash_74 hl (by decide) rfl (fun ls hl => ?_)
        obtain ⟨R14, eR14⟩ : ∃ t : vM, lpU 1 (LL_M_hash_76 r i8 a0 v1 i5) 8 0 X11 = t := ⟨_, rfl⟩
        refine lpU_go (σ := vM) (P := fun i12 s13 H locs ls => sx_S g E E H0 H locs ∧ mm g H = s13 ∧ lv_has ls 7 [(6, .int (nI (i12))), (5, .int (nI (i8))), (4, .int (nI (i5))), (3, .int (nI ((((v1 + 17) + 127) / 128) * 128))), (0, .ref o), (1, .ref a0), (2, .int (nI (v1)))]) (Wd := fun H locs ls => W p l e rm_M_hash s m args below meth c H locs 0 0 Q (F0 m 76 ls [])) (N := 8) (d := 1) (by decide) ?_ ?_ 8 0 _ (by omega) eR14 _ _ _ ⟨hS, hV, lv_sub hl [0, 1, 2, 3, 4, 5, 6] rfl⟩
        · intro i12 s13 H locs ls hii12 hP ihi12
          obtain ⟨hS, hV, hl⟩ := hP
          refine lv_iload hx hb d_M_hash_76 (lv_at hl 0 rfl) ?_
          refine lv_bipush (v := nI 8) hx hb d_M_hash_78 (by decide +kernel) ?_
          refine lv_icmp_ge (tgt := 125) hx hb d_M_hash_80 (by decide) (fun q => absurd q (nI_ge (by omega) (by omega))) (fun _ => ?_)
          refine lv_aload_n hx hb d_M_hash_83 rfl (lv_at hl 4 rfl) ?_
          refine sx_get EE (hS.1.ob hE hM.1) rfl i_M 48 (by decide) rfl fl_M_147 rfl d_M_hash_84 ?_
          refine lv_iload hx hb d_M_hash_87 (lv_at hl 1 rfl) ?_
          refine lv_aload_n hx hb d_M_hash_89 rfl (lv_at hl 4 rfl) ?_
          refine sx_get EE (hS.1.ob hE hM.1) rfl i_M 48 (by decide) rfl fl_M_147 rfl d_M_hash_90 ?_
          refine lv_iload hx hb d_M_hash_93 (lv_at hl 1 rfl) ?_
          refine vx_lald hx hb hG hS hV (mo_48 hM) (by omega) (by decide) d_M_hash_95 ?_
          refine lv_bipush (v := nI 8) hx hb d_M_hash_96 (by decide +kernel) ?_
          refine lv_lshl hx hb d_M_hash_98 rfl ?_
          refine lv_aload_n hx hb d_M_hash_99 rfl (lv_at hl 5 rfl) ?_
          refine lv_iload_n hx hb d_M_hash_100 rfl (lv_at hl 6 rfl) ?_
          refine lv_iload hx hb d_M_hash_101 (lv_at hl 2 rfl) ?_
          refine lv_bipush (v := nI 8) hx hb d_M_hash_103 (by decide +kernel) ?_
          refine lv_iload hx hb d_M_hash_105 (lv_at hl 1 rfl) ?_
          refine lv_imul hx hb d_M_hash_107 ?_
          refine sx_ti (y := nI (8 * i8)) (pk_mul _ _) ?_
          refine lv_iadd hx hb d_M_hash_108 ?_
          refine sx_ti (y := nI (i5 + (8 * i8))) (nI_add _ _) ?_
          refine lv_iload hx hb d_M_hash_109 (lv_at hl 0 rfl) ?_
          refine lv_iadd hx hb d_M_hash_111 ?_
          refine sx_ti (y := nI ((i5 + (8 * i8)) + i12)) (nI_add _ _) ?_
          refine lv_iload_n hx hb d_M_hash_112 rfl (lv_at hl 3 rfl) ?_
          refine vx_gi (sx_runS (As := [.ref a0, .int (nI (v1)), .int (nI ((i5 + (8 * i8)) + i12)), .int (nI ((((v1 + 17) + 127) / 128) * 128))]) (rest := [.long ((s13.1 (r 48) i8) <<< ((nI 8).toInt64 &&& 63)), .int (nI (i8)), .ref (r 48)]) EE (v_M_padded (X := s13) (hS.a f0) (by omega) (by omega) (by omega) hV) w_M_260 rfl ⟨rfl, rfl⟩ ⟨Nat.le_of_ble_eq_true rfl, Nat.le_of_ble_eq_true rfl⟩ ⟨Nat.zero_le _, Nat.zero_le _⟩ hl.1 rfl (Nat.le_of_ble_eq_true rfl) d_M_hash_113) hS (fun H locs X_ eX_ hS hV => ?_)
          subst eX_
          refine lv_i2l hx hb d_M_hash_116 rfl ?_
          refine lv_lor hx hb d_M_hash_117 ?_
          refine vx_last hx hb hG hS hV (mo_48 hM) (mow_48 hW) (by omega) (by decide) d_M_hash_118 (fun H locs X15 eX15 hS hV => ?_)
          refine lv_iinc (v := nI (i12 + 1)) (lv' := [(6, .int (nI (i12 + 1))), (5, .int (nI (i8))), (4, .int (nI (i5))), (3, .int (nI ((((v1 + 17) + 127) / 128) * 128))), (0, .ref o), (1, .ref a0), (2, .int (nI (v1)))]) hx hb d_M_hash_119 hl (k := 0) rfl (sx_inc _ _) (by decide) rfl (fun ls hl => ?_)
          refine lv_goto (tgt := 76) hx hb d_M_hash_122 (by decide) ?_
          exact ihi12 X15 _ _ _ (by subst eX15; exact rfl) ⟨hS, hV, lv_sub hl [0, 1, 2, 3, 4, 5, 6] rfl⟩
        · intro H locs ls hP
          obtain ⟨hS, hV, hl⟩ := hP
          refine lv_iload hx hb d_M_hash_76 (lv_at hl 0 rfl) ?_
          refine lv_bipush (v := nI 8) hx hb d_M_hash_78 (by decide +kernel) ?_
          refine lv_icmp_ge (tgt := 125) hx hb d_M_hash_80 (by decide) (fun _ => ?_) (fun q => absurd (nI_le (by omega) (by omega)) q)
          refine lv_iinc (v := nI (i8 + 1)) (lv' := [(5, .int (nI (i8 + 1))), (6, .int (nI (8))), (4, .int (nI (i5))), (3, .int (nI ((((v1 + 17) + 127) / 128) * 128))), (0, .ref o), (1, .ref a0), (2, .int (nI (v1)))]) hx hb d_M_hash_125 hl (k := 1) rfl (sx_inc _ _) (by decide) rfl (fun ls hl => ?_)
          refine lv_goto (tgt := 58) hx hb d_M_hash_128 (by decide) ?_
          exact ihi8 R14 _ _ _ (by subst eX11 eR14; exact rfl) ⟨hS, hV, lv_sub hl [0, 2, 3, 4, 5, 6] rfl⟩
      · intro H locs ls hP
        obtain ⟨hS, hV, hl⟩ := hP
        refine lv_iload hx hb d_M_hash_58 (lv_at hl 0 rfl) ?_
        refine lv_bipush (v := nI 16) hx hb d_M_hash_60 (by decide +kernel) ?_
        refine lv_icmp_ge (tgt := 131) hx hb d_M_hash_62 (by decide) (fun _ => ?_) (fun q => absurd (nI_le (by omega) (by omega)) q)
        refine lv_aload_n hx hb d_M_hash_131 rfl (lv_at hl 3 rfl) ?_
        refine vx_gv (sx_runV (As := []) (rest := []) EE (hS.1.ob hE hM.1) rfl rfl (v_M_over (X := R10) (hM.kept hS.1 hE) hE hW hV) w_M_264 rfl ⟨rfl, rfl⟩ ⟨Nat.le_of_ble_eq_true rfl, Nat.le_of_ble_eq_true rfl⟩ ⟨Nat.zero_le _, Nat.zero_le _⟩ hl.1 rfl (Nat.le_of_ble_eq_true rfl) d_M_hash_132) hS (fun H locs X16 eX16 hS hV => ?_)
        refine lv_iincW (v := nI (i5 + 128)) (lv' := [(4, .int (nI (i5 + 128))), (5, .int (nI (16))), (3, .int (nI ((((v1 + 17) + 127) / 128) * 128))), (0, .ref o), (1, .ref a0), (2, .int (nI (v1)))]) hx hb d_M_hash_135 hl (k := 1) rfl (sx_inc _ _) (by decide) rfl (fun ls hl => ?_)
        refine lv_goto (tgt := 49) hx hb d_M_hash_141 (by decide) ?_
        exact ihi5 X16 _ _ _ (by subst eR10 eX16; exact rfl) ⟨(by omega), hS, hV, lv_sub hl [0, 2, 3, 4, 5] rfl⟩
    · intro H locs ls hP
      obtain ⟨hxR7_0, hS, hV, hl⟩ := hP
      refine lv_iload hx hb d_M_hash_49 (lv_at hl 0 rfl) ?_
      refine lv_iload_n hx hb d_M_hash_51 rfl (lv_at hl 1 rfl) ?_
      refine lv_icmp_ge (tgt := 144) hx hb d_M_hash_52 (by decide) (fun _ => ?_) (fun q => absurd (nI_le (by omega) (by omega)) q)
      refine lv_iconst (v := nI 0) hx hb d_M_hash_144 (by decide +kernel) ?_
      refine lv_istore (lv' := [(4, .int (nI (0))), (3, .int (nI ((((v1 + 17) + 127) / 128) * 128))), (0, .ref o), (1, .ref a0), (2, .int (nI (v1)))]) hx hb d_M_hash_145 hl (by decide) rfl (fun ls hl => ?_)
      obtain ⟨R19, eR19⟩ : ∃ t : vM, lpU 1 (LL_M_hash_147 r) 64 0 R7 = t := ⟨_, rfl⟩
      refine lpU_go (σ := vM) (P := fun i17 s18 H locs ls => sx_S g E E H0 H locs ∧ mm g H = s18 ∧ lv_has ls 7 [(4, .int (nI (i17))), (0, .ref o)]) (Wd := fun H locs ls => W p l e rm_M_hash s m args below meth c H locs 0 0 Q (F0 m 147 ls [])) (N := 64) (d := 1) (by decide) ?_ ?_ 64 0 _ (by omega) eR19 _ _ _ ⟨hS, hV, lv_sub hl [0, 2] rfl⟩
      · intro i17 s18 H locs ls hii17 hP ihi17
        obtain ⟨hS, hV, hl⟩ := hP
        refine lv_iload hx hb d_M_hash_147 (lv_at hl 0 rfl) ?_
        refine lv_bipush (v := nI 64) hx hb d_M_hash_149 (by decide +kernel) ?_
        refine lv_icmp_ge (tgt := 191) hx hb d_M_hash_151 (by decide) (fun q => absurd q (nI_ge (by omega) (by omega))) (fun _ => ?_)
        refine lv_aload_n hx hb d_M_hash_154 rfl (lv_at hl 1 rfl) ?_
        refine sx_get EE (hS.1.ob hE hM.1) rfl i_M 52 (by decide) rfl fl_M_159 rfl d_M_hash_155 ?_
        refine lv_iload hx hb d_M_hash_158 (lv_at hl 0 rfl) ?_
        refine lv_aload_n hx hb d_M_hash_160 rfl (lv_at hl 1 rfl) ?_
        refine sx_get EE (hS.1.ob hE hM.1) rfl i_M 49 (by decide) rfl fl_M_150 rfl d_M_hash_161 ?_
        refine lv_iload hx hb d_M_hash_164 (lv_at hl 0 rfl) ?_
        refine lv_bipush (v := nI 8) hx hb d_M_hash_166 (by decide +kernel) ?_
        refine lv_idiv hx hb d_M_hash_168 (nI_ne0 (by omega) (by omega)) ?_
        refine sx_ti (y := nI (i17 / 8)) (pk_div (by omega) (by omega) (by omega)) ?_
        refine vx_lald hx hb hG hS hV (mo_49 hM) (by omega) (by decide) d_M_hash_169 ?_
        refine lv_bipush (v := nI 56) hx hb d_M_hash_170 (by decide +kernel) ?_
        refine lv_bipush (v := nI 8) hx hb d_M_hash_172 (by decide +kernel) ?_
        refine lv_iload hx hb d_M_hash_174 (lv_at hl 0 rfl) ?_
        refine lv_bipush (v := nI 8) hx hb d_M_hash_176 (by decide +kernel) ?_
        refine lv_irem hx hb d_M_hash_178 (nI_ne0 (by omega) (by omega)) ?_
        refine sx_ti (y := nI (i17 % 8)) (pk_rem (by omega) (by omega) (by omega)) ?_
        refine lv_imul hx hb d_M_hash_179 ?_
        refine sx_ti (y := nI (8 * (i17 % 8))) (pk_mul _ _) ?_
        refine lv_isub hx hb d_M_hash_180 ?_
        refine sx_ti (y := nI (56 - (8 * (i17 % 8)))) (pk_sub (by omega)) ?_
        refine lv_lushr hx hb d_M_hash_181 rfl ?_
        refine lv_l2i hx hb d_M_hash_182 rfl ?_
        refine lv_i2b hx hb d_M_hash_183 rfl ?_
        refine vx_bast hx hb hG hS hV (mo_52 hM) (mow_52 hW) (by omega) (by decide) d_M_hash_184 (fun H locs X20 eX20 hS hV => ?_)
        refine lv_iinc (v := nI (i17 + 1)) (lv' := [(4, .int (nI (i17 + 1))), (0, .ref o)]) hx hb d_M_hash_185 hl (k := 0) rfl (sx_inc _ _) (by decide) rfl (fun ls hl => ?_)
        refine lv_goto (tgt := 147) hx hb d_M_hash_188 (by decide) ?_
        exact ihi17 X20 _ _ _ (by subst eX20; exact rfl) ⟨hS, hV, lv_sub hl [0, 1] rfl⟩
      · intro H locs ls hP
        obtain ⟨hS, hV, hl⟩ := hP
        refine lv_iload hx hb d_M_hash_147 (lv_at hl 0 rfl) ?_
        refine lv_bipush (v := nI 64) hx hb d_M_hash_149 (by decide +kernel) ?_
        refine lv_icmp_ge (tgt := 191) hx hb d_M_hash_151 (by decide) (fun _ => ?_) (fun q => absurd (nI_le (by omega) (by omega)) q)
        exact hret _ _ _ _ _ (by subst eR3 eR7 eR19; exact rfl) hS hV d_M_hash_191
def LL_M_hashNumber_2 (r : Nat → Nat) : Nat → vM → vM := fun i_0 s_1 => (let X_2 : vM := stL s_1 (r 40) i_0 ((((s_1.2 (r 52) (2 * i_0)) &&& (nI 255)) ||| (((s_1.2 (r 52) ((2 * i_0) + 1)) &&& (nI 255)) <<< ((nI 8) &&& 31))).toInt64); X_2)
def LF_M_hashNumber (X : vM) (r : Nat → Nat) (a0 : Nat) : vM := (let R3 : vM := lpU 1 (LL_M_hashNumber_2 r) 32 0 X; (let X5 : vM := (LF_M_reduce R3 r a0 (r 12) (r 13)); X5))
abbrev rm_M_hashNumber : Room := { frames := 2, cells := 0, slots := 0, locals := 56 }
set_option maxHeartbeats 4000000 in
set_option maxRecDepth 100000 in
theorem v_M_hashNumber {l : Launch} {D : va_G} {g : ClassId → FieldType → Prop} {E : Nat → Prop} {H0 : Heap} {X : vM} {o : Nat} {r : Nat → Nat} {i : Nat → Int32} {a0 : Nat} (hM : mo_ D g H0 o r i) (hE : ¬ E o) (hW : ∀ q ∈ mo_wr, E (r q.1)) (f0 : sx_A g .long H0 a0 16) (o0 : E a0) (hV : mm g H0 = X) : Met l y_M_hashNumber (.code y_M_hashNumber b_M_hashNumber 3 none :: G_) rm_M_hashNumber (sx_Pc [.ref o, .ref a0] H0 D g) (vx_Qv g E H0 (LF_M_hashNumber X r a0)) 0 0 E := by
  refine vx_mv (own := R_M) (by decide) rfl rfl rfl (Nat.le_of_ble_eq_true rfl) ?_
  intro p e s m args below meth c Q ls EE hl hret
  obtain ⟨hx, hb, hml, hown, hts, hG, hK⟩ := id EE
  have hS : sx_S g E E H0 H0 [] := sx_S.rf
  have hl : lv_has ls 3 [(0, .ref o), (1, .ref a0)] := hl
  refine lv_iconst (v := nI 0) hx hb d_M_hashNumber_0 (by decide +kernel) ?_
  refine lv_istore_n (lv' := [(2, .int (nI (0))), (0, .ref o), (1, .ref a0)]) hx hb d_M_hashNumber_1 rfl hl (by decide) rfl (fun ls hl => ?_)
  obtain ⟨R3, eR3⟩ : ∃ t : vM, lpU 1 (LL_M_hashNumber_2 r) 32 0 X = t := ⟨_, rfl⟩
  refine lpU_go (σ := vM) (P := fun i1 s2 H locs ls => sx_S g E E H0 H locs ∧ mm g H = s2 ∧ lv_has ls 3 [(2, .int (nI (i1))), (0, .ref o), (1, .ref a0)]) (Wd := fun H locs ls => W p l e rm_M_hashNumber s m args below meth c H locs 0 0 Q (F0 m 2 ls [])) (N := 32) (d := 1) (by decide) ?_ ?_ 32 0 _ (by omega) eR3 _ _ _ ⟨hS, hV, lv_sub hl [0, 1, 2] rfl⟩
  · intro i1 s2 H locs ls hii1 hP ihi1
    obtain ⟨hS, hV, hl⟩ := hP
    refine lv_iload_n hx hb d_M_hashNumber_2 rfl (lv_at hl 0 rfl) ?_
    refine lv_bipush (v := nI 32) hx hb d_M_hashNumber_3 (by decide +kernel) ?_
    refine lv_icmp_ge (tgt := 51) hx hb d_M_hashNumber_5 (by decide) (fun q => absurd q (nI_ge (by omega) (by omega))) (fun _ => ?_)
    refine lv_aload_n hx hb d_M_hashNumber_8 rfl (lv_at hl 1 rfl) ?_
    refine sx_get EE (hS.1.ob hE hM.1) rfl i_M 40 (by decide) rfl fl_M_123 rfl d_M_hashNumber_9 ?_
    refine lv_iload_n hx hb d_M_hashNumber_12 rfl (lv_at hl 0 rfl) ?_
    refine lv_aload_n hx hb d_M_hashNumber_13 rfl (lv_at hl 1 rfl) ?_
    refine sx_get EE (hS.1.ob hE hM.1) rfl i_M 52 (by decide) rfl fl_M_159 rfl d_M_hashNumber_14 ?_
    refine lv_iconst (v := nI 2) hx hb d_M_hashNumber_17 (by decide +kernel) ?_
    refine lv_iload_n hx hb d_M_hashNumber_18 rfl (lv_at hl 0 rfl) ?_
    refine lv_imul hx hb d_M_hashNumber_19 ?_
    refine sx_ti (y := nI (2 * i1)) (pk_mul _ _) ?_
    refine vx_bald hx hb hG hS hV (mo_52 hM) (by omega) (by decide) d_M_hashNumber_20 ?_
    refine lv_sipush (v := nI 255) hx hb d_M_hashNumber_21 (by decide +kernel) ?_
    refine lv_iand hx hb d_M_hashNumber_24 ?_
    refine lv_aload_n hx hb d_M_hashNumber_25 rfl (lv_at hl 1 rfl) ?_
    refine sx_get EE (hS.1.ob hE hM.1) rfl i_M 52 (by decide) rfl fl_M_159 rfl d_M_hashNumber_26 ?_
    refine lv_iconst (v := nI 2) hx hb d_M_hashNumber_29 (by decide +kernel) ?_
    refine lv_iload_n hx hb d_M_hashNumber_30 rfl (lv_at hl 0 rfl) ?_
    refine lv_imul hx hb d_M_hashNumber_31 ?_
    refine sx_ti (y := nI (2 * i1)) (pk_mul _ _) ?_
    refine lv_iconst (v := nI 1) hx hb d_M_hashNumber_32 (by decide +kernel) ?_
    refine lv_iadd hx hb d_M_hashNumber_33 ?_
    refine sx_ti (y := nI ((2 * i1) + 1)) (nI_add _ _) ?_
    refine vx_bald hx hb hG hS hV (mo_52 hM) (by omega) (by decide) d_M_hashNumber_34 ?_
    refine lv_sipush (v := nI 255) hx hb d_M_hashNumber_35 (by decide +kernel) ?_
    refine lv_iand hx hb d_M_hashNumber_38 ?_
    refine lv_bipush (v := nI 8) hx hb d_M_hashNumber_39 (by decide +kernel) ?_
    refine lv_ishl hx hb d_M_hashNumber_41 ?_
    refine lv_ior hx hb d_M_hashNumber_42 ?_
    refine lv_i2l hx hb d_M_hashNumber_43 rfl ?_
    refine vx_last hx hb hG hS hV (mo_40 hM) (mow_40 hW) (by omega) (by decide) d_M_hashNumber_44 (fun H locs X4 eX4 hS hV => ?_)
    refine lv_iinc (v := nI (i1 + 1)) (lv' := [(2, .int (nI (i1 + 1))), (0, .ref o), (1, .ref a0)]) hx hb d_M_hashNumber_45 hl (k := 0) rfl (sx_inc _ _) (by decide) rfl (fun ls hl => ?_)
    refine lv_goto (tgt := 2) hx hb d_M_hashNumber_48 (by decide) ?_
    exact ihi1 X4 _ _ _ (by subst eX4; exact rfl) ⟨hS, hV, lv_sub hl [0, 1, 2] rfl⟩
  · intro H locs ls hP
    obtain ⟨hS, hV, hl⟩ := hP
    refine lv_iload_n hx hb d_M_hashNumber_2 rfl (lv_at hl 0 rfl) ?_
    refine lv_bipush (v := nI 32) hx hb d_M_hashNumber_3 (by decide +kernel) ?_
    refine lv_icmp_ge (tgt := 51) hx hb d_M_hashNumber_5 (by decide) (fun _ => ?_) (fun q => absurd (nI_le (by omega) (by omega)) q)
    refine lv_aload_n hx hb d_M_hashNumber_51 rfl (lv_at hl 1 rfl) ?_
    refine lv_aload_n hx hb d_M_hashNumber_52 rfl (lv_at hl 2 rfl) ?_
    refine lv_aload_n hx hb d_M_hashNumber_53 rfl (lv_at hl 1 rfl) ?_
    refine sx_get EE (hS.1.ob hE hM.1) rfl i_M 12 (by decide) rfl fl_M_34 rfl d_M_hashNumber_54 ?_
    refine lv_aload_n hx hb d_M_hashNumber_57 rfl (lv_at hl 1 rfl) ?_
    refine sx_get EE (hS.1.ob hE hM.1) rfl i_M 13 (by decide) rfl fl_M_37 rfl d_M_hashNumber_58 ?_
    refine vx_gv (sx_runV (As := [.ref a0, .ref (r 12), .ref (r 13)]) (rest := []) EE (hS.1.ob hE hM.1) rfl rfl (v_M_reduce (X := R3) (hM.kept hS.1 hE) hE hW (hS.a f0) o0 (hS.a (mo_12 hM)) (hS.a (mo_13 hM)) hV) w_M_225 rfl ⟨rfl, rfl⟩ ⟨Nat.le_of_ble_eq_true rfl, Nat.le_of_ble_eq_true rfl⟩ ⟨Nat.zero_le _, Nat.zero_le _⟩ hl.1 rfl (Nat.le_of_ble_eq_true rfl) d_M_hashNumber_61) hS (fun H locs X5 eX5 hS hV => ?_)
    exact hret _ _ _ _ _ (by subst eR3 eX5; exact rfl) hS hV d_M_hashNumber_64
def LL_M_clamped_3 (a0 : Nat) (a1 : Nat) (v2 : Nat) : Nat → vM → vM := fun i_0 s_1 => (let X_2 : vM := stL s_1 a0 i_0 ((((s_1.2 a1 (v2 + (2 * i_0))) &&& (nI 255)) ||| (((s_1.2 a1 ((v2 + (2 * i_0)) + 1)) &&& (nI 255)) <<< ((nI 8) &&& 31))).toInt64); X_2)
def LF_M_clamped (X : vM) (r : Nat → Nat) (a0 : Nat) (a1 : Nat) (v2 : Nat) : vM := (let R3 : vM := lpU 1 (LL_M_clamped_3 a0 a1 v2) 16 0 X; (let X5 : vM := stL R3 a0 0 ((R3.1 a0 0) &&& (65528 : Int64)); let X6 : vM := stL X5 a0 15 (((X5.1 a0 15) &&& (32767 : Int64)) ||| (16384 : Int64)); X6))
abbrev rm_M_clamped : Room := { frames := 0, cells := 0, slots := 0, locals := 0 }
set_option maxHeartbeats 4000000 in
set_option maxRecDepth 100000 in
theorem v_M_clamped {l : Launch} {D : va_G} {g : ClassId → FieldType → Prop} {E : Nat → Prop} {H0 : Heap} {X : vM} {o : Nat} {r : Nat → Nat} {i : Nat → Int32} {a0 : Nat} {n1 : Nat} {a1 : Nat} {v2 : Nat} (hM : mo_ D g H0 o r i) (hE : ¬ E o) (hW : ∀ q ∈ mo_wr, E (r q.1)) (f0 : sx_A g .long H0 a0 16) (o0 : E a0) (f1 : sx_A g .byte H0 a1 n1) (h2 : v2 + 32 ≤ n1) (hn1 : n1 < 2147483648) (hV : mm g H0 = X) : Met l y_M_clamped (.code y_M_clamped b_M_clamped 5 none :: G_) rm_M_clamped (sx_Pc [.ref o, .ref a0, .ref a1, .int (nI v2)] H0 D g) (vx_Qv g E H0 (LF_M_clamped X r a0 a1 v2)) 0 0 E := by
  refine vx_mv (own := R_M) (by decide) rfl rfl rfl (Nat.le_of_ble_eq_true rfl) ?_
  intro p e s m args below meth c Q ls EE hl hret
  obtain ⟨hx, hb, hml, hown, hts, hG, hK⟩ := id EE
  have hS : sx_S g E E H0 H0 [] := sx_S.rf
  have hl : lv_has ls 5 [(0, .ref o), (1, .ref a0), (2, .ref a1), (3, .int (nI (v2)))] := hl
  refine lv_iconst (v := nI 0) hx hb d_M_clamped_0 (by decide +kernel) ?_
  refine lv_istore (lv' := [(4, .int (nI (0))), (0, .ref o), (1, .ref a0), (2, .ref a1), (3, .int (nI (v2)))]) hx hb d_M_clamped_1 hl (by decide) rfl (fun ls hl => ?_)
  obtain ⟨R3, eR3⟩ : ∃ t : vM, lpU 1 (LL_M_clamped_3 a0 a1 v2) 16 0 X = t := ⟨_, rfl⟩
  refine lpU_go (σ := vM) (P := fun i1 s2 H locs ls => sx_S g E E H0 H locs ∧ mm g H = s2 ∧ lv_has ls 5 [(4, .int (nI (i1))), (1, .ref a0), (2, .ref a1), (3, .int (nI (v2)))]) (Wd := fun H locs ls => W p l e rm_M_clamped s m args below meth c H locs 0 0 Q (F0 m 3 ls [])) (N := 16) (d := 1) (by decide) ?_ ?_ 16 0 _ (by omega) eR3 _ _ _ ⟨hS, hV, lv_sub hl [0, 2, 3, 4] rfl⟩
  · intro i1 s2 H locs ls hii1 hP ihi1
    obtain ⟨hS, hV, hl⟩ := hP
    refine lv_iload hx hb d_M_clamped_3 (lv_at hl 0 rfl) ?_
    refine lv_bipush (v := nI 16) hx hb d_M_clamped_5 (by decide +kernel) ?_
    refine lv_icmp_ge (tgt := 51) hx hb d_M_clamped_7 (by decide) (fun q => absurd q (nI_ge (by omega) (by omega))) (fun _ => ?_)
    refine lv_aload_n hx hb d_M_clamped_10 rfl (lv_at hl 1 rfl) ?_
    refine lv_iload hx hb d_M_clamped_11 (lv_at hl 0 rfl) ?_
    refine lv_aload_n hx hb d_M_clamped_13 rfl (lv_at hl 2 rfl) ?_
    refine lv_iload_n hx hb d_M_clamped_14 rfl (lv_at hl 3 rfl) ?_
    refine lv_iconst (v := nI 2) hx hb d_M_clamped_15 (by decide +kernel) ?_
    refine lv_iload hx hb d_M_clamped_16 (lv_at hl 0 rfl) ?_
    refine lv_imul hx hb d_M_clamped_18 ?_
    refine sx_ti (y := nI (2 * i1)) (pk_mul _ _) ?_
    refine lv_iadd hx hb d_M_clamped_19 ?_
    refine sx_ti (y := nI (v2 + (2 * i1))) (nI_add _ _) ?_
    refine vx_bald hx hb hG hS hV f1 (by omega) (by omega) d_M_clamped_20 ?_
    refine lv_sipush (v := nI 255) hx hb d_M_clamped_21 (by decide +kernel) ?_
    refine lv_iand hx hb d_M_clamped_24 ?_
    refine lv_aload_n hx hb d_M_clamped_25 rfl (lv_at hl 2 rfl) ?_
    refine lv_iload_n hx hb d_M_clamped_26 rfl (lv_at hl 3 rfl) ?_
    refine lv_iconst (v := nI 2) hx hb d_M_clamped_27 (by decide +kernel) ?_
    refine lv_iload hx hb d_M_clamped_28 (lv_at hl 0 rfl) ?_
    refine lv_imul hx hb d_M_clamped_30 ?_
    refine sx_ti (y := nI (2 * i1)) (pk_mul _ _) ?_
    refine lv_iadd hx hb d_M_clamped_31 ?_
    refine sx_ti (y := nI (v2 + (2 * i1))) (nI_add _ _) ?_
    refine lv_iconst (v := nI 1) hx hb d_M_clamped_32 (by decide +kernel) ?_
    refine lv_iadd hx hb d_M_clamped_33 ?_
    refine sx_ti (y := nI ((v2 + (2 * i1)) + 1)) (nI_add _ _) ?_
    refine vx_bald hx hb hG hS hV f1 (by omega) (by omega) d_M_clamped_34 ?_
    refine lv_sipush (v := nI 255) hx hb d_M_clamped_35 (by decide +kernel) ?_
    refine lv_iand hx hb d_M_clamped_38 ?_
    refine lv_bipush (v := nI 8) hx hb d_M_clamped_39 (by decide +kernel) ?_
    refine lv_ishl hx hb d_M_clamped_41 ?_
    refine lv_ior hx hb d_M_clamped_42 ?_
    refine lv_i2l hx hb d_M_clamped_43 rfl ?_
    refine vx_last hx hb hG hS hV f0 o0 (by omega) (by decide) d_M_clamped_44 (fun H locs X4 eX4 hS hV => ?_)
    refine lv_iinc (v := nI (i1 + 1)) (lv' := [(4, .int (nI (i1 + 1))), (1, .ref a0), (2, .ref a1), (3, .int (nI (v2)))]) hx hb d_M_clamped_45 hl (k := 0) rfl (sx_inc _ _) (by decide) rfl (fun ls hl => ?_)
    refine lv_goto (tgt := 3) hx hb d_M_clamped_48 (by decide) ?_
    exact ihi1 X4 _ _ _ (by subst eX4; exact rfl) ⟨hS, hV, lv_sub hl [0, 1, 2, 3] rfl⟩
  · intro H locs ls hP
    obtain ⟨hS, hV, hl⟩ := hP
    refine lv_iload hx hb d_M_clamped_3 (lv_at hl 0 rfl) ?_
    refine lv_bipush (v := nI 16) hx hb d_M_clamped_5 (by decide +kernel) ?_
    refine lv_icmp_ge (tgt := 51) hx hb d_M_clamped_7 (by decide) (fun _ => ?_) (fun q => absurd (nI_le (by omega) (by omega)) q)
    refine lv_aload_n hx hb d_M_clamped_51 rfl (lv_at hl 1 rfl) ?_
    refine lv_iconst (v := nI 0) hx hb d_M_clamped_52 (by decide +kernel) ?_
    refine lv_dup2_11 hx hb d_M_clamped_53 rfl rfl ?_
    refine vx_lald hx hb hG hS hV f0 (by omega) (by decide) d_M_clamped_54 ?_
    refine lv_ldc2 (v := (65528)) hx hb hown (hts (.constantLong R_M 290 (65528)) (by decide +kernel)) d_M_clamped_55 ?_
    refine lv_land hx hb d_M_clamped_58 ?_
    refine vx_last hx hb hG hS hV f0 o0 (by omega) (by decide) d_M_clamped_59 (fun H locs X5 eX5 hS hV => ?_)
    refine lv_aload_n hx hb d_M_clamped_60 rfl (lv_at hl 1 rfl) ?_
    refine lv_bipush (v := nI 15) hx hb d_M_clamped_61 (by decide +kernel) ?_
    refine lv_aload_n hx hb d_M_clamped_63 rfl (lv_at hl 1 rfl) ?_
    refine lv_bipush (v := nI 15) hx hb d_M_clamped_64 (by decide +kernel) ?_
    refine vx_lald hx hb hG hS hV f0 (by omega) (by decide) d_M_clamped_66 ?_
    refine lv_ldc2 (v := (32767)) hx hb hown (hts (.constantLong R_M 167 (32767)) (by decide +kernel)) d_M_clamped_67 ?_
    refine lv_land hx hb d_M_clamped_70 ?_
    refine lv_ldc2 (v := (16384)) hx hb hown (hts (.constantLong R_M 292 (16384)) (by decide +kernel)) d_M_clamped_71 ?_
    refine lv_lor hx hb d_M_clamped_74 ?_
    refine vx_last hx hb hG hS hV f0 o0 (by omega) (by decide) d_M_clamped_75 (fun H locs X6 eX6 hS hV => ?_)
    exact hret _ _ _ _ _ (by subst eR3 eX5 eX6; exact rfl) hS hV d_M_clamped_76
def LL_M_hashMessage_2 (r : Nat → Nat) (v0 : Nat) : Nat → vM → vM := fun i_0 s_1 => (let X_2 : vM := stI s_1 (r 38) (v0 + i_0) ((s_1.2 (r 2) i_0).toInt8.toInt32); X_2)
def LF_M_hashMessage (X : vM) (r : Nat → Nat) (v0 : Nat) (nm : Nat) : vM := (let R3 : vM := lpU 1 (LL_M_hashMessage_2 r v0) (nm - 0) 0 X; (let X5 : vM := (LF_M_hash R3 r (r 38) (v0 + nm)); X5))
abbrev rm_M_hashMessage : Room := { frames := 3, cells := 0, slots := 0, locals := 89 }
set_option maxHeartbeats 4000000 in
set_option maxRecDepth 100000 in
theorem v_M_hashMessage {l : Launch} {D : va_G} {g : ClassId → FieldType → Prop} {E : Nat → Prop} {H0 : Heap} {X : vM} {o : Nat} {r : Nat → Nat} {i : Nat → Int32} {v0 : Nat} {nm : Nat} (hM : mo_ D g H0 o r i) (hE : ¬ E o) (hW : ∀ q ∈ mo_wr, E (r q.1)) (h0 : v0 ≤ 64) (hm : i 6 = nI nm) (hnm : nm ≤ 65536) (hV : mm g H0 = X) : Met l y_M_hashMessage (.code y_M_hashMessage b_M_hashMessage 3 none :: G_) rm_M_hashMessage (sx_Pc [.ref o, .int (nI v0)] H0 D g) (vx_Qv g E H0 (LF_M_hashMessage X r v0 nm)) 0 0 E := by
  refine vx_mv (own := R_M) (by decide) rfl rfl rfl (Nat.le_of_ble_eq_true rfl) ?_
  intro p e s m args below meth c Q ls EE hl hret
  obtain ⟨hx, hb, hml, hown, hts, hG, hK⟩ := id EE
  have hS : sx_S g E E H0 H0 [] := sx_S.rf
  have hl : lv_has ls 3 [(0, .ref o), (1, .int (nI (v0)))] := hl
  refine lv_iconst (v := nI 0) hx hb d_M_hashMessage_0 (by decide +kernel) ?_
  refine lv_istore_n (lv' := [(2, .int (nI (0))), (0, .ref o), (1, .int (nI (v0)))]) hx hb d_M_hashMessage_1 rfl hl (by decide) rfl (fun ls hl => ?_)
  obtain ⟨R3, eR3⟩ : ∃ t : vM, lpU 1 (LL_M_hashMessage_2 r v0) (nm - 0) 0 X = t := ⟨_, rfl⟩
  refine lpU_go (σ := vM) (P := fun i1 s2 H locs ls => sx_S g E E H0 H locs ∧ mm g H = s2 ∧ lv_has ls 3 [(2, .int (nI (i1))), (0, .ref o), (1, .int (nI (v0)))]) (Wd := fun H locs ls => W p l e rm_M_hashMessage s m args below meth c H locs 0 0 Q (F0 m 2 ls [])) (N := nm) (d := 1) (by decide) ?_ ?_ (nm - 0) 0 _ (by omega) eR3 _ _ _ ⟨hS, hV, lv_sub hl [0, 1, 2] rfl⟩
  · intro i1 s2 H locs ls hii1 hP ihi1
    obtain ⟨hS, hV, hl⟩ := hP
    refine lv_iload_n hx hb d_M_hashMessage_2 rfl (lv_at hl 0 rfl) ?_
    refine lv_aload_n hx hb d_M_hashMessage_3 rfl (lv_at hl 1 rfl) ?_
    refine sx_get EE (hS.1.ob hE hM.1) rfl i_M 6 (by decide) rfl fl_M_309 rfl d_M_hashMessage_4 ?_
    refine sx_ti (y := nI nm) hm ?_
    refine lv_icmp_ge (tgt := 30) hx hb d_M_hashMessage_7 (by decide) (fun q => absurd q (nI_ge (by omega) (by omega))) (fun _ => ?_)
    refine lv_aload_n hx hb d_M_hashMessage_10 rfl (lv_at hl 1 rfl) ?_
    refine sx_get EE (hS.1.ob hE hM.1) rfl i_M 38 (by decide) rfl fl_M_113 rfl d_M_hashMessage_11 ?_
    refine lv_iload_n hx hb d_M_hashMessage_14 rfl (lv_at hl 2 rfl) ?_
    refine lv_iload_n hx hb d_M_hashMessage_15 rfl (lv_at hl 0 rfl) ?_
    refine lv_iadd hx hb d_M_hashMessage_16 ?_
    refine sx_ti (y := nI (v0 + i1)) (nI_add _ _) ?_
    refine lv_aload_n hx hb d_M_hashMessage_17 rfl (lv_at hl 1 rfl) ?_
    refine sx_get EE (hS.1.ob hE hM.1) rfl i_M 2 (by decide) rfl fl_M_14 rfl d_M_hashMessage_18 ?_
    refine lv_iload_n hx hb d_M_hashMessage_21 rfl (lv_at hl 0 rfl) ?_
    refine vx_bald hx hb hG hS hV (mo_2 hM) (by omega) (by decide) d_M_hashMessage_22 ?_
    refine vx_bast hx hb hG hS hV (mo_38 hM) (mow_38 hW) (by omega) (by decide) d_M_hashMessage_23 (fun H locs X4 eX4 hS hV => ?_)
    refine lv_iinc (v := nI (i1 + 1)) (lv' := [(2, .int (nI (i1 + 1))), (0, .ref o), (1, .int (nI (v0)))]) hx hb d_M_hashMessage_24 hl (k := 0) rfl (sx_inc _ _) (by decide) rfl (fun ls hl => ?_)
    refine lv_goto (tgt := 2) hx hb d_M_hashMessage_27 (by decide) ?_
    exact ihi1 X4 _ _ _ (by subst eX4; exact rfl) ⟨hS, hV, lv_sub hl [0, 1, 2] rfl⟩
  · intro H locs ls hP
    obtain ⟨hS, hV, hl⟩ := hP
    refine lv_iload_n hx hb d_M_hashMessage_2 rfl (lv_at hl 0 rfl) ?_
    refine lv_aload_n hx hb d_M_hashMessage_3 rfl (lv_at hl 1 rfl) ?_
    refine sx_get EE (hS.1.ob hE hM.1) rfl i_M 6 (by decide) rfl fl_M_309 rfl d_M_hashMessage_4 ?_
    refine sx_ti (y := nI nm) hm ?_
    refine lv_icmp_ge (tgt := 30) hx hb d_M_hashMessage_7 (by decide) (fun _ => ?_) (fun q => absurd (nI_le (by omega) (by omega)) q)
    refine lv_aload_n hx hb d_M_hashMessage_30 rfl (lv_at hl 1 rfl) ?_
    refine lv_aload_n hx hb d_M_hashMessage_31 rfl (lv_at hl 1 rfl) ?_
    refine sx_get EE (hS.1.ob hE hM.1) rfl i_M 38 (by decide) rfl fl_M_113 rfl d_M_hashMessage_32 ?_
    refine lv_iload_n hx hb d_M_hashMessage_35 rfl (lv_at hl 2 rfl) ?_
    refine lv_aload_n hx hb d_M_hashMessage_36 rfl (lv_at hl 1 rfl) ?_
    refine sx_get EE (hS.1.ob hE hM.1) rfl i_M 6 (by decide) rfl fl_M_309 rfl d_M_hashMessage_37 ?_
    refine sx_ti (y := nI nm) hm ?_
    refine lv_iadd hx hb d_M_hashMessage_40 ?_
    refine sx_ti (y := nI (v0 + nm)) (nI_add _ _) ?_
    refine vx_gv (sx_runV (As := [.ref (r 38), .int (nI (v0 + nm))]) (rest := []) EE (hS.1.ob hE hM.1) rfl rfl (v_M_hash (X := R3) (hM.kept hS.1 hE) hE hW (hS.a (mo_38 hM)) (by omega) hV) w_M_294 rfl ⟨rfl, rfl⟩ ⟨Nat.le_of_ble_eq_true rfl, Nat.le_of_ble_eq_true rfl⟩ ⟨Nat.zero_le _, Nat.zero_le _⟩ hl.1 rfl (Nat.le_of_ble_eq_true rfl) d_M_hashMessage_41) hS (fun H locs X5 eX5 hS hV => ?_)
    exact hret _ _ _ _ _ (by subst eR3 eX5; exact rfl) hS hV d_M_hashMessage_44
