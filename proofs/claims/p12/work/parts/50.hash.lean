def LL_Ha_putWord_3 (a0 : Nat) (v1 : Nat) (v2 : Int64) : Nat → vM → vM := fun i_0 s_1 => (let X_2 : vM := stI s_1 a0 (v1 + i_0) ((((v2 >>> ((nI (56 - (8 * i_0))).toInt64 &&& 63)).toInt32).toInt8.toInt32).toInt8.toInt32); X_2)
def LF_Ha_putWord (X : vM) (a0 : Nat) (v1 : Nat) (v2 : Int64) : vM := (let R3 : vM := lpU 1 (LL_Ha_putWord_3 a0 v1 v2) 8 0 X; R3)
abbrev rm_Ha_putWord : Room := { frames := 0, cells := 0, slots := 0, locals := 0 }
set_option maxHeartbeats 4000000 in
set_option maxRecDepth 100000 in
theorem v_Ha_putWord {l : Launch} {D : va_G} {g : ClassId → FieldType → Prop} {E : Nat → Prop} {H0 : Heap} {X : vM} {n0 : Nat} {a0 : Nat} {v1 : Nat} {v2 : Int64} (f0 : sx_A g .byte H0 a0 n0) (o0 : E a0) (h1 : v1 + 8 ≤ n0) (hn0 : n0 < 2147483648) (hV : mm g H0 = X) : Met l y_Ha_putWord (.code y_Ha_putWord b_Ha_putWord 5 none :: G_) rm_Ha_putWord (sx_Pc [.ref a0, .int (nI v1), .long v2] H0 D g) (vx_Qv g E H0 (LF_Ha_putWord X a0 v1 v2)) 0 0 E := by
  refine vx_mv (own := R_Ha) (by decide) rfl rfl rfl (Nat.le_of_ble_eq_true rfl) ?_
  intro p e s m args below meth c Q ls EE hl hret
  obtain ⟨hx, hb, hml, hown, hts, hG, hK⟩ := id EE
  have hS : sx_S g E E H0 H0 [] := sx_S.rf
  have hl : lv_has ls 5 [(0, .ref a0), (1, .int (nI (v1))), (2, .long v2)] := hl
  refine lv_iconst (v := nI 0) hx hb d_Ha_putWord_0 (by decide +kernel) ?_
  refine lv_istore (lv' := [(4, .int (nI (0))), (0, .ref a0), (1, .int (nI (v1))), (2, .long v2)]) hx hb d_Ha_putWord_1 hl (by decide) rfl (fun ls hl => ?_)
  obtain ⟨R3, eR3⟩ : ∃ t : vM, lpU 1 (LL_Ha_putWord_3 a0 v1 v2) 8 0 X = t := ⟨_, rfl⟩
  refine lpU_go (σ := vM) (P := fun i1 s2 H locs ls => sx_S g E E H0 H locs ∧ mm g H = s2 ∧ lv_has ls 5 [(4, .int (nI (i1))), (0, .ref a0), (1, .int (nI (v1))), (2, .long v2)]) (Wd := fun H locs ls => W p l e rm_Ha_putWord s m args below meth c H locs 0 0 Q (F0 m 3 ls [])) (N := 8) (d := 1) (by decide) ?_ ?_ 8 0 _ (by omega) eR3 _ _ _ ⟨hS, hV, lv_sub hl [0, 1, 2, 3] rfl⟩
  · intro i1 s2 H locs ls hii1 hP ihi1
    obtain ⟨hS, hV, hl⟩ := hP
    refine lv_iload hx hb d_Ha_putWord_3 (lv_at hl 0 rfl) ?_
    refine lv_bipush (v := nI 8) hx hb d_Ha_putWord_5 (by decide +kernel) ?_
    refine lv_icmp_ge (tgt := 34) hx hb d_Ha_putWord_7 (by decide) (fun q => absurd q (nI_ge (by omega) (by omega))) (fun _ => ?_)
    refine lv_aload_n hx hb d_Ha_putWord_10 rfl (lv_at hl 1 rfl) ?_
    refine lv_iload_n hx hb d_Ha_putWord_11 rfl (lv_at hl 2 rfl) ?_
    refine lv_iload hx hb d_Ha_putWord_12 (lv_at hl 0 rfl) ?_
    refine lv_iadd hx hb d_Ha_putWord_14 ?_
    refine sx_ti (y := nI (v1 + i1)) (nI_add _ _) ?_
    refine lv_lload_n hx hb d_Ha_putWord_15 rfl (lv_at hl 3 rfl) ?_
    refine lv_bipush (v := nI 56) hx hb d_Ha_putWord_16 (by decide +kernel) ?_
    refine lv_bipush (v := nI 8) hx hb d_Ha_putWord_18 (by decide +kernel) ?_
    refine lv_iload hx hb d_Ha_putWord_20 (lv_at hl 0 rfl) ?_
    refine lv_imul hx hb d_Ha_putWord_22 ?_
    refine sx_ti (y := nI (8 * i1)) (pk_mul _ _) ?_
    refine lv_isub hx hb d_Ha_putWord_23 ?_
    refine sx_ti (y := nI (56 - (8 * i1))) (pk_sub (by omega)) ?_
    refine lv_lshr hx hb d_Ha_putWord_24 rfl ?_
    refine lv_l2i hx hb d_Ha_putWord_25 rfl ?_
    refine lv_i2b hx hb d_Ha_putWord_26 rfl ?_
    refine vx_bast hx hb hG hS hV f0 o0 (by omega) (by omega) d_Ha_putWord_27 (fun H locs X4 eX4 hS hV => ?_)
    refine lv_iinc (v := nI (i1 + 1)) (lv' := [(4, .int (nI (i1 + 1))), (0, .ref a0), (1, .int (nI (v1))), (2, .long v2)]) hx hb d_Ha_putWord_28 hl (k := 0) rfl (sx_inc _ _) (by decide) rfl (fun ls hl => ?_)
    refine lv_goto (tgt := 3) hx hb d_Ha_putWord_31 (by decide) ?_
    exact ihi1 X4 _ _ _ (by subst eX4; exact rfl) ⟨hS, hV, lv_sub hl [0, 1, 2, 3] rfl⟩
  · intro H locs ls hP
    obtain ⟨hS, hV, hl⟩ := hP
    refine lv_iload hx hb d_Ha_putWord_3 (lv_at hl 0 rfl) ?_
    refine lv_bipush (v := nI 8) hx hb d_Ha_putWord_5 (by decide +kernel) ?_
    refine lv_icmp_ge (tgt := 34) hx hb d_Ha_putWord_7 (by decide) (fun _ => ?_) (fun q => absurd (nI_le (by omega) (by omega)) q)
    exact hret _ _ _ _ _ (by subst eR3; exact rfl) hS hV d_Ha_putWord_34
def LL_Ha_spreadWords_16 (s_0 : vM) (kq : Nat → Nat → Nat) : Nat → Int64 → Int64 := fun i_1 s_2 => (let z_3 : Int64 := ((s_2 <<< ((nI 8).toInt64 &&& 63)) ||| (((s_0.2 (kq 5 2) i_1) &&& (nI 255)).toInt64)); z_3)
def LL_Ha_spreadWords_2 (kq : Nat → Nat → Nat) : Nat → vM → vM := fun i_0 s_1 => (let R_2 : Int64 := lpU 1 (LL_Ha_spreadWords_16 s_1 kq) ((8 * i_0) + 8 - (8 * i_0)) (8 * i_0) (0 : Int64); (let X_3 : vM := stL s_1 (kq 5 1) i_0 R_2; X_3))
def LL_Ha_spreadWords_68 (kq : Nat → Nat → Nat) : Nat → vM → vM := fun i_0 s_1 => (let z_2 : Int64 := (s_1.1 (kq 5 1) (i_0 - 15)); let z_3 : Int64 := (s_1.1 (kq 5 1) (i_0 - 2)); let z_4 : Int64 := ((((((z_2).toUInt64 >>> ((nI 1).toInt64.toUInt64 &&& Int64.toUInt64 63)).toInt64) ||| (z_2 <<< ((nI 63).toInt64 &&& 63))) ^^^ ((((z_2).toUInt64 >>> ((nI 8).toInt64.toUInt64 &&& Int64.toUInt64 63)).toInt64) ||| (z_2 <<< ((nI 56).toInt64 &&& 63)))) ^^^ (((z_2).toUInt64 >>> ((nI 7).toInt64.toUInt64 &&& Int64.toUInt64 63)).toInt64)); let z_5 : Int64 := ((((((z_3).toUInt64 >>> ((nI 19).toInt64.toUInt64 &&& Int64.toUInt64 63)).toInt64) ||| (z_3 <<< ((nI 45).toInt64 &&& 63))) ^^^ ((((z_3).toUInt64 >>> ((nI 61).toInt64.toUInt64 &&& Int64.toUInt64 63)).toInt64) ||| (z_3 <<< ((nI 3).toInt64 &&& 63)))) ^^^ (((z_3).toUInt64 >>> ((nI 6).toInt64.toUInt64 &&& Int64.toUInt64 63)).toInt64)); let X_6 : vM := stL s_1 (kq 5 1) i_0 ((((s_1.1 (kq 5 1) (i_0 - 16)) + z_4) + (s_1.1 (kq 5 1) (i_0 - 7))) + z_5); X_6)
def LF_Ha_spreadWords (X : vM) (kq : Nat → Nat → Nat) (ts : Nat → Nat) : vM := (let R3 : vM := lpU 1 (LL_Ha_spreadWords_2 kq) 16 0 X; (let R11 : vM := lpU 1 (LL_Ha_spreadWords_68 kq) 64 16 R3; R11))
abbrev rm_Ha_spreadWords : Room := { frames := 0, cells := 0, slots := 0, locals := 0 }
set_option maxHeartbeats 4000000 in
set_option maxRecDepth 100000 in
theorem v_Ha_spreadWords {l : Launch} {D : va_G} {g : ClassId → FieldType → Prop} {E : Nat → Prop} {H0 : Heap} {X : vM} {kq : Nat → Nat → Nat} {ts : Nat → Nat} {hd tt : Int32} (hC : kc_ D g E H0 kq ts) (hH : va_P D classes [(kq 5 99, .inr (7, [.ref (kq 5 0), .ref (kq 5 1), .ref (kq 5 2), .int hd, .int tt]))] H0) (hN : ¬ E (kq 5 99)) (hV : mm g H0 = X) : Met l y_Ha_spreadWords (.code y_Ha_spreadWords b_Ha_spreadWords 10 none :: G_) rm_Ha_spreadWords (sx_Pc [.ref (kq 5 99)] H0 D g) (vx_Qv g E H0 (LF_Ha_spreadWords X kq ts)) 0 0 E := by
  refine vx_mv (own := R_Ha) (by decide) rfl rfl rfl (Nat.le_of_ble_eq_true rfl) ?_
  intro p e s m args below meth c Q ls EE hl hret
  obtain ⟨hx, hb, hml, hown, hts, hG, hK⟩ := id EE
  have hS : sx_S g E E H0 H0 [] := sx_S.rf
  have hz := hC.2.2.2.2
  have hl : lv_has ls 10 [(0, .ref (kq 5 99))] := hl
  refine lv_iconst (v := nI 0) hx hb d_Ha_spreadWords_0 (by decide +kernel) ?_
  refine lv_istore_n (lv' := [(1, .int (nI (0))), (0, .ref (kq 5 99))]) hx hb d_Ha_spreadWords_1 rfl hl (by decide) rfl (fun ls hl => ?_)
  obtain ⟨R3, eR3⟩ : ∃ t : vM, lpU 1 (LL_Ha_spreadWords_2 kq) 16 0 X = t := ⟨_, rfl⟩
  refine lpU_go (σ := vM) (P := fun i1 s2 H locs ls => sx_S g E E H0 H locs ∧ mm g H = s2 ∧ lv_has ls 10 [(1, .int (nI (i1))), (0, .ref (kq 5 99))]) (Wd := fun H locs ls => W p l e rm_Ha_spreadWords s m args below meth c H locs 0 0 Q (F0 m 2 ls [])) (N := 16) (d := 1) (by decide) ?_ ?_ 16 0 _ (by omega) eR3 _ _ _ ⟨hS, hV, lv_sub hl [0, 1] rfl⟩
  · intro i1 s2 H locs ls hii1 hP ihi1
    obtain ⟨hS, hV, hl⟩ := hP
    refine lv_iload_n hx hb d_Ha_spreadWords_2 rfl (lv_at hl 0 rfl) ?_
    refine lv_bipush (v := nI 16) hx hb d_Ha_spreadWords_3 (by decide +kernel) ?_
    refine lv_icmp_ge (tgt := 65) hx hb d_Ha_spreadWords_5 (by decide) (fun q => absurd q (nI_ge (by omega) (by omega))) (fun _ => ?_)
    refine lv_lconst (v := 0) hx hb d_Ha_spreadWords_8 (by decide +kernel) ?_
    refine lv_lstore_n (lv' := [(2, .long (0 : Int64)), (1, .int (nI (i1))), (0, .ref (kq 5 99))]) hx hb d_Ha_spreadWords_9 rfl hl (by decide) rfl (fun ls hl => ?_)
    refine lv_bipush (v := nI 8) hx hb d_Ha_spreadWords_10 (by decide +kernel) ?_
    refine lv_iload_n hx hb d_Ha_spreadWords_12 rfl (lv_at hl 1 rfl) ?_
    refine lv_imul hx hb d_Ha_spreadWords_13 ?_
    refine sx_ti (y := nI (8 * i1)) (pk_mul _ _) ?_
    refine lv_istore (lv' := [(4, .int (nI (8 * i1))), (2, .long (0 : Int64)), (1, .int (nI (i1))), (0, .ref (kq 5 99))]) hx hb d_Ha_spreadWords_14 hl (by decide) rfl (fun ls hl => ?_)
    obtain ⟨R6, eR6⟩ : ∃ t : Int64, lpU 1 (LL_Ha_spreadWords_16 s2 kq) ((8 * i1) + 8 - (8 * i1)) (8 * i1) (0 : Int64) = t := ⟨_, rfl⟩
    refine lpU_go (σ := Int64) (P := fun i4 s5 H locs ls => (8 * i1) ≤ i4 ∧ sx_S g E E H0 H locs ∧ mm g H = s2 ∧ lv_has ls 10 [(4, .int (nI (i4))), (2, .long s5), (1, .int (nI (i1))), (0, .ref (kq 5 99))]) (Wd := fun H locs ls => W p l e rm_Ha_spreadWords s m args below meth c H locs 0 0 Q (F0 m 16 ls [])) (N := ((8 * i1) + 8)) (d := 1) (by decide) ?_ ?_ ((8 * i1) + 8 - (8 * i1)) (8 * i1) _ (by omega) eR6 _ _ _ ⟨(by omega), hS, hV, lv_sub hl [0, 1, 2, 3] rfl⟩
    · intro i4 s5 H locs ls hii4 hP ihi4
      obtain ⟨hxs5_0, hS, hV, hl⟩ := hP
      refine lv_iload hx hb d_Ha_spreadWords_16 (lv_at hl 0 rfl) ?_
      refine lv_bipush (v := nI 8) hx hb d_Ha_spreadWords_18 (by decide +kernel) ?_
      refine lv_iload_n hx hb d_Ha_spreadWords_20 rfl (lv_at hl 2 rfl) ?_
      refine lv_imul hx hb d_Ha_spreadWords_21 ?_
      refine sx_ti (y := nI (8 * i1)) (pk_mul _ _) ?_
      refine lv_bipush (v := nI 8) hx hb d_Ha_spreadWords_22 (by decide +kernel) ?_
      refine lv_iadd hx hb d_Ha_spreadWords_24 ?_
      refine sx_ti (y := nI ((8 * i1) + 8)) (nI_add _ _) ?_
      refine lv_icmp_ge (tgt := 52) hx hb d_Ha_spreadWords_25 (by decide) (fun q => absurd q (nI_ge (by omega) (by omega))) (fun _ => ?_)
      refine lv_lload_n hx hb d_Ha_spreadWords_28 rfl (lv_at hl 1 rfl) ?_
      refine lv_bipush (v := nI 8) hx hb d_Ha_spreadWords_29 (by decide +kernel) ?_
      refine lv_lshl hx hb d_Ha_spreadWords_31 rfl ?_
      refine lv_aload_n hx hb d_Ha_spreadWords_32 rfl (lv_at hl 3 rfl) ?_
      refine sx_get EE (hS.1.ob hN hH) rfl i_Ha 2 (by decide) rfl fl_Ha_16 rfl d_Ha_spreadWords_33 ?_
      refine lv_iload hx hb d_Ha_spreadWords_36 (lv_at hl 0 rfl) ?_
      refine vx_bald hx hb hG hS hV (kc_a5_2 hC) (by omega) (by decide) d_Ha_spreadWords_38 ?_
      refine lv_sipush (v := nI 255) hx hb d_Ha_spreadWords_39 (by decide +kernel) ?_
      refine lv_iand hx hb d_Ha_spreadWords_42 ?_
      refine lv_i2l hx hb d_Ha_spreadWords_43 rfl ?_
      refine lv_lor hx hb d_Ha_spreadWords_44 ?_
      refine vx_nmL (fun z7 ez7 => ?_)
      refine lv_lstore_n (lv' := [(2, .long z7), (4, .int (nI (i4))), (1, .int (nI (i1))), (0, .ref (kq 5 99))]) hx hb d_Ha_spreadWords_45 rfl hl (by decide) rfl (fun ls hl => ?_)
      refine lv_iinc (v := nI (i4 + 1)) (lv' := [(4, .int (nI (i4 + 1))), (2, .long z7), (1, .int (nI (i1))), (0, .ref (kq 5 99))]) hx hb d_Ha_spreadWords_46 hl (k := 1) rfl (sx_inc _ _) (by decide) rfl (fun ls hl => ?_)
      refine lv_goto (tgt := 16) hx hb d_Ha_spreadWords_49 (by decide) ?_
      exact ihi4 z7 _ _ _ (by subst ez7; exact rfl) ⟨(by omega), hS, hV, lv_sub hl [0, 1, 2, 3] rfl⟩
    · intro H locs ls hP
      obtain ⟨hxR6_0, hS, hV, hl⟩ := hP
      refine lv_iload hx hb d_Ha_spreadWords_16 (lv_at hl 0 rfl) ?_
      refine lv_bipush (v := nI 8) hx hb d_Ha_spreadWords_18 (by decide +kernel) ?_
      refine lv_iload_n hx hb d_Ha_spreadWords_20 rfl (lv_at hl 2 rfl) ?_
      refine lv_imul hx hb d_Ha_spreadWords_21 ?_
      refine sx_ti (y := nI (8 * i1)) (pk_mul _ _) ?_
      refine lv_bipush (v := nI 8) hx hb d_Ha_spreadWords_22 (by decide +kernel) ?_
      refine lv_iadd hx hb d_Ha_spreadWords_24 ?_
      refine sx_ti (y := nI ((8 * i1) + 8)) (nI_add _ _) ?_
      refine lv_icmp_ge (tgt := 52) hx hb d_Ha_spreadWords_25 (by decide) (fun _ => ?_) (fun q => absurd (nI_le (by omega) (by omega)) q)
      refine lv_aload_n hx hb d_Ha_spreadWords_52 rfl (lv_at hl 3 rfl) ?_
      refine sx_get EE (hS.1.ob hN hH) rfl i_Ha 1 (by decide) rfl fl_Ha_13 rfl d_Ha_spreadWords_53 ?_
      refine lv_iload_n hx hb d_Ha_spreadWords_56 rfl (lv_at hl 2 rfl) ?_
      refine lv_lload_n hx hb d_Ha_spreadWords_57 rfl (lv_at hl 1 rfl) ?_
      refine vx_last hx hb hG hS hV (kc_a5_1 hC) (kc_e5_1 hC) (by omega) (by decide) d_Ha_spreadWords_58 (fun H locs X8 eX8 hS hV => ?_)
      refine lv_iinc (v := nI (i1 + 1)) (lv' := [(1, .int (nI (i1 + 1))), (4, .int (nI ((8 * i1) + 8))), (2, .long R6), (0, .ref (kq 5 99))]) hx hb d_Ha_spreadWords_59 hl (k := 2) rfl (sx_inc _ _) (by decide) rfl (fun ls hl => ?_)
      refine lv_goto (tgt := 2) hx hb d_Ha_spreadWords_62 (by decide) ?_
      exact ihi1 X8 _ _ _ (by subst eR6 eX8; exact rfl) ⟨hS, hV, lv_sub hl [0, 3] rfl⟩
  · intro H locs ls hP
    obtain ⟨hS, hV, hl⟩ := hP
    refine lv_iload_n hx hb d_Ha_spreadWords_2 rfl (lv_at hl 0 rfl) ?_
    refine lv_bipush (v := nI 16) hx hb d_Ha_spreadWords_3 (by decide +kernel) ?_
    refine lv_icmp_ge (tgt := 65) hx hb d_Ha_spreadWords_5 (by decide) (fun _ => ?_) (fun q => absurd (nI_le (by omega) (by omega)) q)
    refine lv_bipush (v := nI 16) hx hb d_Ha_spreadWords_65 (by decide +kernel) ?_
    refine lv_istore_n (lv' := [(1, .int (nI (16))), (0, .ref (kq 5 99))]) hx hb d_Ha_spreadWords_67 rfl hl (by decide) rfl (fun ls hl => ?_)
    obtain ⟨R11, eR11⟩ : ∃ t : vM, lpU 1 (LL_Ha_spreadWords_68 kq) 64 16 R3 = t := ⟨_, rfl⟩
    refine lpU_go (σ := vM) (P := fun i9 s10 H locs ls => 16 ≤ i9 ∧ sx_S g E E H0 H locs ∧ mm g H = s10 ∧ lv_has ls 10 [(1, .int (nI (i9))), (0, .ref (kq 5 99))]) (Wd := fun H locs ls => W p l e rm_Ha_spreadWords s m args below meth c H locs 0 0 Q (F0 m 68 ls [])) (N := 80) (d := 1) (by decide) ?_ ?_ 64 16 _ (by omega) eR11 _ _ _ ⟨(by omega), hS, hV, lv_sub hl [0, 1] rfl⟩
    · intro i9 s10 H locs ls hii9 hP ihi9
      obtain ⟨hxs10_0, hS, hV, hl⟩ := hP
      refine lv_iload_n hx hb d_Ha_spreadWords_68 rfl (lv_at hl 0 rfl) ?_
      refine lv_bipush (v := nI 80) hx hb d_Ha_spreadWords_69 (by decide +kernel) ?_
      refine lv_icmp_ge (tgt := 186) hx hb d_Ha_spreadWords_71 (by decide) (fun q => absurd q (nI_ge (by omega) (by omega))) (fun _ => ?_)
      refine lv_aload_n hx hb d_Ha_spreadWords_74 rfl (lv_at hl 1 rfl) ?_
      refine sx_get EE (hS.1.ob hN hH) rfl i_Ha 1 (by decide) rfl fl_Ha_13 rfl d_Ha_spreadWords_75 ?_
      refine lv_iload_n hx hb d_Ha_spreadWords_78 rfl (lv_at hl 0 rfl) ?_
      refine lv_bipush (v := nI 15) hx hb d_Ha_spreadWords_79 (by decide +kernel) ?_
      refine lv_isub hx hb d_Ha_spreadWords_81 ?_
      refine sx_ti (y := nI (i9 - 15)) (pk_sub (by omega)) ?_
      refine vx_lald hx hb hG hS hV (kc_a5_1 hC) (by omega) (by decide) d_Ha_spreadWords_82 ?_
      refine vx_nmL (fun z12 ez12 => ?_)
      refine lv_lstore_n (lv' := [(2, .long z12), (1, .int (nI (i9))), (0, .ref (kq 5 99))]) hx hb d_Ha_spreadWords_83 rfl hl (by decide) rfl (fun ls hl => ?_)
      refine lv_aload_n hx hb d_Ha_spreadWords_84 rfl (lv_at hl 2 rfl) ?_
      refine sx_get EE (hS.1.ob hN hH) rfl i_Ha 1 (by decide) rfl fl_Ha_13 rfl d_Ha_spreadWords_85 ?_
      refine lv_iload_n hx hb d_Ha_spreadWords_88 rfl (lv_at hl 1 rfl) ?_
      refine lv_iconst (v := nI 2) hx hb d_Ha_spreadWords_89 (by decide +kernel) ?_
      refine lv_isub hx hb d_Ha_spreadWords_90 ?_
      refine sx_ti (y := nI (i9 - 2)) (pk_sub (by omega)) ?_
      refine vx_lald hx hb hG hS hV (kc_a5_1 hC) (by omega) (by decide) d_Ha_spreadWords_91 ?_
      refine vx_nmL (fun z13 ez13 => ?_)
      refine lv_lstore (lv' := [(4, .long z13), (2, .long z12), (1, .int (nI (i9))), (0, .ref (kq 5 99))]) hx hb d_Ha_spreadWords_92 hl (by decide) rfl (fun ls hl => ?_)
      refine lv_lload_n hx hb d_Ha_spreadWords_94 rfl (lv_at hl 1 rfl) ?_
      refine lv_iconst (v := nI 1) hx hb d_Ha_spreadWords_95 (by decide +kernel) ?_
      refine lv_lushr hx hb d_Ha_spreadWords_96 rfl ?_
      refine lv_lload_n hx hb d_Ha_spreadWords_97 rfl (lv_at hl 1 rfl) ?_
      refine lv_bipush (v := nI 63) hx hb d_Ha_spreadWords_98 (by decide +kernel) ?_
      refine lv_lshl hx hb d_Ha_spreadWords_100 rfl ?_
      refine lv_lor hx hb d_Ha_spreadWords_101 ?_
      refine lv_lload_n hx hb d_Ha_spreadWords_102 rfl (lv_at hl 1 rfl) ?_
      refine lv_bipush (v := nI 8) hx hb d_Ha_spreadWords_103 (by decide +kernel) ?_
      refine lv_lushr hx hb d_Ha_spreadWords_105 rfl ?_
      refine lv_lload_n hx hb d_Ha_spreadWords_106 rfl (lv_at hl 1 rfl) ?_
      refine lv_bipush (v := nI 56) hx hb d_Ha_spreadWords_107 (by decide +kernel) ?_
      refine lv_lshl hx hb d_Ha_spreadWords_109 rfl ?_
      refine lv_lor hx hb d_Ha_spreadWords_110 ?_
      refine lv_lxor hx hb d_Ha_spreadWords_111 ?_
      refine lv_lload_n hx hb d_Ha_spreadWords_112 rfl (lv_at hl 1 rfl) ?_
      refine lv_bipush (v := nI 7) hx hb d_Ha_spreadWords_113 (by decide +kernel) ?_
      refine lv_lushr hx hb d_Ha_spreadWords_115 rfl ?_
      refine lv_lxor hx hb d_Ha_spreadWords_116 ?_
      refine vx_nmL (fun z14 ez14 => ?_)
      refine lv_lstore (lv' := [(6, .long z14), (4, .long z13), (2, .long z12), (1, .int (nI (i9))), (0, .ref (kq 5 99))]) hx hb d_Ha_spreadWords_117 hl (by decide) rfl (fun ls hl => ?_)
      refine lv_lload hx hb d_Ha_spreadWords_119 (lv_at hl 1 rfl) ?_
      refine lv_bipush (v := nI 19) hx hb d_Ha_spreadWords_121 (by decide +kernel) ?_
      refine lv_lushr hx hb d_Ha_spreadWords_123 rfl ?_
      refine lv_lload hx hb d_Ha_spreadWords_124 (lv_at hl 1 rfl) ?_
      refine lv_bipush (v := nI 45) hx hb d_Ha_spreadWords_126 (by decide +kernel) ?_
      refine lv_lshl hx hb d_Ha_spreadWords_128 rfl ?_
      refine lv_lor hx hb d_Ha_spreadWords_129 ?_
      refine lv_lload hx hb d_Ha_spreadWords_130 (lv_at hl 1 rfl) ?_
      refine lv_bipush (v := nI 61) hx hb d_Ha_spreadWords_132 (by decide +kernel) ?_
      refine lv_lushr hx hb d_Ha_spreadWords_134 rfl ?_
      refine lv_lload hx hb d_Ha_spreadWords_135 (lv_at hl 1 rfl) ?_
      refine lv_iconst (v := nI 3) hx hb d_Ha_spreadWords_137 (by decide +kernel) ?_
      refine lv_lshl hx hb d_Ha_spreadWords_138 rfl ?_
      refine lv_lor hx hb d_Ha_spreadWords_139 ?_
      refine lv_lxor hx hb d_Ha_spreadWords_140 ?_
      refine lv_lload hx hb d_Ha_spreadWords_141 (lv_at hl 1 rfl) ?_
      refine lv_bipush (v := nI 6) hx hb d_Ha_spreadWords_143 (by decide +kernel) ?_
      refine lv_lushr hx hb d_Ha_spreadWords_145 rfl ?_
      refine lv_lxor hx hb d_Ha_spreadWords_146 ?_
      refine vx_nmL (fun z15 ez15 => ?_)
      refine lv_lstore (lv' := [(8, .long z15), (6, .long z14), (4, .long z13), (2, .long z12), (1, .int (nI (i9))), (0, .ref (kq 5 99))]) hx hb d_Ha_spreadWords_147 hl (by decide) rfl (fun ls hl => ?_)
      refine lv_aload_n hx hb d_Ha_spreadWords_149 rfl (lv_at hl 5 rfl) ?_
      refine sx_get EE (hS.1.ob hN hH) rfl i_Ha 1 (by decide) rfl fl_Ha_13 rfl d_Ha_spreadWords_150 ?_
      refine lv_iload_n hx hb d_Ha_spreadWords_153 rfl (lv_at hl 4 rfl) ?_
      refine lv_aload_n hx hb d_Ha_spreadWords_154 rfl (lv_at hl 5 rfl) ?_
      refine sx_get EE (hS.1.ob hN hH) rfl i_Ha 1 (by decide) rfl fl_Ha_13 rfl d_Ha_spreadWords_155 ?_
      refine lv_iload_n hx hb d_Ha_spreadWords_158 rfl (lv_at hl 4 rfl) ?_
      refine lv_bipush (v := nI 16) hx hb d_Ha_spreadWords_159 (by decide +kernel) ?_
      refine lv_isub hx hb d_Ha_spreadWords_161 ?_
      refine sx_ti (y := nI (i9 - 16)) (pk_sub (by omega)) ?_
      refine vx_lald hx hb hG hS hV (kc_a5_1 hC) (by omega) (by decide) d_Ha_spreadWords_162 ?_
      refine lv_lload hx hb d_Ha_spreadWords_163 (lv_at hl 1 rfl) ?_
      refine lv_ladd hx hb d_Ha_spreadWords_165 ?_
      refine lv_aload_n hx hb d_Ha_spreadWords_166 rfl (lv_at hl 5 rfl) ?_
      refine sx_get EE (hS.1.ob hN hH) rfl i_Ha 1 (by decide) rfl fl_Ha_13 rfl d_Ha_spreadWords_167 ?_
      refine lv_iload_n hx hb d_Ha_spreadWords_170 rfl (lv_at hl 4 rfl) ?_
      refine lv_bipush (v := nI 7) hx hb d_Ha_spreadWords_171 (by decide +kernel) ?_
      refine lv_isub hx hb d_Ha_spreadWords_173 ?_
      refine sx_ti (y := nI (i9 - 7)) (pk_sub (by omega)) ?_
      refine vx_lald hx hb hG hS hV (kc_a5_1 hC) (by omega) (by decide) d_Ha_spreadWords_174 ?_
      refine lv_ladd hx hb d_Ha_spreadWords_175 ?_
      refine lv_lload hx hb d_Ha_spreadWords_176 (lv_at hl 0 rfl) ?_
      refine lv_ladd hx hb d_Ha_spreadWords_178 ?_
      refine vx_last hx hb hG hS hV (kc_a5_1 hC) (kc_e5_1 hC) (by omega) (by decide) d_Ha_spreadWords_179 (fun H locs X16 eX16 hS hV => ?_)
      refine lv_iinc (v := nI (i9 + 1)) (lv' := [(1, .int (nI (i9 + 1))), (8, .long z15), (6, .long z14), (4, .long z13), (2, .long z12), (0, .ref (kq 5 99))]) hx hb d_Ha_spreadWords_180 hl (k := 4) rfl (sx_inc _ _) (by decide) rfl (fun ls hl => ?_)
      refine lv_goto (tgt := 68) hx hb d_Ha_spreadWords_183 (by decide) ?_
      exact ihi9 X16 _ _ _ (by subst ez12 ez13 ez14 ez15 eX16; exact rfl) ⟨(by omega), hS, hV, lv_sub hl [0, 5] rfl⟩
    · intro H locs ls hP
      obtain ⟨hxR11_0, hS, hV, hl⟩ := hP
      refine lv_iload_n hx hb d_Ha_spreadWords_68 rfl (lv_at hl 0 rfl) ?_
      refine lv_bipush (v := nI 80) hx hb d_Ha_spreadWords_69 (by decide +kernel) ?_
      refine lv_icmp_ge (tgt := 186) hx hb d_Ha_spreadWords_71 (by decide) (fun _ => ?_) (fun q => absurd (nI_le (by omega) (by omega)) q)
      exact hret _ _ _ _ _ (by subst eR3 eR11; exact rfl) hS hV d_Ha_spreadWords_186
def LL_Ha_mix_71 (X_0 : vM) (kq : Nat → Nat → Nat) : Nat → (Int64 × Int64 × Int64 × Int64 × Int64 × Int64 × Int64 × Int64) → (Int64 × Int64 × Int64 × Int64 × Int64 × Int64 × Int64 × Int64) := fun i_1 s_2 => (let z_3 : Int64 := ((((((s_2.2.2.2.1).toUInt64 >>> ((nI 14).toInt64.toUInt64 &&& Int64.toUInt64 63)).toInt64) ||| (s_2.2.2.2.1 <<< ((nI 50).toInt64 &&& 63))) ^^^ ((((s_2.2.2.2.1).toUInt64 >>> ((nI 18).toInt64.toUInt64 &&& Int64.toUInt64 63)).toInt64) ||| (s_2.2.2.2.1 <<< ((nI 46).toInt64 &&& 63)))) ^^^ ((((s_2.2.2.2.1).toUInt64 >>> ((nI 41).toInt64.toUInt64 &&& Int64.toUInt64 63)).toInt64) ||| (s_2.2.2.2.1 <<< ((nI 23).toInt64 &&& 63)))); let z_4 : Int64 := ((((((s_2.2.2.2.2.2.2.2).toUInt64 >>> ((nI 28).toInt64.toUInt64 &&& Int64.toUInt64 63)).toInt64) ||| (s_2.2.2.2.2.2.2.2 <<< ((nI 36).toInt64 &&& 63))) ^^^ ((((s_2.2.2.2.2.2.2.2).toUInt64 >>> ((nI 34).toInt64.toUInt64 &&& Int64.toUInt64 63)).toInt64) ||| (s_2.2.2.2.2.2.2.2 <<< ((nI 30).toInt64 &&& 63)))) ^^^ ((((s_2.2.2.2.2.2.2.2).toUInt64 >>> ((nI 39).toInt64.toUInt64 &&& Int64.toUInt64 63)).toInt64) ||| (s_2.2.2.2.2.2.2.2 <<< ((nI 25).toInt64 &&& 63)))); let z_5 : Int64 := ((((s_2.1 + z_3) + ((s_2.2.2.2.1 &&& s_2.2.2.1) ^^^ ((s_2.2.2.2.1 ^^^ (-1 : Int64)) &&& s_2.2.1))) + (st_v 7 i_1)) + (X_0.1 (kq 5 1) i_1)); let z_6 : Int64 := (z_4 + (((s_2.2.2.2.2.2.2.2 &&& s_2.2.2.2.2.2.2.1) ^^^ (s_2.2.2.2.2.2.2.2 &&& s_2.2.2.2.2.2.1)) ^^^ (s_2.2.2.2.2.2.2.1 &&& s_2.2.2.2.2.2.1))); let z_7 : Int64 := (s_2.2.2.2.2.1 + z_5); let z_8 : Int64 := (z_5 + z_6); (s_2.2.1, s_2.2.2.1, s_2.2.2.2.1, z_7, s_2.2.2.2.2.2.1, s_2.2.2.2.2.2.2.1, s_2.2.2.2.2.2.2.2, z_8))
def LF_Ha_mix (X : vM) (kq : Nat → Nat → Nat) (ts : Nat → Nat) : vM := (let X1 : vM := (LF_Ha_spreadWords X kq ts); let z2 : Int64 := (X1.1 (kq 5 0) 0); let z3 : Int64 := (X1.1 (kq 5 0) 1); let z4 : Int64 := (X1.1 (kq 5 0) 2); let z5 : Int64 := (X1.1 (kq 5 0) 3); let z6 : Int64 := (X1.1 (kq 5 0) 4); let z7 : Int64 := (X1.1 (kq 5 0) 5); let z8 : Int64 := (X1.1 (kq 5 0) 6); let z9 : Int64 := (X1.1 (kq 5 0) 7); let R12 : (Int64 × Int64 × Int64 × Int64 × Int64 × Int64 × Int64 × Int64) := lpU 1 (LL_Ha_mix_71 X1 kq) 80 0 (z9, z8, z7, z6, z5, z4, z3, z2); (let X19 : vM := stL X1 (kq 5 0) 0 ((X1.1 (kq 5 0) 0) + R12.2.2.2.2.2.2.2); let X20 : vM := stL X19 (kq 5 0) 1 ((X19.1 (kq 5 0) 1) + R12.2.2.2.2.2.2.1); let X21 : vM := stL X20 (kq 5 0) 2 ((X20.1 (kq 5 0) 2) + R12.2.2.2.2.2.1); let X22 : vM := stL X21 (kq 5 0) 3 ((X21.1 (kq 5 0) 3) + R12.2.2.2.2.1); let X23 : vM := stL X22 (kq 5 0) 4 ((X22.1 (kq 5 0) 4) + R12.2.2.2.1); let X24 : vM := stL X23 (kq 5 0) 5 ((X23.1 (kq 5 0) 5) + R12.2.2.1); let X25 : vM := stL X24 (kq 5 0) 6 ((X24.1 (kq 5 0) 6) + R12.2.1); let X26 : vM := stL X25 (kq 5 0) 7 ((X25.1 (kq 5 0) 7) + R12.1); X26))
abbrev rm_Ha_mix : Room := { frames := 1, cells := 0, slots := 0, locals := 29 }
set_option maxHeartbeats 4000000 in
set_option maxRecDepth 100000 in
theorem v_Ha_mix {l : Launch} {D : va_G} {g : ClassId → FieldType → Prop} {E : Nat → Prop} {H0 : Heap} {X : vM} {kq : Nat → Nat → Nat} {ts : Nat → Nat} {hd tt : Int32} (hC : kc_ D g E H0 kq ts) (hH : va_P D classes [(kq 5 99, .inr (7, [.ref (kq 5 0), .ref (kq 5 1), .ref (kq 5 2), .int hd, .int tt]))] H0) (hN : ¬ E (kq 5 99)) (hV : mm g H0 = X) : Met l y_Ha_mix (.code y_Ha_mix b_Ha_mix 26 none :: G_) rm_Ha_mix (sx_Pc [.ref (kq 5 99)] H0 D g) (vx_Qv g E H0 (LF_Ha_mix X kq ts)) 0 0 E := by
  refine vx_mv (own := R_Ha) (by decide) rfl rfl rfl (Nat.le_of_ble_eq_true rfl) ?_
  intro p e s m args below meth c Q ls EE hl hret
  obtain ⟨hx, hb, hml, hown, hts, hG, hK⟩ := id EE
  have hS : sx_S g E E H0 H0 [] := sx_S.rf
  have hz := hC.2.2.2.2
  have hl : lv_has ls 26 [(0, .ref (kq 5 99))] := hl
  refine lv_aload_n hx hb d_Ha_mix_0 rfl (lv_at hl 0 rfl) ?_
  refine vx_gv (sx_runV (As := []) (rest := []) EE (hS.1.ob hN hH) rfl rfl (v_Ha_spreadWords (X := X) (hC.kept hS.1) (hS.1.ob hN hH) hN hV) w_Ha_54 rfl ⟨rfl, rfl⟩ ⟨Nat.le_of_ble_eq_true rfl, Nat.le_of_ble_eq_true rfl⟩ ⟨Nat.zero_le _, Nat.zero_le _⟩ hl.1 rfl (Nat.le_of_ble_eq_true rfl) d_Ha_mix_1) hS (fun H locs X1 eX1 hS hV => ?_)
  refine lv_aload_n hx hb d_Ha_mix_4 rfl (lv_at hl 0 rfl) ?_
  refine sx_get EE (hS.1.ob hN hH) rfl i_Ha 0 (by decide) rfl fl_Ha_7 rfl d_Ha_mix_5 ?_
  refine lv_iconst (v := nI 0) hx hb d_Ha_mix_8 (by decide +kernel) ?_
  refine vx_lald hx hb hG hS hV (kc_a5_0 hC) (by omega) (by decide) d_Ha_mix_9 ?_
  refine vx_nmL (fun z2 ez2 => ?_)
  refine lv_lstore_n (lv' := [(1, .long z2), (0, .ref (kq 5 99))]) hx hb d_Ha_mix_10 rfl hl (by decide) rfl (fun ls hl => ?_)
  refine lv_aload_n hx hb d_Ha_mix_11 rfl (lv_at hl 1 rfl) ?_
  refine sx_get EE (hS.1.ob hN hH) rfl i_Ha 0 (by decide) rfl fl_Ha_7 rfl d_Ha_mix_12 ?_
  refine lv_iconst (v := nI 1) hx hb d_Ha_mix_15 (by decide +kernel) ?_
  refine vx_lald hx hb hG hS hV (kc_a5_0 hC) (by omega) (by decide) d_Ha_mix_16 ?_
  refine vx_nmL (fun z3 ez3 => ?_)
  refine lv_lstore_n (lv' := [(3, .long z3), (1, .long z2), (0, .ref (kq 5 99))]) hx hb d_Ha_mix_17 rfl hl (by decide) rfl (fun ls hl => ?_)
  refine lv_aload_n hx hb d_Ha_mix_18 rfl (lv_at hl 2 rfl) ?_
  refine sx_get EE (hS.1.ob hN hH) rfl i_Ha 0 (by decide) rfl fl_Ha_7 rfl d_Ha_mix_19 ?_
  refine lv_iconst (v := nI 2) hx hb d_Ha_mix_22 (by decide +kernel) ?_
  refine vx_lald hx hb hG hS hV (kc_a5_0 hC) (by omega) (by decide) d_Ha_mix_23 ?_
  refine vx_nmL (fun z4 ez4 => ?_)
  refine lv_lstore (lv' := [(5, .long z4), (3, .long z3), (1, .long z2), (0, .ref (kq 5 99))]) hx hb d_Ha_mix_24 hl (by decide) rfl (fun ls hl => ?_)
  refine lv_aload_n hx hb d_Ha_mix_26 rfl (lv_at hl 3 rfl) ?_
  refine sx_get EE (hS.1.ob hN hH) rfl i_Ha 0 (by decide) rfl fl_Ha_7 rfl d_Ha_mix_27 ?_
  refine lv_iconst (v := nI 3) hx hb d_Ha_mix_30 (by decide +kernel) ?_
  refine vx_lald hx hb hG hS hV (kc_a5_0 hC) (by omega) (by decide) d_Ha_mix_31 ?_
  refine vx_nmL (fun z5 ez5 => ?_)
  refine lv_lstore (lv' := [(7, .long z5), (5, .long z4), (3, .long z3), (1, .long z2), (0, .ref (kq 5 99))]) hx hb d_Ha_mix_32 hl (by decide) rfl (fun ls hl => ?_)
  refine lv_aload_n hx hb d_Ha_mix_34 rfl (lv_at hl 4 rfl) ?_
  refine sx_get EE (hS.1.ob hN hH) rfl i_Ha 0 (by decide) rfl fl_Ha_7 rfl d_Ha_mix_35 ?_
  refine lv_iconst (v := nI 4) hx hb d_Ha_mix_38 (by decide +kernel) ?_
  refine vx_lald hx hb hG hS hV (kc_a5_0 hC) (by omega) (by decide) d_Ha_mix_39 ?_
  refine vx_nmL (fun z6 ez6 => ?_)
  refine lv_lstore (lv' := [(9, .long z6), (7, .long z5), (5, .long z4), (3, .long z3), (1, .long z2), (0, .ref (kq 5 99))]) hx hb d_Ha_mix_40 hl (by decide) rfl (fun ls hl => ?_)
  refine lv_aload_n hx hb d_Ha_mix_42 rfl (lv_at hl 5 rfl) ?_
  refine sx_get EE (hS.1.ob hN hH) rfl i_Ha 0 (by decide) rfl fl_Ha_7 rfl d_Ha_mix_43 ?_
  refine lv_iconst (v := nI 5) hx hb d_Ha_mix_46 (by decide +kernel) ?_
  refine vx_lald hx hb hG hS hV (kc_a5_0 hC) (by omega) (by decide) d_Ha_mix_47 ?_
  refine vx_nmL (fun z7 ez7 => ?_)
  refine lv_lstore (lv' := [(11, .long z7), (9, .long z6), (7, .long z5), (5, .long z4), (3, .long z3), (1, .long z2), (0, .ref (kq 5 99))]) hx hb d_Ha_mix_48 hl (by decide) rfl (fun ls hl => ?_)
  refine lv_aload_n hx hb d_Ha_mix_50 rfl (lv_at hl 6 rfl) ?_
  refine sx_get EE (hS.1.ob hN hH) rfl i_Ha 0 (by decide) rfl fl_Ha_7 rfl d_Ha_mix_51 ?_
  refine lv_bipush (v := nI 6) hx hb d_Ha_mix_54 (by decide +kernel) ?_
  refine vx_lald hx hb hG hS hV (kc_a5_0 hC) (by omega) (by decide) d_Ha_mix_56 ?_
  refine vx_nmL (fun z8 ez8 => ?_)
  refine lv_lstore (lv' := [(13, .long z8), (11, .long z7), (9, .long z6), (7, .long z5), (5, .long z4), (3, .long z3), (1, .long z2), (0, .ref (kq 5 99))]) hx hb d_Ha_mix_57 hl (by decide) rfl (fun ls hl => ?_)
  refine lv_aload_n hx hb d_Ha_mix_59 rfl (lv_at hl 7 rfl) ?_
  refine sx_get EE (hS.1.ob hN hH) rfl i_Ha 0 (by decide) rfl fl_Ha_7 rfl d_Ha_mix_60 ?_
  refine lv_bipush (v := nI 7) hx hb d_Ha_mix_63 (by decide +kernel) ?_
  refine vx_lald hx hb hG hS hV (kc_a5_0 hC) (by omega) (by decide) d_Ha_mix_65 ?_
  refine vx_nmL (fun z9 ez9 => ?_)
  refine lv_lstore (lv' := [(15, .long z9), (13, .long z8), (11, .long z7), (9, .long z6), (7, .long z5), (5, .long z4), (3, .long z3), (1, .long z2), (0, .ref (kq 5 99))]) hx hb d_Ha_mix_66 hl (by decide) rfl (fun ls hl => ?_)
  refine lv_iconst (v := nI 0) hx hb d_Ha_mix_68 (by decide +kernel) ?_
  refine lv_istore (lv' := [(17, .int (nI (0))), (15, .long z9), (13, .long z8), (11, .long z7), (9, .long z6), (7, .long z5), (5, .long z4), (3, .long z3), (1, .long z2), (0, .ref (kq 5 99))]) hx hb d_Ha_mix_69 hl (by decide) rfl (fun ls hl => ?_)
  obtain ⟨R12, eR12⟩ : ∃ t : (Int64 × Int64 × Int64 × Int64 × Int64 × Int64 × Int64 × Int64), lpU 1 (LL_Ha_mix_71 X1 kq) 80 0 (z9, z8, z7, z6, z5, z4, z3, z2) = t := ⟨_, rfl⟩
  refine lpU_go (σ := (Int64 × Int64 × Int64 × Int64 × Int64 × Int64 × Int64 × Int64)) (P := fun i10 s11 H locs ls => sx_S g E E H0 H locs ∧ mm g H = X1 ∧ lv_has ls 26 [(17, .int (nI (i10))), (15, .long s11.1), (13, .long s11.2.1), (11, .long s11.2.2.1), (9, .long s11.2.2.2.1), (7, .long s11.2.2.2.2.1), (5, .long s11.2.2.2.2.2.1), (3, .long s11.2.2.2.2.2.2.1), (1, .long s11.2.2.2.2.2.2.2), (0, .ref (kq 5 99))]) (Wd := fun H locs ls => W p l e rm_Ha_mix s m args below meth c H locs 0 0 Q (F0 m 71 ls [])) (N := 80) (d := 1) (by decide) ?_ ?_ 80 0 _ (by omega) eR12 _ _ _ ⟨hS, hV, lv_sub hl [0, 1, 2, 3, 4, 5, 6, 7, 8, 9] rfl⟩
  · intro i10 s11 H locs ls hii10 hP ihi10
    obtain ⟨hS, hV, hl⟩ := hP
    refine lv_iload hx hb d_Ha_mix_71 (lv_at hl 0 rfl) ?_
    refine lv_bipush (v := nI 80) hx hb d_Ha_mix_73 (by decide +kernel) ?_
    refine lv_icmp_ge (tgt := 242) hx hb d_Ha_mix_75 (by decide) (fun q => absurd q (nI_ge (by omega) (by omega))) (fun _ => ?_)
    refine lv_lload hx hb d_Ha_mix_78 (lv_at hl 4 rfl) ?_
    refine lv_bipush (v := nI 14) hx hb d_Ha_mix_80 (by decide +kernel) ?_
    refine lv_lushr hx hb d_Ha_mix_82 rfl ?_
    refine lv_lload hx hb d_Ha_mix_83 (lv_at hl 4 rfl) ?_
    refine lv_bipush (v := nI 50) hx hb d_Ha_mix_85 (by decide +kernel) ?_
    refine lv_lshl hx hb d_Ha_mix_87 rfl ?_
    refine lv_lor hx hb d_Ha_mix_88 ?_
    refine lv_lload hx hb d_Ha_mix_89 (lv_at hl 4 rfl) ?_
    refine lv_bipush (v := nI 18) hx hb d_Ha_mix_91 (by decide +kernel) ?_
    refine lv_lushr hx hb d_Ha_mix_93 rfl ?_
    refine lv_lload hx hb d_Ha_mix_94 (lv_at hl 4 rfl) ?_
    refine lv_bipush (v := nI 46) hx hb d_Ha_mix_96 (by decide +kernel) ?_
    refine lv_lshl hx hb d_Ha_mix_98 rfl ?_
    refine lv_lor hx hb d_Ha_mix_99 ?_
    refine lv_lxor hx hb d_Ha_mix_100 ?_
    refine lv_lload hx hb d_Ha_mix_101 (lv_at hl 4 rfl) ?_
    refine lv_bipush (v := nI 41) hx hb d_Ha_mix_103 (by decide +kernel) ?_
    refine lv_lushr hx hb d_Ha_mix_105 rfl ?_
    refine lv_lload hx hb d_Ha_mix_106 (lv_at hl 4 rfl) ?_
    refine lv_bipush (v := nI 23) hx hb d_Ha_mix_108 (by decide +kernel) ?_
    refine lv_lshl hx hb d_Ha_mix_110 rfl ?_
    refine lv_lor hx hb d_Ha_mix_111 ?_
    refine lv_lxor hx hb d_Ha_mix_112 ?_
    refine vx_nmL (fun z13 ez13 => ?_)
    refine lv_lstore (lv' := [(18, .long z13), (17, .int (nI (i10))), (15, .long s11.1), (13, .long s11.2.1), (11, .long s11.2.2.1), (9, .long s11.2.2.2.1), (7, .long s11.2.2.2.2.1), (5, .long s11.2.2.2.2.2.1), (3, .long s11.2.2.2.2.2.2.1), (1, .long s11.2.2.2.2.2.2.2), (0, .ref (kq 5 99))]) hx hb d_Ha_mix_113 hl (by decide) rfl (fun ls hl => ?_)
    refine lv_lload_n hx hb d_Ha_mix_115 rfl (lv_at hl 9 rfl) ?_
    refine lv_bipush (v := nI 28) hx hb d_Ha_mix_116 (by decide +kernel) ?_
    refine lv_lushr hx hb d_Ha_mix_118 rfl ?_
    refine lv_lload_n hx hb d_Ha_mix_119 rfl (lv_at hl 9 rfl) ?_
    refine lv_bipush (v := nI 36) hx hb d_Ha_mix_120 (by decide +kernel) ?_
    refine lv_lshl hx hb d_Ha_mix_122 rfl ?_
    refine lv_lor hx hb d_Ha_mix_123 ?_
    refine lv_lload_n hx hb d_Ha_mix_124 rfl (lv_at hl 9 rfl) ?_
    refine lv_bipush (v := nI 34) hx hb d_Ha_mix_125 (by decide +kernel) ?_
    refine lv_lushr hx hb d_Ha_mix_127 rfl ?_
    refine lv_lload_n hx hb d_Ha_mix_128 rfl (lv_at hl 9 rfl) ?_
    refine lv_bipush (v := nI 30) hx hb d_Ha_mix_129 (by decide +kernel) ?_
    refine lv_lshl hx hb d_Ha_mix_131 rfl ?_
    refine lv_lor hx hb d_Ha_mix_132 ?_
    refine lv_lxor hx hb d_Ha_mix_133 ?_
    refine lv_lload_n hx hb d_Ha_mix_134 rfl (lv_at hl 9 rfl) ?_
    refine lv_bipush (v := nI 39) hx hb d_Ha_mix_135 (by decide +kernel) ?_
    refine lv_lushr hx hb d_Ha_mix_137 rfl ?_
    refine lv_lload_n hx hb d_Ha_mix_138 rfl (lv_at hl 9 rfl) ?_
    refine lv_bipush (v := nI 25) hx hb d_Ha_mix_139 (by decide +kernel) ?_
    refine lv_lshl hx hb d_Ha_mix_141 rfl ?_
    refine lv_lor hx hb d_Ha_mix_142 ?_
    refine lv_lxor hx hb d_Ha_mix_143 ?_
    refine vx_nmL (fun z14 ez14 => ?_)
    refine lv_lstore (lv' := [(20, .long z14), (18, .long z13), (17, .int (nI (i10))), (15, .long s11.1), (13, .long s11.2.1), (11, .long s11.2.2.1), (9, .long s11.2.2.2.1), (7, .long s11.2.2.2.2.1), (5, .long s11.2.2.2.2.2.1), (3, .long s11.2.2.2.2.2.2.1), (1, .long s11.2.2.2.2.2.2.2), (0, .ref (kq 5 99))]) hx hb d_Ha_mix_144 hl (by decide) rfl (fun ls hl => ?_)
    refine lv_lload hx hb d_Ha_mix_146 (lv_at hl 3 rfl) ?_
    refine lv_lload hx hb d_Ha_mix_148 (lv_at hl 1 rfl) ?_
    refine lv_ladd hx hb d_Ha_mix_150 ?_
    refine lv_lload hx hb d_Ha_mix_151 (lv_at hl 6 rfl) ?_
    refine lv_lload hx hb d_Ha_mix_153 (lv_at hl 5 rfl) ?_
    refine lv_land hx hb d_Ha_mix_155 ?_
    refine lv_lload hx hb d_Ha_mix_156 (lv_at hl 6 rfl) ?_
    refine lv_ldc2 (v := (-1)) hx hb hown (hts (.constantLong R_Ha 57 (-1)) (by decide +kernel)) d_Ha_mix_158 ?_
    refine lv_lxor hx hb d_Ha_mix_161 ?_
    refine lv_lload hx hb d_Ha_mix_162 (lv_at hl 4 rfl) ?_
    refine lv_land hx hb d_Ha_mix_164 ?_
    refine lv_lxor hx hb d_Ha_mix_165 ?_
    refine lv_ladd hx hb d_Ha_mix_166 ?_
    obtain ⟨z0_, ⟨cz_, z1_, z2_, z3_⟩, z4_⟩ := (hz.kept hS.1) 7 (by decide)
    refine sx_gets EE (hK.2.2.1 7 (by decide)) z1_ z2_ z3_ fl_Ha_59 d_Ha_mix_167 ?_
    refine lv_iload hx hb d_Ha_mix_170 (lv_at hl 2 rfl) ?_
    refine vx_lald hx hb hG hS hV (st_a7 hz) (by omega) (by decide) d_Ha_mix_172 ?_
    refine sx_tl (y := st_v 7 i10) (st_H.vL (hz.kept hS.1) hV 7 (by decide) (show i10 < 80 by omega)) ?_
    refine lv_ladd hx hb d_Ha_mix_173 ?_
    refine lv_aload_n hx hb d_Ha_mix_174 rfl (lv_at hl 11 rfl) ?_
    refine sx_get EE (hS.1.ob hN hH) rfl i_Ha 1 (by decide) rfl fl_Ha_13 rfl d_Ha_mix_175 ?_
    refine lv_iload hx hb d_Ha_mix_178 (lv_at hl 2 rfl) ?_
    refine vx_lald hx hb hG hS hV (kc_a5_1 hC) (by omega) (by decide) d_Ha_mix_180 ?_
    refine lv_ladd hx hb d_Ha_mix_181 ?_
    refine vx_nmL (fun z15 ez15 => ?_)
    refine lv_lstore (lv' := [(22, .long z15), (20, .long z14), (18, .long z13), (17, .int (nI (i10))), (15, .long s11.1), (13, .long s11.2.1), (11, .long s11.2.2.1), (9, .long s11.2.2.2.1), (7, .long s11.2.2.2.2.1), (5, .long s11.2.2.2.2.2.1), (3, .long s11.2.2.2.2.2.2.1), (1, .long s11.2.2.2.2.2.2.2), (0, .ref (kq 5 99))]) hx hb d_Ha_mix_182 hl (by decide) rfl (fun ls hl => ?_)
    refine lv_lload hx hb d_Ha_mix_184 (lv_at hl 1 rfl) ?_
    refine lv_lload_n hx hb d_Ha_mix_186 rfl (lv_at hl 11 rfl) ?_
    refine lv_lload_n hx hb d_Ha_mix_187 rfl (lv_at hl 10 rfl) ?_
    refine lv_land hx hb d_Ha_mix_188 ?_
    refine lv_lload_n hx hb d_Ha_mix_189 rfl (lv_at hl 11 rfl) ?_
    refine lv_lload hx hb d_Ha_mix_190 (lv_at hl 9 rfl) ?_
    refine lv_land hx hb d_Ha_mix_192 ?_
    refine lv_lxor hx hb d_Ha_mix_193 ?_
    refine lv_lload_n hx hb d_Ha_mix_194 rfl (lv_at hl 10 rfl) ?_
    refine lv_lload hx hb d_Ha_mix_195 (lv_at hl 9 rfl) ?_
    refine lv_land hx hb d_Ha_mix_197 ?_
    refine lv_lxor hx hb d_Ha_mix_198 ?_
    refine lv_ladd hx hb d_Ha_mix_199 ?_
    refine vx_nmL (fun z16 ez16 => ?_)
    refine lv_lstore (lv' := [(24, .long z16), (22, .long z15), (20, .long z14), (18, .long z13), (17, .int (nI (i10))), (15, .long s11.1), (13, .long s11.2.1), (11, .long s11.2.2.1), (9, .long s11.2.2.2.1), (7, .long s11.2.2.2.2.1), (5, .long s11.2.2.2.2.2.1), (3, .long s11.2.2.2.2.2.2.1), (1, .long s11.2.2.2.2.2.2.2), (0, .ref (kq 5 99))]) hx hb d_Ha_mix_200 hl (by decide) rfl (fun ls hl => ?_)
    refine lv_lload hx hb d_Ha_mix_202 (lv_at hl 6 rfl) ?_
    refine lv_lstore (lv' := [(15, .long s11.2.1), (24, .long z16), (22, .long z15), (20, .long z14), (18, .long z13), (17, .int (nI (i10))), (13, .long s11.2.1), (11, .long s11.2.2.1), (9, .long s11.2.2.2.1), (7, .long s11.2.2.2.2.1), (5, .long s11.2.2.2.2.2.1), (3, .long s11.2.2.2.2.2.2.1), (1, .long s11.2.2.2.2.2.2.2), (0, .ref (kq 5 99))]) hx hb d_Ha_mix_204 hl (by decide) rfl (fun ls hl => ?_)
    refine lv_lload hx hb d_Ha_mix_206 (lv_at hl 7 rfl) ?_
    refine lv_lstore (lv' := [(13, .long s11.2.2.1), (15, .long s11.2.1), (24, .long z16), (22, .long z15), (20, .long z14), (18, .long z13), (17, .int (nI (i10))), (11, .long s11.2.2.1), (9, .long s11.2.2.2.1), (7, .long s11.2.2.2.2.1), (5, .long s11.2.2.2.2.2.1), (3, .long s11.2.2.2.2.2.2.1), (1, .long s11.2.2.2.2.2.2.2), (0, .ref (kq 5 99))]) hx hb d_Ha_mix_208 hl (by decide) rfl (fun ls hl => ?_)
    refine lv_lload hx hb d_Ha_mix_210 (lv_at hl 8 rfl) ?_
    refine lv_lstore (lv' := [(11, .long s11.2.2.2.1), (13, .long s11.2.2.1), (15, .long s11.2.1), (24, .long z16), (22, .long z15), (20, .long z14), (18, .long z13), (17, .int (nI (i10))), (9, .long s11.2.2.2.1), (7, .long s11.2.2.2.2.1), (5, .long s11.2.2.2.2.2.1), (3, .long s11.2.2.2.2.2.2.1), (1, .long s11.2.2.2.2.2.2.2), (0, .ref (kq 5 99))]) hx hb d_Ha_mix_212 hl (by decide) rfl (fun ls hl => ?_)
    refine lv_lload hx hb d_Ha_mix_214 (lv_at hl 9 rfl) ?_
    refine lv_lload hx hb d_Ha_mix_216 (lv_at hl 4 rfl) ?_
    refine lv_ladd hx hb d_Ha_mix_218 ?_
    refine vx_nmL (fun z17 ez17 => ?_)
    refine lv_lstore (lv' := [(9, .long z17), (11, .long s11.2.2.2.1), (13, .long s11.2.2.1), (15, .long s11.2.1), (24, .long z16), (22, .long z15), (20, .long z14), (18, .long z13), (17, .int (nI (i10))), (7, .long s11.2.2.2.2.1), (5, .long s11.2.2.2.2.2.1), (3, .long s11.2.2.2.2.2.2.1), (1, .long s11.2.2.2.2.2.2.2), (0, .ref (kq 5 99))]) hx hb d_Ha_mix_219 hl (by decide) rfl (fun ls hl => ?_)
    refine lv_lload hx hb d_Ha_mix_221 (lv_at hl 10 rfl) ?_
    refine lv_lstore (lv' := [(7, .long s11.2.2.2.2.2.1), (9, .long z17), (11, .long s11.2.2.2.1), (13, .long s11.2.2.1), (15, .long s11.2.1), (24, .long z16), (22, .long z15), (20, .long z14), (18, .long z13), (17, .int (nI (i10))), (5, .long s11.2.2.2.2.2.1), (3, .long s11.2.2.2.2.2.2.1), (1, .long s11.2.2.2.2.2.2.2), (0, .ref (kq 5 99))]) hx hb d_Ha_mix_223 hl (by decide) rfl (fun ls hl => ?_)
    refine lv_lload_n hx hb d_Ha_mix_225 rfl (lv_at hl 11 rfl) ?_
    refine lv_lstore (lv' := [(5, .long s11.2.2.2.2.2.2.1), (7, .long s11.2.2.2.2.2.1), (9, .long z17), (11, .long s11.2.2.2.1), (13, .long s11.2.2.1), (15, .long s11.2.1), (24, .long z16), (22, .long z15), (20, .long z14), (18, .long z13), (17, .int (nI (i10))), (3, .long s11.2.2.2.2.2.2.1), (1, .long s11.2.2.2.2.2.2.2), (0, .ref (kq 5 99))]) hx hb d_Ha_mix_226 hl (by decide) rfl (fun ls hl => ?_)
    refine lv_lload_n hx hb d_Ha_mix_228 rfl (lv_at hl 12 rfl) ?_
    refine lv_lstore_n (lv' := [(3, .long s11.2.2.2.2.2.2.2), (5, .long s11.2.2.2.2.2.2.1), (7, .long s11.2.2.2.2.2.1), (9, .long z17), (11, .long s11.2.2.2.1), (13, .long s11.2.2.1), (15, .long s11.2.1), (24, .long z16), (22, .long z15), (20, .long z14), (18, .long z13), (17, .int (nI (i10))), (1, .long s11.2.2.2.2.2.2.2), (0, .ref (kq 5 99))]) hx hb d_Ha_mix_229 rfl hl (by decide) rfl (fun ls hl => ?_)
    refine lv_lload hx hb d_Ha_mix_230 (lv_at hl 8 rfl) ?_
    refine lv_lload hx hb d_Ha_mix_232 (lv_at hl 7 rfl) ?_
    refine lv_ladd hx hb d_Ha_mix_234 ?_
    refine vx_nmL (fun z18 ez18 => ?_)
    refine lv_lstore_n (lv' := [(1, .long z18), (3, .long s11.2.2.2.2.2.2.2), (5, .long s11.2.2.2.2.2.2.1), (7, .long s11.2.2.2.2.2.1), (9, .long z17), (11, .long s11.2.2.2.1), (13, .long s11.2.2.1), (15, .long s11.2.1), (24, .long z16), (22, .long z15), (20, .long z14), (18, .long z13), (17, .int (nI (i10))), (0, .ref (kq 5 99))]) hx hb d_Ha_mix_235 rfl hl (by decide) rfl (fun ls hl => ?_)
    refine lv_iinc (v := nI (i10 + 1)) (lv' := [(17, .int (nI (i10 + 1))), (1, .long z18), (3, .long s11.2.2.2.2.2.2.2), (5, .long s11.2.2.2.2.2.2.1), (7, .long s11.2.2.2.2.2.1), (9, .long z17), (11, .long s11.2.2.2.1), (13, .long s11.2.2.1), (15, .long s11.2.1), (24, .long z16), (22, .long z15), (20, .long z14), (18, .long z13), (0, .ref (kq 5 99))]) hx hb d_Ha_mix_236 hl (k := 12) rfl (sx_inc _ _) (by decide) rfl (fun ls hl => ?_)
    refine lv_goto (tgt := 71) hx hb d_Ha_mix_239 (by decide) ?_
    exact ihi10 (s11.2.1, s11.2.2.1, s11.2.2.2.1, z17, s11.2.2.2.2.2.1, s11.2.2.2.2.2.2.1, s11.2.2.2.2.2.2.2, z18) _ _ _ (by subst ez13 ez14 ez15 ez16 ez17 ez18; exact rfl) ⟨hS, hV, lv_sub hl [0, 8, 7, 6, 5, 4, 3, 2, 1, 13] rfl⟩
  · intro H locs ls hP
    obtain ⟨hS, hV, hl⟩ := hP
    refine lv_iload hx hb d_Ha_mix_71 (lv_at hl 0 rfl) ?_
    refine lv_bipush (v := nI 80) hx hb d_Ha_mix_73 (by decide +kernel) ?_
    refine lv_icmp_ge (tgt := 242) hx hb d_Ha_mix_75 (by decide) (fun _ => ?_) (fun q => absurd (nI_le (by omega) (by omega)) q)
    refine lv_aload_n hx hb d_Ha_mix_242 rfl (lv_at hl 9 rfl) ?_
    refine sx_get EE (hS.1.ob hN hH) rfl i_Ha 0 (by decide) rfl fl_Ha_7 rfl d_Ha_mix_243 ?_
    refine lv_iconst (v := nI 0) hx hb d_Ha_mix_246 (by decide +kernel) ?_
    refine lv_dup2_11 hx hb d_Ha_mix_247 rfl rfl ?_
    refine vx_lald hx hb hG hS hV (kc_a5_0 hC) (by omega) (by decide) d_Ha_mix_248 ?_
    refine lv_lload_n hx hb d_Ha_mix_249 rfl (lv_at hl 8 rfl) ?_
    refine lv_ladd hx hb d_Ha_mix_250 ?_
    refine vx_last hx hb hG hS hV (kc_a5_0 hC) (kc_e5_0 hC) (by omega) (by decide) d_Ha_mix_251 (fun H locs X19 eX19 hS hV => ?_)
    refine lv_aload_n hx hb d_Ha_mix_252 rfl (lv_at hl 9 rfl) ?_
    refine sx_get EE (hS.1.ob hN hH) rfl i_Ha 0 (by decide) rfl fl_Ha_7 rfl d_Ha_mix_253 ?_
    refine lv_iconst (v := nI 1) hx hb d_Ha_mix_256 (by decide +kernel) ?_
    refine lv_dup2_11 hx hb d_Ha_mix_257 rfl rfl ?_
    refine vx_lald hx hb hG hS hV (kc_a5_0 hC) (by omega) (by decide) d_Ha_mix_258 ?_
    refine lv_lload_n hx hb d_Ha_mix_259 rfl (lv_at hl 7 rfl) ?_
    refine lv_ladd hx hb d_Ha_mix_260 ?_
    refine vx_last hx hb hG hS hV (kc_a5_0 hC) (kc_e5_0 hC) (by omega) (by decide) d_Ha_mix_261 (fun H locs X20 eX20 hS hV => ?_)
    refine lv_aload_n hx hb d_Ha_mix_262 rfl (lv_at hl 9 rfl) ?_
    refine sx_get EE (hS.1.ob hN hH) rfl i_Ha 0 (by decide) rfl fl_Ha_7 rfl d_Ha_mix_263 ?_
    refine lv_iconst (v := nI 2) hx hb d_Ha_mix_266 (by decide +kernel) ?_
    refine lv_dup2_11 hx hb d_Ha_mix_267 rfl rfl ?_
    refine vx_lald hx hb hG hS hV (kc_a5_0 hC) (by omega) (by decide) d_Ha_mix_268 ?_
    refine lv_lload hx hb d_Ha_mix_269 (lv_at hl 6 rfl) ?_
    refine lv_ladd hx hb d_Ha_mix_271 ?_
    refine vx_last hx hb hG hS hV (kc_a5_0 hC) (kc_e5_0 hC) (by omega) (by decide) d_Ha_mix_272 (fun H locs X21 eX21 hS hV => ?_)
    refine lv_aload_n hx hb d_Ha_mix_273 rfl (lv_at hl 9 rfl) ?_
    refine sx_get EE (hS.1.ob hN hH) rfl i_Ha 0 (by decide) rfl fl_Ha_7 rfl d_Ha_mix_274 ?_
    refine lv_iconst (v := nI 3) hx hb d_Ha_mix_277 (by decide +kernel) ?_
    refine lv_dup2_11 hx hb d_Ha_mix_278 rfl rfl ?_
    refine vx_lald hx hb hG hS hV (kc_a5_0 hC) (by omega) (by decide) d_Ha_mix_279 ?_
    refine lv_lload hx hb d_Ha_mix_280 (lv_at hl 5 rfl) ?_
    refine lv_ladd hx hb d_Ha_mix_282 ?_
    refine vx_last hx hb hG hS hV (kc_a5_0 hC) (kc_e5_0 hC) (by omega) (by decide) d_Ha_mix_283 (fun H locs X22 eX22 hS hV => ?_)
    refine lv_aload_n hx hb d_Ha_mix_284 rfl (lv_at hl 9 rfl) ?_
    refine sx_get EE (hS.1.ob hN hH) rfl i_Ha 0 (by decide) rfl fl_Ha_7 rfl d_Ha_mix_285 ?_
    refine lv_iconst (v := nI 4) hx hb d_Ha_mix_288 (by decide +kernel) ?_
    refine lv_dup2_11 hx hb d_Ha_mix_289 rfl rfl ?_
    refine vx_lald hx hb hG hS hV (kc_a5_0 hC) (by omega) (by decide) d_Ha_mix_290 ?_
    refine lv_lload hx hb d_Ha_mix_291 (lv_at hl 4 rfl) ?_
    refine lv_ladd hx hb d_Ha_mix_293 ?_
    refine vx_last hx hb hG hS hV (kc_a5_0 hC) (kc_e5_0 hC) (by omega) (by decide) d_Ha_mix_294 (fun H locs X23 eX23 hS hV => ?_)
    refine lv_aload_n hx hb d_Ha_mix_295 rfl (lv_at hl 9 rfl) ?_
    refine sx_get EE (hS.1.ob hN hH) rfl i_Ha 0 (by decide) rfl fl_Ha_7 rfl d_Ha_mix_296 ?_
    refine lv_iconst (v := nI 5) hx hb d_Ha_mix_299 (by decide +kernel) ?_
    refine lv_dup2_11 hx hb d_Ha_mix_300 rfl rfl ?_
    refine vx_lald hx hb hG hS hV (kc_a5_0 hC) (by omega) (by decide) d_Ha_mix_301 ?_
    refine lv_lload hx hb d_Ha_mix_302 (lv_at hl 3 rfl) ?_
    refine lv_ladd hx hb d_Ha_mix_304 ?_
    refine vx_last hx hb hG hS hV (kc_a5_0 hC) (kc_e5_0 hC) (by omega) (by decide) d_Ha_mix_305 (fun H locs X24 eX24 hS hV => ?_)
    refine lv_aload_n hx hb d_Ha_mix_306 rfl (lv_at hl 9 rfl) ?_
    refine sx_get EE (hS.1.ob hN hH) rfl i_Ha 0 (by decide) rfl fl_Ha_7 rfl d_Ha_mix_307 ?_
    refine lv_bipush (v := nI 6) hx hb d_Ha_mix_310 (by decide +kernel) ?_
    refine lv_dup2_11 hx hb d_Ha_mix_312 rfl rfl ?_
    refine vx_lald hx hb hG hS hV (kc_a5_0 hC) (by omega) (by decide) d_Ha_mix_313 ?_
    refine lv_lload hx hb d_Ha_mix_314 (lv_at hl 2 rfl) ?_
    refine lv_ladd hx hb d_Ha_mix_316 ?_
    refine vx_last hx hb hG hS hV (kc_a5_0 hC) (kc_e5_0 hC) (by omega) (by decide) d_Ha_mix_317 (fun H locs X25 eX25 hS hV => ?_)
    refine lv_aload_n hx hb d_Ha_mix_318 rfl (lv_at hl 9 rfl) ?_
    refine sx_get EE (hS.1.ob hN hH) rfl i_Ha 0 (by decide) rfl fl_Ha_7 rfl d_Ha_mix_319 ?_
    refine lv_bipush (v := nI 7) hx hb d_Ha_mix_322 (by decide +kernel) ?_
    refine lv_dup2_11 hx hb d_Ha_mix_324 rfl rfl ?_
    refine vx_lald hx hb hG hS hV (kc_a5_0 hC) (by omega) (by decide) d_Ha_mix_325 ?_
    refine lv_lload hx hb d_Ha_mix_326 (lv_at hl 1 rfl) ?_
    refine lv_ladd hx hb d_Ha_mix_328 ?_
    refine vx_last hx hb hG hS hV (kc_a5_0 hC) (kc_e5_0 hC) (by omega) (by decide) d_Ha_mix_329 (fun H locs X26 eX26 hS hV => ?_)
    exact hret _ _ _ _ _ (by subst eX1 ez2 ez3 ez4 ez5 ez6 ez7 ez8 ez9 eR12 eX19 eX20 eX21 eX22 eX23 eX24 eX25 eX26; exact rfl) hS hV d_Ha_mix_330
