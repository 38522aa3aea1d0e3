def LL_Or_isBelow_3 (X : vM) (a0 : Nat) : Nat → Unit → Bool ⊕ Unit := fun i_0 s_1 => (let z_2 : Int64 := ((((X.2 a0 i_0) &&& (nI 255)).toInt64) - (st_v 8 i_0)); if z_2 = (0 : Int64) then (Sum.inr ()) else (let J_3 : Bool := if (0 : Int64) ≤ z_2 then false else true; Sum.inl (J_3)))
def LF_Or_isBelow (X : vM) (a0 : Nat) (ts : Nat → Nat) : Bool := Sum.elim (fun r => r) (fun (s9 : Unit) => false) (lpF (LL_Or_isBelow_3 X a0) 32 ())
abbrev rm_Or_isBelow : Room := { frames := 0, cells := 0, slots := 0, locals := 0 }
set_option maxHeartbeats 4000000 in
set_option maxRecDepth 100000 in
theorem v_Or_isBelow {l : Launch} {D : va_G} {g : ClassId → FieldType → Prop} {E : Nat → Prop} {H0 : Heap} {X : vM} {a0 : Nat} {ts : Nat → Nat} (f0 : sx_A g .byte H0 a0 32) (hz : st_H D g E H0 ts) (hV : mm g H0 = X) : Met l y_Or_isBelow (.code y_Or_isBelow b_Or_isBelow 4 (some .boolean) :: G_) rm_Or_isBelow (sx_Pc [.ref a0] H0 D g) (vx_Qi g E H0 X (nI ((LF_Or_isBelow X a0 ts)).toNat)) 0 0 E := by
  refine vx_mz (own := R_Or) (by decide) rfl rfl rfl (Nat.le_of_ble_eq_true rfl) ?_
  intro p e s m args below meth c Q ls EE hl hret
  obtain ⟨hx, hb, hml, hown, hts, hG, hK⟩ := id EE
  have hS : sx_S g E E H0 H0 [] := sx_S.rf
  have hl : lv_has ls 4 [(0, .ref a0)] := hl
  refine lv_bipush (v := nI 31) hx hb d_Or_isBelow_0 (by decide +kernel) ?_
  refine lv_istore_n (lv' := [(1, .int (nI (31))), (0, .ref a0)]) hx hb d_Or_isBelow_2 rfl hl (by decide) rfl (fun ls hl => ?_)
  obtain ⟨R3, eR3⟩ : ∃ t : (Bool ⊕ Unit), lpF (LL_Or_isBelow_3 X a0) 32 () = t := ⟨_, rfl⟩
  rw [show (nI (31)) = nI 32 - 1 from (nI_pred _).symm] at hl
  refine lpF_go (σ := Unit) (P := fun i1 s2 H locs ls => sx_S g E E H0 H locs ∧ mm g H = X ∧ lv_has ls 4 [(1, .int (nI i1 - 1)), (0, .ref a0)]) (Wd := fun H locs ls => W p l e rm_Or_isBelow s m args below meth c H locs 0 0 Q (F0 m 3 ls [])) (N := 32) ?_ ?_ 32 _ (by omega) eR3 _ _ _ ⟨hS, hV, lv_sub hl [0, 1] rfl⟩
  · intro i1 s2 H locs ls hii1 hP ihi1 hxR3
    obtain ⟨hS, hV, hl⟩ := hP
    rw [nI_pred] at hl
    refine lv_iload_n hx hb d_Or_isBelow_3 rfl (lv_at hl 0 rfl) ?_
    refine lv_if_lt (tgt := 46) hx hb d_Or_isBelow_4 (by decide) (fun q => absurd q (nI_pos (by omega))) (fun _ => ?_)
    refine lv_aload_n hx hb d_Or_isBelow_7 rfl (lv_at hl 1 rfl) ?_
    refine lv_iload_n hx hb d_Or_isBelow_8 rfl (lv_at hl 0 rfl) ?_
    refine vx_bald hx hb hG hS hV f0 (by omega) (by decide) d_Or_isBelow_9 ?_
    refine lv_sipush (v := nI 255) hx hb d_Or_isBelow_10 (by decide +kernel) ?_
    refine lv_iand hx hb d_Or_isBelow_13 ?_
    refine lv_i2l hx hb d_Or_isBelow_14 rfl ?_
    obtain ⟨z0_, ⟨cz_, z1_, z2_, z3_⟩, z4_⟩ := (hz.kept hS.1) 8 (by decide)
    refine sx_gets EE (hK.2.2.1 8 (by decide)) z1_ z2_ z3_ fl_Or_15 d_Or_isBelow_15 ?_
    refine lv_iload_n hx hb d_Or_isBelow_18 rfl (lv_at hl 0 rfl) ?_
    refine vx_lald hx hb hG hS hV (st_a8 hz) (by omega) (by decide) d_Or_isBelow_19 ?_
    refine sx_tl (y := st_v 8 i1) (st_H.vL (hz.kept hS.1) hV 8 (by decide) (show i1 < 32 by omega)) ?_
    refine lv_lsub hx hb d_Or_isBelow_20 ?_
    refine vx_nmL (fun z4 ez4 => ?_)
    refine lv_lstore_n (lv' := [(2, .long z4), (1, .int (nI (i1))), (0, .ref a0)]) hx hb d_Or_isBelow_21 rfl hl (by decide) rfl (fun ls hl => ?_)
    refine lv_lload_n hx hb d_Or_isBelow_22 rfl (lv_at hl 0 rfl) ?_
    refine lv_lconst (v := 0) hx hb d_Or_isBelow_23 (by decide +kernel) ?_
    refine W.lcmp hx hb d_Or_isBelow_24 ?_
    refine lv_if_eq (tgt := 40) hx hb d_Or_isBelow_25 (by decide) (fun q25_4 => ?_) (fun q25_4 => ?_)
    · skip
      have q25_4 := (lg_cmp_eq _ _).mp q25_4
      refine lv_iinc (v := nI i1 - 1) (lv' := [(1, .int (nI i1 - 1)), (2, .long z4), (0, .ref a0)]) hx hb d_Or_isBelow_40 hl (k := 1) rfl (sx_dn _) (by decide) rfl (fun ls hl => ?_)
      refine lv_goto (tgt := 3) hx hb d_Or_isBelow_43 (by decide) ?_
      exact ihi1 () _ _ _ (by subst ez4; exact (vx_p q25_4 rfl)) ⟨hS, hV, lv_sub hl [0, 2] rfl⟩
    · skip
      have q25_4 : ¬ (z4 = (0 : Int64)) := fun z => q25_4 ((lg_cmp_eq _ _).mpr z)
      refine lv_lload_n hx hb d_Or_isBelow_28 rfl (lv_at hl 0 rfl) ?_
      refine lv_lconst (v := 0) hx hb d_Or_isBelow_29 (by decide +kernel) ?_
      refine W.lcmp hx hb d_Or_isBelow_30 ?_
      have jn39_7 : ∀ (J7 : Bool) (H : Heap) (locs : List Loc) (ls : Array Slot), (if (0 : Int64) ≤ z4 then false else true) = J7 → sx_S g E E H0 H locs → mm g H = X → lv_has ls 4 [(2, .long z4), (1, .int (nI (i1))), (0, .ref a0)] → W p l e rm_Or_isBelow s m args below meth c H locs 0 0 Q (F0 m 39 ls [.int (nI ((J7).toNat))]) := by
        intro J7 H locs ls eJ7 hS hV hl
        have hrR3 := hxR3 (J7) (by subst ez4 eJ7; exact (vx_n q25_4 rfl))
        exact hret _ _ _ _ _ J7 _ rfl (by subst eR3; exact (vx_l hrR3 rfl)) rfl hS hV d_Or_isBelow_39
      refine lv_if_ge (tgt := 38) hx hb d_Or_isBelow_31 (by decide) (fun q31_5 => ?_) (fun q31_5 => ?_)
      · skip
        have q31_5 := (lg_cmp_ge _ _).mp q31_5
        refine lv_iconst (v := nI 0) hx hb d_Or_isBelow_38 (by decide +kernel) ?_
        exact jn39_7 false _ _ _ (vx_p q31_5 rfl) hS hV (lv_sub hl [0, 1, 2] rfl)
      · skip
        have q31_5 : ¬ ((0 : Int64) ≤ z4) := fun z => q31_5 ((lg_cmp_ge _ _).mpr z)
        refine lv_iconst (v := nI 1) hx hb d_Or_isBelow_34 (by decide +kernel) ?_
        refine lv_goto (tgt := 39) hx hb d_Or_isBelow_35 (by decide) ?_
        exact jn39_7 true _ _ _ (vx_n q31_5 rfl) hS hV (lv_sub hl [0, 1, 2] rfl)
  · intro s9 H locs ls erR3 hP
    obtain ⟨hS, hV, hl⟩ := hP
    refine lv_iload_n hx hb d_Or_isBelow_3 rfl (lv_at hl 0 rfl) ?_
    refine lv_if_lt (tgt := 46) hx hb d_Or_isBelow_4 (by decide) (fun _ => ?_) (fun q => absurd (by decide +kernel) q)
    refine lv_iconst (v := nI 0) hx hb d_Or_isBelow_46 (by decide +kernel) ?_
    exact hret _ _ _ _ _ false _ rfl (by subst eR3; exact (vx_r erR3 rfl)) rfl hS hV d_Or_isBelow_47
def LL_Or_foldPlace_23 (kq : Nat → Nat → Nat) (v0 : Nat) (z_0 : Int64) : Nat → (vM × Int64) → (vM × Int64) := fun i_1 s_2 => (let z_3 : Int64 := (((s_2.1.1 (kq 6 0) ((v0 - 32) + i_1)) + s_2.2) - (z_0 * (st_v 8 i_1))); let z_4 : Int64 := ((z_3 + (128 : Int64)) >>> ((nI 8).toInt64 &&& 63)); let X_5 : vM := stL s_2.1 (kq 6 0) ((v0 - 32) + i_1) (z_3 - (z_4 <<< ((nI 8).toInt64 &&& 63))); (X_5, z_4))
def LF_Or_foldPlace (X : vM) (kq : Nat → Nat → Nat) (ts : Nat → Nat) (v0 : Nat) : vM := (let z1 : Int64 := ((16 : Int64) * (X.1 (kq 6 0) v0)); let R4 : (vM × Int64) := lpU 1 (LL_Or_foldPlace_23 kq v0 z1) 20 0 (X, (0 : Int64)); (let X8 : vM := stL R4.1 (kq 6 0) ((v0 - 32) + 20) ((R4.1.1 (kq 6 0) ((v0 - 32) + 20)) + R4.2); let X9 : vM := stL X8 (kq 6 0) v0 (0 : Int64); X9))
abbrev rm_Or_foldPlace : Room := { frames := 0, cells := 0, slots := 0, locals := 0 }
set_option maxHeartbeats 4000000 in
set_option maxRecDepth 100000 in
theorem v_Or_foldPlace {l : Launch} {D : va_G} {g : ClassId → FieldType → Prop} {E : Nat → Prop} {H0 : Heap} {X : vM} {kq : Nat → Nat → Nat} {ts : Nat → Nat} {v0 : Nat} (hC : kc_ D g E H0 kq ts) (h0 : 32 ≤ v0 ∧ v0 < 64) (hV : mm g H0 = X) : Met l y_Or_foldPlace (.code y_Or_foldPlace b_Or_foldPlace 10 none :: G_) rm_Or_foldPlace (sx_Pc [.ref (kq 6 99), .int (nI v0)] H0 D g) (vx_Qv g E H0 (LF_Or_foldPlace X kq ts v0)) 0 0 E := by
  refine vx_mv (own := R_Or) (by decide) rfl rfl rfl (Nat.le_of_ble_eq_true rfl) ?_
  intro p e s m args below meth c Q ls EE hl hret
  obtain ⟨hx, hb, hml, hown, hts, hG, hK⟩ := id EE
  have hS : sx_S g E E H0 H0 [] := sx_S.rf
  have hz := hC.2.2.2.2
  have hl : lv_has ls 10 [(0, .ref (kq 6 99)), (1, .int (nI (v0)))] := hl
  refine lv_ldc2 (v := (16)) hx hb hown (hts (.constantLong R_Or 42 (16)) (by decide +kernel)) d_Or_foldPlace_0 ?_
  refine lv_aload_n hx hb d_Or_foldPlace_3 rfl (lv_at hl 0 rfl) ?_
  refine sx_get EE (hS.1.ob (kc_n6 hC) (kc_o6 hC)) rfl i_Or 0 (by decide) rfl fl_Or_11 rfl d_Or_foldPlace_4 ?_
  refine lv_iload_n hx hb d_Or_foldPlace_7 rfl (lv_at hl 1 rfl) ?_
  refine vx_lald hx hb hG hS hV (kc_a6_0 hC) (by omega) (by decide) d_Or_foldPlace_8 ?_
  refine lv_lmul hx hb d_Or_foldPlace_9 ?_
  refine vx_nmL (fun z1 ez1 => ?_)
  refine lv_lstore_n (lv' := [(2, .long z1), (0, .ref (kq 6 99)), (1, .int (nI (v0)))]) hx hb d_Or_foldPlace_10 rfl hl (by decide) rfl (fun ls hl => ?_)
  refine lv_lconst (v := 0) hx hb d_Or_foldPlace_11 (by decide +kernel) ?_
  refine lv_lstore (lv' := [(4, .long (0 : Int64)), (2, .long z1), (0, .ref (kq 6 99)), (1, .int (nI (v0)))]) hx hb d_Or_foldPlace_12 hl (by decide) rfl (fun ls hl => ?_)
  refine lv_iload_n hx hb d_Or_foldPlace_14 rfl (lv_at hl 3 rfl) ?_
  refine lv_bipush (v := nI 32) hx hb d_Or_foldPlace_15 (by decide +kernel) ?_
  refine lv_isub hx hb d_Or_foldPlace_17 ?_
  refine sx_ti (y := nI (v0 - 32)) (pk_sub (by omega)) ?_
  refine lv_istore (lv' := [(6, .int (nI (v0 - 32))), (4, .long (0 : Int64)), (2, .long z1), (0, .ref (kq 6 99)), (1, .int (nI (v0)))]) hx hb d_Or_foldPlace_18 hl (by decide) rfl (fun ls hl => ?_)
  refine lv_iconst (v := nI 0) hx hb d_Or_foldPlace_20 (by decide +kernel) ?_
  refine lv_istore (lv' := [(7, .int (nI (0))), (6, .int (nI (v0 - 32))), (4, .long (0 : Int64)), (2, .long z1), (0, .ref (kq 6 99)), (1, .int (nI (v0)))]) hx hb d_Or_foldPlace_21 hl (by decide) rfl (fun ls hl => ?_)
  obtain ⟨R4, eR4⟩ : ∃ t : (vM × Int64), lpU 1 (LL_Or_foldPlace_23 kq v0 z1) 20 0 (X, (0 : Int64)) = t := ⟨_, rfl⟩
  refine lpU_go (σ := (vM × Int64)) (P := fun i2 s3 H locs ls => sx_S g E E H0 H locs ∧ mm g H = s3.1 ∧ lv_has ls 10 [(7, .int (nI (i2))), (6, .int (nI (v0 - 32))), (4, .long s3.2), (2, .long z1), (0, .ref (kq 6 99)), (1, .int (nI (v0)))]) (Wd := fun H locs ls => W p l e rm_Or_foldPlace s m args below meth c H locs 0 0 Q (F0 m 23 ls [])) (N := 20) (d := 1) (by decide) ?_ ?_ 20 0 _ (by omega) eR4 _ _ _ ⟨hS, hV, lv_sub hl [0, 1, 2, 3, 4, 5] rfl⟩
  · intro i2 s3 H locs ls hii2 hP ihi2
    obtain ⟨hS, hV, hl⟩ := hP
    refine lv_iload hx hb d_Or_foldPlace_23 (lv_at hl 0 rfl) ?_
    refine lv_bipush (v := nI 20) hx hb d_Or_foldPlace_25 (by decide +kernel) ?_
    refine lv_icmp_ge (tgt := 89) hx hb d_Or_foldPlace_27 (by decide) (fun q => absurd q (nI_ge (by omega) (by omega))) (fun _ => ?_)
    refine lv_aload_n hx hb d_Or_foldPlace_30 rfl (lv_at hl 4 rfl) ?_
    refine sx_get EE (hS.1.ob (kc_n6 hC) (kc_o6 hC)) rfl i_Or 0 (by decide) rfl fl_Or_11 rfl d_Or_foldPlace_31 ?_
    refine lv_iload hx hb d_Or_foldPlace_34 (lv_at hl 1 rfl) ?_
    refine lv_iload hx hb d_Or_foldPlace_36 (lv_at hl 0 rfl) ?_
    refine lv_iadd hx hb d_Or_foldPlace_38 ?_
    refine sx_ti (y := nI ((v0 - 32) + i2)) (nI_add _ _) ?_
    refine vx_lald hx hb hG hS hV (kc_a6_0 hC) (by omega) (by decide) d_Or_foldPlace_39 ?_
    refine lv_lload hx hb d_Or_foldPlace_40 (lv_at hl 2 rfl) ?_
    refine lv_ladd hx hb d_Or_foldPlace_42 ?_
    refine lv_lload_n hx hb d_Or_foldPlace_43 rfl (lv_at hl 3 rfl) ?_
    obtain ⟨z0_, ⟨cz_, z1_, z2_, z3_⟩, z4_⟩ := (hz.kept hS.1) 8 (by decide)
    refine sx_gets EE (hK.2.2.1 8 (by decide)) z1_ z2_ z3_ fl_Or_15 d_Or_foldPlace_44 ?_
    refine lv_iload hx hb d_Or_foldPlace_47 (lv_at hl 0 rfl) ?_
    refine vx_lald hx hb hG hS hV (st_a8 hz) (by omega) (by decide) d_Or_foldPlace_49 ?_
    refine sx_tl (y := st_v 8 i2) (st_H.vL (hz.kept hS.1) hV 8 (by decide) (show i2 < 32 by omega)) ?_
    refine lv_lmul hx hb d_Or_foldPlace_50 ?_
    refine lv_lsub hx hb d_Or_foldPlace_51 ?_
    refine vx_nmL (fun z5 ez5 => ?_)
    refine lv_lstore (lv' := [(8, .long z5), (7, .int (nI (i2))), (6, .int (nI (v0 - 32))), (4, .long s3.2), (2, .long z1), (0, .ref (kq 6 99)), (1, .int (nI (v0)))]) hx hb d_Or_foldPlace_52 hl (by decide) rfl (fun ls hl => ?_)
    refine lv_lload hx hb d_Or_foldPlace_54 (lv_at hl 0 rfl) ?_
    refine lv_ldc2 (v := (128)) hx hb hown (hts (.constantLong R_Or 44 (128)) (by decide +kernel)) d_Or_foldPlace_56 ?_
    refine lv_ladd hx hb d_Or_foldPlace_59 ?_
    refine lv_bipush (v := nI 8) hx hb d_Or_foldPlace_60 (by decide +kernel) ?_
    refine lv_lshr hx hb d_Or_foldPlace_62 rfl ?_
    refine vx_nmL (fun z6 ez6 => ?_)
    refine lv_lstore (lv' := [(4, .long z6), (8, .long z5), (7, .int (nI (i2))), (6, .int (nI (v0 - 32))), (2, .long z1), (0, .ref (kq 6 99)), (1, .int (nI (v0)))]) hx hb d_Or_foldPlace_63 hl (by decide) rfl (fun ls hl => ?_)
    refine lv_aload_n hx hb d_Or_foldPlace_65 rfl (lv_at hl 5 rfl) ?_
    refine sx_get EE (hS.1.ob (kc_n6 hC) (kc_o6 hC)) rfl i_Or 0 (by decide) rfl fl_Or_11 rfl d_Or_foldPlace_66 ?_
    refine lv_iload hx hb d_Or_foldPlace_69 (lv_at hl 3 rfl) ?_
    refine lv_iload hx hb d_Or_foldPlace_71 (lv_at hl 2 rfl) ?_
    refine lv_iadd hx hb d_Or_foldPlace_73 ?_
    refine sx_ti (y := nI ((v0 - 32) + i2)) (nI_add _ _) ?_
    refine lv_lload hx hb d_Or_foldPlace_74 (lv_at hl 1 rfl) ?_
    refine lv_lload hx hb d_Or_foldPlace_76 (lv_at hl 0 rfl) ?_
    refine lv_bipush (v := nI 8) hx hb d_Or_foldPlace_78 (by decide +kernel) ?_
    refine lv_lshl hx hb d_Or_foldPlace_80 rfl ?_
    refine lv_lsub hx hb d_Or_foldPlace_81 ?_
    refine vx_last hx hb hG hS hV (kc_a6_0 hC) (kc_e6_0 hC) (by omega) (by decide) d_Or_foldPlace_82 (fun H locs X7 eX7 hS hV => ?_)
    refine lv_iinc (v := nI (i2 + 1)) (lv' := [(7, .int (nI (i2 + 1))), (4, .long z6), (8, .long z5), (6, .int (nI (v0 - 32))), (2, .long z1), (0, .ref (kq 6 99)), (1, .int (nI (v0)))]) hx hb d_Or_foldPlace_83 hl (k := 2) rfl (sx_inc _ _) (by decide) rfl (fun ls hl => ?_)
    refine lv_goto (tgt := 23) hx hb d_Or_foldPlace_86 (by decide) ?_
    exact ihi2 (X7, z6) _ _ _ (by subst ez5 ez6 eX7; exact rfl) ⟨hS, hV, lv_sub hl [0, 3, 1, 4, 5, 6] rfl⟩
  · intro H locs ls hP
    obtain ⟨hS, hV, hl⟩ := hP
    refine lv_iload hx hb d_Or_foldPlace_23 (lv_at hl 0 rfl) ?_
    refine lv_bipush (v := nI 20) hx hb d_Or_foldPlace_25 (by decide +kernel) ?_
    refine lv_icmp_ge (tgt := 89) hx hb d_Or_foldPlace_27 (by decide) (fun _ => ?_) (fun q => absurd (nI_le (by omega) (by omega)) q)
    refine lv_aload_n hx hb d_Or_foldPlace_89 rfl (lv_at hl 4 rfl) ?_
    refine sx_get EE (hS.1.ob (kc_n6 hC) (kc_o6 hC)) rfl i_Or 0 (by decide) rfl fl_Or_11 rfl d_Or_foldPlace_90 ?_
    refine lv_iload hx hb d_Or_foldPlace_93 (lv_at hl 1 rfl) ?_
    refine lv_bipush (v := nI 20) hx hb d_Or_foldPlace_95 (by decide +kernel) ?_
    refine lv_iadd hx hb d_Or_foldPlace_97 ?_
    refine sx_ti (y := nI ((v0 - 32) + 20)) (nI_add _ _) ?_
    refine lv_dup2_11 hx hb d_Or_foldPlace_98 rfl rfl ?_
    refine vx_lald hx hb hG hS hV (kc_a6_0 hC) (by omega) (by decide) d_Or_foldPlace_99 ?_
    refine lv_lload hx hb d_Or_foldPlace_100 (lv_at hl 2 rfl) ?_
    refine lv_ladd hx hb d_Or_foldPlace_102 ?_
    refine vx_last hx hb hG hS hV (kc_a6_0 hC) (kc_e6_0 hC) (by omega) (by decide) d_Or_foldPlace_103 (fun H locs X8 eX8 hS hV => ?_)
    refine lv_aload_n hx hb d_Or_foldPlace_104 rfl (lv_at hl 4 rfl) ?_
    refine sx_get EE (hS.1.ob (kc_n6 hC) (kc_o6 hC)) rfl i_Or 0 (by decide) rfl fl_Or_11 rfl d_Or_foldPlace_105 ?_
    refine lv_iload_n hx hb d_Or_foldPlace_108 rfl (lv_at hl 5 rfl) ?_
    refine lv_lconst (v := 0) hx hb d_Or_foldPlace_109 (by decide +kernel) ?_
    refine vx_last hx hb hG hS hV (kc_a6_0 hC) (kc_e6_0 hC) (by omega) (by decide) d_Or_foldPlace_110 (fun H locs X9 eX9 hS hV => ?_)
    exact hret _ _ _ _ _ (by subst ez1 eR4 eX8 eX9; exact rfl) hS hV d_Or_foldPlace_111
def LL_Or_subtractMultiple_9 (kq : Nat → Nat → Nat) (v0 : Int64) : Nat → (vM × Int64) → (vM × Int64) := fun i_0 s_1 => (let z_2 : Int64 := (((s_1.1.1 (kq 6 0) i_0) + s_1.2) - (v0 * (st_v 8 i_0))); let z_3 : Int64 := (z_2 >>> ((nI 8).toInt64 &&& 63)); let X_4 : vM := stL s_1.1 (kq 6 0) i_0 (z_2 &&& (255 : Int64)); (X_4, z_3))
def LF_Or_subtractMultiple (X : vM) (kq : Nat → Nat → Nat) (ts : Nat → Nat) (v0 : Int64) : vM := (let R3 : (vM × Int64) := lpU 1 (LL_Or_subtractMultiple_9 kq v0) 31 0 (X, (0 : Int64)); (let X7 : vM := stL R3.1 (kq 6 0) 31 ((R3.1.1 (kq 6 0) 31) + (R3.2 - (v0 * (st_v 8 31)))); X7))
abbrev rm_Or_subtractMultiple : Room := { frames := 0, cells := 0, slots := 0, locals := 0 }
set_option maxHeartbeats 4000000 in
set_option maxRecDepth 100000 in
theorem v_Or_subtractMultiple {l : Launch} {D : va_G} {g : ClassId → FieldType → Prop} {E : Nat → Prop} {H0 : Heap} {X : vM} {kq : Nat → Nat → Nat} {ts : Nat → Nat} {v0 : Int64} (hC : kc_ D g E H0 kq ts) (hV : mm g H0 = X) : Met l y_Or_subtractMultiple (.code y_Or_subtractMultiple b_Or_subtractMultiple 9 none :: G_) rm_Or_subtractMultiple (sx_Pc [.ref (kq 6 99), .long v0] H0 D g) (vx_Qv g E H0 (LF_Or_subtractMultiple X kq ts v0)) 0 0 E := by
  refine vx_mv (own := R_Or) (by decide) rfl rfl rfl (Nat.le_of_ble_eq_true rfl) ?_
  intro p e s m args below meth c Q ls EE hl hret
  obtain ⟨hx, hb, hml, hown, hts, hG, hK⟩ := id EE
  have hS : sx_S g E E H0 H0 [] := sx_S.rf
  have hz := hC.2.2.2.2
  have hl : lv_has ls 9 [(0, .ref (kq 6 99)), (1, .long v0)] := hl
  refine lv_bipush (v := nI 31) hx hb d_Or_subtractMultiple_0 (by decide +kernel) ?_
  refine lv_istore_n (lv' := [(3, .int (nI (31))), (0, .ref (kq 6 99)), (1, .long v0)]) hx hb d_Or_subtractMultiple_2 rfl hl (by decide) rfl (fun ls hl => ?_)
  refine lv_lconst (v := 0) hx hb d_Or_subtractMultiple_3 (by decide +kernel) ?_
  refine lv_lstore (lv' := [(4, .long (0 : Int64)), (3, .int (nI (31))), (0, .ref (kq 6 99)), (1, .long v0)]) hx hb d_Or_subtractMultiple_4 hl (by decide) rfl (fun ls hl => ?_)
  refine lv_iconst (v := nI 0) hx hb d_Or_subtractMultiple_6 (by decide +kernel) ?_
  refine lv_istore (lv' := [(6, .int (nI (0))), (4, .long (0 : Int64)), (3, .int (nI (31))), (0, .ref (kq 6 99)), (1, .long v0)]) hx hb d_Or_subtractMultiple_7 hl (by decide) rfl (fun ls hl => ?_)
  obtain ⟨R3, eR3⟩ : ∃ t : (vM × Int64), lpU 1 (LL_Or_subtractMultiple_9 kq v0) 31 0 (X, (0 : Int64)) = t := ⟨_, rfl⟩
  refine lpU_go (σ := (vM × Int64)) (P := fun i1 s2 H locs ls => sx_S g E E H0 H locs ∧ mm g H = s2.1 ∧ lv_has ls 9 [(6, .int (nI (i1))), (4, .long s2.2), (3, .int (nI (31))), (0, .ref (kq 6 99)), (1, .long v0)]) (Wd := fun H locs ls => W p l e rm_Or_subtractMultiple s m args below meth c H locs 0 0 Q (F0 m 9 ls [])) (N := 31) (d := 1) (by decide) ?_ ?_ 31 0 _ (by omega) eR3 _ _ _ ⟨hS, hV, lv_sub hl [0, 1, 2, 3, 4] rfl⟩
  · intro i1 s2 H locs ls hii1 hP ihi1
    obtain ⟨hS, hV, hl⟩ := hP
    refine lv_iload hx hb d_Or_subtractMultiple_9 (lv_at hl 0 rfl) ?_
    refine lv_iload_n hx hb d_Or_subtractMultiple_11 rfl (lv_at hl 2 rfl) ?_
    refine lv_icmp_ge (tgt := 62) hx hb d_Or_subtractMultiple_12 (by decide) (fun q => absurd q (nI_ge (by omega) (by omega))) (fun _ => ?_)
    refine lv_aload_n hx hb d_Or_subtractMultiple_15 rfl (lv_at hl 3 rfl) ?_
    refine sx_get EE (hS.1.ob (kc_n6 hC) (kc_o6 hC)) rfl i_Or 0 (by decide) rfl fl_Or_11 rfl d_Or_subtractMultiple_16 ?_
    refine lv_iload hx hb d_Or_subtractMultiple_19 (lv_at hl 0 rfl) ?_
    refine vx_lald hx hb hG hS hV (kc_a6_0 hC) (by omega) (by decide) d_Or_subtractMultiple_21 ?_
    refine lv_lload hx hb d_Or_subtractMultiple_22 (lv_at hl 1 rfl) ?_
    refine lv_ladd hx hb d_Or_subtractMultiple_24 ?_
    refine lv_lload_n hx hb d_Or_subtractMultiple_25 rfl (lv_at hl 4 rfl) ?_
    obtain ⟨z0_, ⟨cz_, z1_, z2_, z3_⟩, z4_⟩ := (hz.kept hS.1) 8 (by decide)
    refine sx_gets EE (hK.2.2.1 8 (by decide)) z1_ z2_ z3_ fl_Or_15 d_Or_subtractMultiple_26 ?_
    refine lv_iload hx hb d_Or_subtractMultiple_29 (lv_at hl 0 rfl) ?_
    refine vx_lald hx hb hG hS hV (st_a8 hz) (by omega) (by decide) d_Or_subtractMultiple_31 ?_
    refine sx_tl (y := st_v 8 i1) (st_H.vL (hz.kept hS.1) hV 8 (by decide) (show i1 < 32 by omega)) ?_
    refine lv_lmul hx hb d_Or_subtractMultiple_32 ?_
    refine lv_lsub hx hb d_Or_subtractMultiple_33 ?_
    refine vx_nmL (fun z4 ez4 => ?_)
    refine lv_lstore (lv' := [(7, .long z4), (6, .int (nI (i1))), (4, .long s2.2), (3, .int (nI (31))), (0, .ref (kq 6 99)), (1, .long v0)]) hx hb d_Or_subtractMultiple_34 hl (by decide) rfl (fun ls hl => ?_)
    refine lv_lload hx hb d_Or_subtractMultiple_36 (lv_at hl 0 rfl) ?_
    refine lv_bipush (v := nI 8) hx hb d_Or_subtractMultiple_38 (by decide +kernel) ?_
    refine lv_lshr hx hb d_Or_subtractMultiple_40 rfl ?_
    refine vx_nmL (fun z5 ez5 => ?_)
    refine lv_lstore (lv' := [(4, .long z5), (7, .long z4), (6, .int (nI (i1))), (3, .int (nI (31))), (0, .ref (kq 6 99)), (1, .long v0)]) hx hb d_Or_subtractMultiple_41 hl (by decide) rfl (fun ls hl => ?_)
    refine lv_aload_n hx hb d_Or_subtractMultiple_43 rfl (lv_at hl 4 rfl) ?_
    refine sx_get EE (hS.1.ob (kc_n6 hC) (kc_o6 hC)) rfl i_Or 0 (by decide) rfl fl_Or_11 rfl d_Or_subtractMultiple_44 ?_
    refine lv_iload hx hb d_Or_subtractMultiple_47 (lv_at hl 2 rfl) ?_
    refine lv_lload hx hb d_Or_subtractMultiple_49 (lv_at hl 1 rfl) ?_
    refine lv_ldc2 (v := (255)) hx hb hown (hts (.constantLong R_Or 46 (255)) (by decide +kernel)) d_Or_subtractMultiple_51 ?_
    refine lv_land hx hb d_Or_subtractMultiple_54 ?_
    refine vx_last hx hb hG hS hV (kc_a6_0 hC) (kc_e6_0 hC) (by omega) (by decide) d_Or_subtractMultiple_55 (fun H locs X6 eX6 hS hV => ?_)
    refine lv_iinc (v := nI (i1 + 1)) (lv' := [(6, .int (nI (i1 + 1))), (4, .long z5), (7, .long z4), (3, .int (nI (31))), (0, .ref (kq 6 99)), (1, .long v0)]) hx hb d_Or_subtractMultiple_56 hl (k := 2) rfl (sx_inc _ _) (by decide) rfl (fun ls hl => ?_)
    refine lv_goto (tgt := 9) hx hb d_Or_subtractMultiple_59 (by decide) ?_
    exact ihi1 (X6, z5) _ _ _ (by subst ez4 ez5 eX6; exact rfl) ⟨hS, hV, lv_sub hl [0, 1, 3, 4, 5] rfl⟩
  · intro H locs ls hP
    obtain ⟨hS, hV, hl⟩ := hP
    refine lv_iload hx hb d_Or_subtractMultiple_9 (lv_at hl 0 rfl) ?_
    refine lv_iload_n hx hb d_Or_subtractMultiple_11 rfl (lv_at hl 2 rfl) ?_
    refine lv_icmp_ge (tgt := 62) hx hb d_Or_subtractMultiple_12 (by decide) (fun _ => ?_) (fun q => absurd (nI_le (by omega) (by omega)) q)
    refine lv_aload_n hx hb d_Or_subtractMultiple_62 rfl (lv_at hl 3 rfl) ?_
    refine sx_get EE (hS.1.ob (kc_n6 hC) (kc_o6 hC)) rfl i_Or 0 (by decide) rfl fl_Or_11 rfl d_Or_subtractMultiple_63 ?_
    refine lv_iload_n hx hb d_Or_subtractMultiple_66 rfl (lv_at hl 2 rfl) ?_
    refine lv_dup2_11 hx hb d_Or_subtractMultiple_67 rfl rfl ?_
    refine vx_lald hx hb hG hS hV (kc_a6_0 hC) (by omega) (by decide) d_Or_subtractMultiple_68 ?_
    refine lv_lload hx hb d_Or_subtractMultiple_69 (lv_at hl 1 rfl) ?_
    refine lv_lload_n hx hb d_Or_subtractMultiple_71 rfl (lv_at hl 4 rfl) ?_
    obtain ⟨z0_, ⟨cz_, z1_, z2_, z3_⟩, z4_⟩ := (hz.kept hS.1) 8 (by decide)
    refine sx_gets EE (hK.2.2.1 8 (by decide)) z1_ z2_ z3_ fl_Or_15 d_Or_subtractMultiple_72 ?_
    refine lv_iload_n hx hb d_Or_subtractMultiple_75 rfl (lv_at hl 2 rfl) ?_
    refine vx_lald hx hb hG hS hV (st_a8 hz) (by omega) (by decide) d_Or_subtractMultiple_76 ?_
    refine sx_tl (y := st_v 8 31) (st_H.vL (hz.kept hS.1) hV 8 (by decide) (show 31 < 32 by omega)) ?_
    refine lv_lmul hx hb d_Or_subtractMultiple_77 ?_
    refine lv_lsub hx hb d_Or_subtractMultiple_78 ?_
    refine lv_ladd hx hb d_Or_subtractMultiple_79 ?_
    refine vx_last hx hb hG hS hV (kc_a6_0 hC) (kc_e6_0 hC) (by omega) (by decide) d_Or_subtractMultiple_80 (fun H locs X7 eX7 hS hV => ?_)
    exact hret _ _ _ _ _ (by subst eR3 eX7; exact rfl) hS hV d_Or_subtractMultiple_81
def LL_Or_reduceWide_3 (kq : Nat → Nat → Nat) (ts : Nat → Nat) : Nat → vM → vM := fun i_0 s_1 => (let X_2 : vM := (LF_Or_foldPlace s_1 kq ts (32 + i_0)); X_2)
def LL_Or_reduceWide_54 (a0 : Nat) (kq : Nat → Nat → Nat) : Nat → vM → vM := fun i_0 s_1 => (let X_2 : vM := stI s_1 a0 i_0 ((((s_1.1 (kq 6 0) i_0).toInt32).toInt8.toInt32).toInt8.toInt32); X_2)
def LF_Or_reduceWide (X : vM) (kq : Nat → Nat → Nat) (ts : Nat → Nat) (a0 : Nat) : vM := (let R3 : vM := lpD (LL_Or_reduceWide_3 kq ts) (63 + 1 - 32) X; (let X5 : vM := (LF_Or_subtractMultiple R3 kq ts ((R3.1 (kq 6 0) 31) >>> ((nI 4).toInt64 &&& 63))); let J8 : vM := if (0 : Int64) ≤ (X5.1 (kq 6 0) 31) then X5 else (let X7 : vM := (LF_Or_subtractMultiple X5 kq ts (-1 : Int64)); X7); (let R12 : vM := lpU 1 (LL_Or_reduceWide_54 a0 kq) 32 0 J8; R12)))
abbrev rm_Or_reduceWide : Room := { frames := 1, cells := 0, slots := 0, locals := 29 }
set_option maxHeartbeats 4000000 in
set_option maxRecDepth 100000 in
theorem v_Or_reduceWide {l : Launch} {D : va_G} {g : ClassId → FieldType → Prop} {E : Nat → Prop} {H0 : Heap} {X : vM} {kq : Nat → Nat → Nat} {ts : Nat → Nat} {a0 : Nat} (hC : kc_ D g E H0 kq ts) (f0 : sx_A g .byte H0 a0 32) (o0 : E a0) (hV : mm g H0 = X) : Met l y_Or_reduceWide (.code y_Or_reduceWide b_Or_reduceWide 3 none :: G_) rm_Or_reduceWide (sx_Pc [.ref (kq 6 99), .ref a0] H0 D g) (vx_Qv g E H0 (LF_Or_reduceWide X kq ts a0)) 0 0 E := by
  refine vx_mv (own := R_Or) (by decide) rfl rfl rfl (Nat.le_of_ble_eq_true rfl) ?_
  intro p e s m args below meth c Q ls EE hl hret
  obtain ⟨hx, hb, hml, hown, hts, hG, hK⟩ := id EE
  have hS : sx_S g E E H0 H0 [] := sx_S.rf
  have hz := hC.2.2.2.2
  have hl : lv_has ls 3 [(0, .ref (kq 6 99)), (1, .ref a0)] := hl
  refine lv_bipush (v := nI 63) hx hb d_Or_reduceWide_0 (by decide +kernel) ?_
  refine lv_istore_n (lv' := [(2, .int (nI (63))), (0, .ref (kq 6 99)), (1, .ref a0)]) hx hb d_Or_reduceWide_2 rfl hl (by decide) rfl (fun ls hl => ?_)
  obtain ⟨R3, eR3⟩ : ∃ t : vM, lpD (LL_Or_reduceWide_3 kq ts) (63 + 1 - 32) X = t := ⟨_, rfl⟩
  rw [show (nI (63)) = nI (32 + (63 + 1 - 32)) - 1 from by rw [show 32 + (63 + 1 - 32) = 63 + 1 from by omega]; exact (nI_pred _).symm] at hl
  refine lpD_go (σ := vM) (P := fun i1 s2 H locs ls => sx_S g E E H0 H locs ∧ mm g H = s2 ∧ lv_has ls 3 [(2, .int (nI (32 + i1) - 1)), (0, .ref (kq 6 99)), (1, .ref a0)]) (Wd := fun H locs ls => W p l e rm_Or_reduceWide s m args below meth c H locs 0 0 Q (F0 m 3 ls [])) (N := (63 + 1 - 32)) ?_ ?_ (63 + 1 - 32) _ (by omega) eR3 _ _ _ ⟨hS, hV, lv_sub hl [0, 1, 2] rfl⟩
  · intro i1 s2 H locs ls hii1 hP ihi1
    obtain ⟨hS, hV, hl⟩ := hP
    rw [show 32 + (i1 + 1) = (32 + i1) + 1 from rfl, nI_pred] at hl
    refine lv_iload_n hx hb d_Or_reduceWide_3 rfl (lv_at hl 0 rfl) ?_
    refine lv_bipush (v := nI 32) hx hb d_Or_reduceWide_4 (by decide +kernel) ?_
    refine lv_icmp_lt (tgt := 20) hx hb d_Or_reduceWide_6 (by decide) (fun q => absurd ((nI_ltI (by omega) (by omega)).mp q) (by omega)) (fun _ => ?_)
    refine lv_aload_n hx hb d_Or_reduceWide_9 rfl (lv_at hl 1 rfl) ?_
    refine lv_iload_n hx hb d_Or_reduceWide_10 rfl (lv_at hl 0 rfl) ?_
    refine vx_gv (sx_runV (As := [.int (nI (32 + i1))]) (rest := []) EE (hS.1.ob (kc_n6 hC) (kc_o6 hC)) rfl rfl (v_Or_foldPlace (X := s2) (hC.kept hS.1) (by omega) hV) w_Or_32 rfl ⟨rfl, rfl⟩ ⟨Nat.le_of_ble_eq_true rfl, Nat.le_of_ble_eq_true rfl⟩ ⟨Nat.zero_le _, Nat.zero_le _⟩ hl.1 rfl (Nat.le_of_ble_eq_true rfl) d_Or_reduceWide_11) hS (fun H locs X4 eX4 hS hV => ?_)
    refine lv_iinc (v := nI (32 + i1) - 1) (lv' := [(2, .int (nI (32 + i1) - 1)), (0, .ref (kq 6 99)), (1, .ref a0)]) hx hb d_Or_reduceWide_14 hl (k := 0) rfl (sx_dn _) (by decide) rfl (fun ls hl => ?_)
    refine lv_goto (tgt := 3) hx hb d_Or_reduceWide_17 (by decide) ?_
    exact ihi1 X4 _ _ _ (by subst eX4; exact rfl) ⟨hS, hV, lv_sub hl [0, 1, 2] rfl⟩
  · intro H locs ls hP
    obtain ⟨hS, hV, hl⟩ := hP
    refine lv_iload_n hx hb d_Or_reduceWide_3 rfl (lv_at hl 0 rfl) ?_
    refine lv_bipush (v := nI 32) hx hb d_Or_reduceWide_4 (by decide +kernel) ?_
    refine lv_icmp_lt (tgt := 20) hx hb d_Or_reduceWide_6 (by decide) (fun _ => ?_) (fun q => absurd (vx_lo (by omega) (by omega)) q)
    refine lv_aload_n hx hb d_Or_reduceWide_20 rfl (lv_at hl 1 rfl) ?_
    refine lv_aload_n hx hb d_Or_reduceWide_21 rfl (lv_at hl 1 rfl) ?_
    refine sx_get EE (hS.1.ob (kc_n6 hC) (kc_o6 hC)) rfl i_Or 0 (by decide) rfl fl_Or_11 rfl d_Or_reduceWide_22 ?_
    refine lv_bipush (v := nI 31) hx hb d_Or_reduceWide_25 (by decide +kernel) ?_
    refine vx_lald hx hb hG hS hV (kc_a6_0 hC) (by omega) (by decide) d_Or_reduceWide_27 ?_
    refine lv_iconst (v := nI 4) hx hb d_Or_reduceWide_28 (by decide +kernel) ?_
    refine lv_lshr hx hb d_Or_reduceWide_29 rfl ?_
    refine vx_gv (sx_runV (As := [.long ((R3.1 (kq 6 0) 31) >>> ((nI 4).toInt64 &&& 63))]) (rest := []) EE (hS.1.ob (kc_n6 hC) (kc_o6 hC)) rfl rfl (v_Or_subtractMultiple (X := R3) (hC.kept hS.1) hV) w_Or_36 rfl ⟨rfl, rfl⟩ ⟨Nat.le_of_ble_eq_true rfl, Nat.le_of_ble_eq_true rfl⟩ ⟨Nat.zero_le _, Nat.zero_le _⟩ hl.1 rfl (Nat.le_of_ble_eq_true rfl) d_Or_reduceWide_30) hS (fun H locs X5 eX5 hS hV => ?_)
    refine lv_aload_n hx hb d_Or_reduceWide_33 rfl (lv_at hl 1 rfl) ?_
    refine sx_get EE (hS.1.ob (kc_n6 hC) (kc_o6 hC)) rfl i_Or 0 (by decide) rfl fl_Or_11 rfl d_Or_reduceWide_34 ?_
    refine lv_bipush (v := nI 31) hx hb d_Or_reduceWide_37 (by decide +kernel) ?_
    refine vx_lald hx hb hG hS hV (kc_a6_0 hC) (by omega) (by decide) d_Or_reduceWide_39 ?_
    refine lv_lconst (v := 0) hx hb d_Or_reduceWide_40 (by decide +kernel) ?_
    refine W.lcmp hx hb d_Or_reduceWide_41 ?_
    have jn52_8 : ∀ (J8 : vM) (H : Heap) (locs : List Loc) (ls : Array Slot), (if (0 : Int64) ≤ (X5.1 (kq 6 0) 31) then X5 else (let X7 : vM := (LF_Or_subtractMultiple X5 kq ts (-1 : Int64)); X7)) = J8 → sx_S g E E H0 H locs → mm g H = J8 → lv_has ls 3 [(2, .int (nI (32 + 0) - 1)), (0, .ref (kq 6 99)), (1, .ref a0)] → W p l e rm_Or_reduceWide s m args below meth c H locs 0 0 Q (F0 m 52 ls []) := by
      intro J8 H locs ls eJ8 hS hV hl
      refine lv_iconst (v := nI 0) hx hb d_Or_reduceWide_52 (by decide +kernel) ?_
      refine lv_istore_n (lv' := [(2, .int (nI (0))), (0, .ref (kq 6 99)), (1, .ref a0)]) hx hb d_Or_reduceWide_53 rfl hl (by decide) rfl (fun ls hl => ?_)
      obtain ⟨R12, eR12⟩ : ∃ t : vM, lpU 1 (LL_Or_reduceWide_54 a0 kq) 32 0 J8 = t := ⟨_, rfl⟩
      refine lpU_go (σ := vM) (P := fun i10 s11 H locs ls => sx_S g E E H0 H locs ∧ mm g H = s11 ∧ lv_has ls 3 [(2, .int (nI (i10))), (0, .ref (kq 6 99)), (1, .ref a0)]) (Wd := fun H locs ls => W p l e rm_Or_reduceWide s m args below meth c H locs 0 0 Q (F0 m 54 ls [])) (N := 32) (d := 1) (by decide) ?_ ?_ 32 0 _ (by omega) eR12 _ _ _ ⟨hS, hV, lv_sub hl [0, 1, 2] rfl⟩
      · intro i10 s11 H locs ls hii10 hP ihi10
        obtain ⟨hS, hV, hl⟩ := hP
        refine lv_iload_n hx hb d_Or_reduceWide_54 rfl (lv_at hl 0 rfl) ?_
        refine lv_bipush (v := nI 32) hx hb d_Or_reduceWide_55 (by decide +kernel) ?_
        refine lv_icmp_ge (tgt := 77) hx hb d_Or_reduceWide_57 (by decide) (fun q => absurd q (nI_ge (by omega) (by omega))) (fun _ => ?_)
        refine lv_aload_n hx hb d_Or_reduceWide_60 rfl (lv_at hl 2 rfl) ?_
        refine lv_iload_n hx hb d_Or_reduceWide_61 rfl (lv_at hl 0 rfl) ?_
        refine lv_aload_n hx hb d_Or_reduceWide_62 rfl (lv_at hl 1 rfl) ?_
        refine sx_get EE (hS.1.ob (kc_n6 hC) (kc_o6 hC)) rfl i_Or 0 (by decide) rfl fl_Or_11 rfl d_Or_reduceWide_63 ?_
        refine lv_iload_n hx hb d_Or_reduceWide_66 rfl (lv_at hl 0 rfl) ?_
        refine vx_lald hx hb hG hS hV (kc_a6_0 hC) (by omega) (by decide) d_Or_reduceWide_67 ?_
        refine lv_l2i hx hb d_Or_reduceWide_68 rfl ?_
        refine lv_i2b hx hb d_Or_reduceWide_69 rfl ?_
        refine vx_bast hx hb hG hS hV f0 o0 (by omega) (by decide) d_Or_reduceWide_70 (fun H locs X13 eX13 hS hV => ?_)
        refine lv_iinc (v := nI (i10 + 1)) (lv' := [(2, .int (nI (i10 + 1))), (0, .ref (kq 6 99)), (1, .ref a0)]) hx hb d_Or_reduceWide_71 hl (k := 0) rfl (sx_inc _ _) (by decide) rfl (fun ls hl => ?_)
        refine lv_goto (tgt := 54) hx hb d_Or_reduceWide_74 (by decide) ?_
        exact ihi10 X13 _ _ _ (by subst eX13; exact rfl) ⟨hS, hV, lv_sub hl [0, 1, 2] rfl⟩
      · intro H locs ls hP
        obtain ⟨hS, hV, hl⟩ := hP
        refine lv_iload_n hx hb d_Or_reduceWide_54 rfl (lv_at hl 0 rfl) ?_
        refine lv_bipush (v := nI 32) hx hb d_Or_reduceWide_55 (by decide +kernel) ?_
        refine lv_icmp_ge (tgt := 77) hx hb d_Or_reduceWide_57 (by decide) (fun _ => ?_) (fun q => absurd (nI_le (by omega) (by omega)) q)
        exact hret _ _ _ _ _ (by subst eR3 eX5 eJ8 eR12; exact rfl) hS hV d_Or_reduceWide_77
    refine lv_if_ge (tgt := 52) hx hb d_Or_reduceWide_42 (by decide) (fun q42_5 => ?_) (fun q42_5 => ?_)
    · skip
      have q42_5 := (lg_cmp_ge _ _).mp q42_5
      exact jn52_8 X5 _ _ _ (vx_p q42_5 rfl) hS hV (lv_sub hl [0, 1, 2] rfl)
    · skip
      have q42_5 : ¬ ((0 : Int64) ≤ (X5.1 (kq 6 0) 31)) := fun z => q42_5 ((lg_cmp_ge _ _).mpr z)
      refine lv_aload_n hx hb d_Or_reduceWide_45 rfl (lv_at hl 1 rfl) ?_
      refine lv_ldc2 (v := (-1)) hx hb hown (hts (.constantLong R_Or 40 (-1)) (by decide +kernel)) d_Or_reduceWide_46 ?_
      refine vx_gv (sx_runV (As := [.long (-1 : Int64)]) (rest := []) EE (hS.1.ob (kc_n6 hC) (kc_o6 hC)) rfl rfl (v_Or_subtractMultiple (X := X5) (hC.kept hS.1) hV) w_Or_36 rfl ⟨rfl, rfl⟩ ⟨Nat.le_of_ble_eq_true rfl, Nat.le_of_ble_eq_true rfl⟩ ⟨Nat.zero_le _, Nat.zero_le _⟩ hl.1 rfl (Nat.le_of_ble_eq_true rfl) d_Or_reduceWide_49) hS (fun H locs X14 eX14 hS hV => ?_)
      exact jn52_8 X14 _ _ _ (by subst eX14; exact (vx_n q42_5 rfl)) hS hV (lv_sub hl [0, 1, 2] rfl)
def LL_Or_reduce_2 (kq : Nat → Nat → Nat) (a1 : Nat) : Nat → vM → vM := fun i_0 s_1 => (let X_2 : vM := stL s_1 (kq 6 0) i_0 (((s_1.2 a1 i_0) &&& (nI 255)).toInt64); X_2)
def LF_Or_reduce (X : vM) (kq : Nat → Nat → Nat) (ts : Nat → Nat) (a0 : Nat) (a1 : Nat) : vM := (let R3 : vM := lpU 1 (LL_Or_reduce_2 kq a1) 64 0 X; (let X5 : vM := (LF_Or_reduceWide R3 kq ts a0); X5))
abbrev rm_Or_reduce : Room := { frames := 2, cells := 0, slots := 0, locals := 51 }
set_option maxHeartbeats 4000000 in
set_option maxRecDepth 100000 in
theorem v_Or_reduce {l : Launch} {D : va_G} {g : ClassId → FieldType → Prop} {E : Nat → Prop} {H0 : Heap} {X : vM} {kq : Nat → Nat → Nat} {ts : Nat → Nat} {a0 : Nat} {a1 : Nat} (hC : kc_ D g E H0 kq ts) (f0 : sx_A g .byte H0 a0 32) (o0 : E a0) (f1 : sx_A g .byte H0 a1 64) (hV : mm g H0 = X) : Met l y_Or_reduce (.code y_Or_reduce b_Or_reduce 4 none :: G_) rm_Or_reduce (sx_Pc [.ref (kq 6 99), .ref a0, .ref a1] H0 D g) (vx_Qv g E H0 (LF_Or_reduce X kq ts a0 a1)) 0 0 E := by
  refine vx_mv (own := R_Or) (by decide) rfl rfl rfl (Nat.le_of_ble_eq_true rfl) ?_
  intro p e s m args below meth c Q ls EE hl hret
  obtain ⟨hx, hb, hml, hown, hts, hG, hK⟩ := id EE
  have hS : sx_S g E E H0 H0 [] := sx_S.rf
  have hz := hC.2.2.2.2
  have hl : lv_has ls 4 [(0, .ref (kq 6 99)), (1, .ref a0), (2, .ref a1)] := hl
  refine lv_iconst (v := nI 0) hx hb d_Or_reduce_0 (by decide +kernel) ?_
  refine lv_istore_n (lv' := [(3, .int (nI (0))), (0, .ref (kq 6 99)), (1, .ref a0), (2, .ref a1)]) hx hb d_Or_reduce_1 rfl hl (by decide) rfl (fun ls hl => ?_)
  obtain ⟨R3, eR3⟩ : ∃ t : vM, lpU 1 (LL_Or_reduce_2 kq a1) 64 0 X = t := ⟨_, rfl⟩
  refine lpU_go (σ := vM) (P := fun i1 s2 H locs ls => sx_S g E E H0 H locs ∧ mm g H = s2 ∧ lv_has ls 4 [(3, .int (nI (i1))), (0, .ref (kq 6 99)), (1, .ref a0), (2, .ref a1)]) (Wd := fun H locs ls => W p l e rm_Or_reduce s m args below meth c H locs 0 0 Q (F0 m 2 ls [])) (N := 64) (d := 1) (by decide) ?_ ?_ 64 0 _ (by omega) eR3 _ _ _ ⟨hS, hV, lv_sub hl [0, 1, 2, 3] rfl⟩
  · intro i1 s2 H locs ls hii1 hP ihi1
    obtain ⟨hS, hV, hl⟩ := hP
    refine lv_iload_n hx hb d_Or_reduce_2 rfl (lv_at hl 0 rfl) ?_
    refine lv_bipush (v := nI 64) hx hb d_Or_reduce_3 (by decide +kernel) ?_
    refine lv_icmp_ge (tgt := 28) hx hb d_Or_reduce_5 (by decide) (fun q => absurd q (nI_ge (by omega) (by omega))) (fun _ => ?_)
    refine lv_aload_n hx hb d_Or_reduce_8 rfl (lv_at hl 1 rfl) ?_
    refine sx_get EE (hS.1.ob (kc_n6 hC) (kc_o6 hC)) rfl i_Or 0 (by decide) rfl fl_Or_11 rfl d_Or_reduce_9 ?_
    refine lv_iload_n hx hb d_Or_reduce_12 rfl (lv_at hl 0 rfl) ?_
    refine lv_aload_n hx hb d_Or_reduce_13 rfl (lv_at hl 3 rfl) ?_
    refine lv_iload_n hx hb d_Or_reduce_14 rfl (lv_at hl 0 rfl) ?_
    refine vx_bald hx hb hG hS hV f1 (by omega) (by decide) d_Or_reduce_15 ?_
    refine lv_sipush (v := nI 255) hx hb d_Or_reduce_16 (by decide +kernel) ?_
    refine lv_iand hx hb d_Or_reduce_19 ?_
    refine lv_i2l hx hb d_Or_reduce_20 rfl ?_
    refine vx_last hx hb hG hS hV (kc_a6_0 hC) (kc_e6_0 hC) (by omega) (by decide) d_Or_reduce_21 (fun H locs X4 eX4 hS hV => ?_)
    refine lv_iinc (v := nI (i1 + 1)) (lv' := [(3, .int (nI (i1 + 1))), (0, .ref (kq 6 99)), (1, .ref a0), (2, .ref a1)]) hx hb d_Or_reduce_22 hl (k := 0) rfl (sx_inc _ _) (by decide) rfl (fun ls hl => ?_)
    refine lv_goto (tgt := 2) hx hb d_Or_reduce_25 (by decide) ?_
    exact ihi1 X4 _ _ _ (by subst eX4; exact rfl) ⟨hS, hV, lv_sub hl [0, 1, 2, 3] rfl⟩
  · intro H locs ls hP
    obtain ⟨hS, hV, hl⟩ := hP
    refine lv_iload_n hx hb d_Or_reduce_2 rfl (lv_at hl 0 rfl) ?_
    refine lv_bipush (v := nI 64) hx hb d_Or_reduce_3 (by decide +kernel) ?_
    refine lv_icmp_ge (tgt := 28) hx hb d_Or_reduce_5 (by decide) (fun _ => ?_) (fun q => absurd (nI_le (by omega) (by omega)) q)
    refine lv_aload_n hx hb d_Or_reduce_28 rfl (lv_at hl 1 rfl) ?_
    refine lv_aload_n hx hb d_Or_reduce_29 rfl (lv_at hl 2 rfl) ?_
    refine vx_gv (sx_runV (As := [.ref a0]) (rest := []) EE (hS.1.ob (kc_n6 hC) (kc_o6 hC)) rfl rfl (v_Or_reduceWide (X := R3) (hC.kept hS.1) (hS.a f0) o0 hV) w_Or_18 rfl ⟨rfl, rfl⟩ ⟨Nat.le_of_ble_eq_true rfl, Nat.le_of_ble_eq_true rfl⟩ ⟨Nat.zero_le _, Nat.zero_le _⟩ hl.1 rfl (Nat.le_of_ble_eq_true rfl) d_Or_reduce_30) hS (fun H locs X5 eX5 hS hV => ?_)
    exact hret _ _ _ _ _ (by subst eR3 eX5; exact rfl) hS hV d_Or_reduce_33
def LL_Or_reduceForAnyPoint_25 (a0 : Nat) (z_0 : Int32) : Nat → (vM × Int64) → (vM × Int64) := fun i_1 s_2 => (let z_3 : Int64 := (s_2.2 + ((((s_2.1.2 a0 i_1) &&& (nI 255)).toInt64) + (z_0.toInt64 * (st_v 8 i_1)))); let X_4 : vM := stI s_2.1 a0 i_1 (z_3.toInt32.toInt8.toInt32.toInt8.toInt32); let z_5 : Int64 := (z_3 >>> ((nI 8).toInt64 &&& 63)); (X_4, z_5))
def LF_Or_reduceForAnyPoint (X : vM) (kq : Nat → Nat → Nat) (ts : Nat → Nat) (a0 : Nat) (a1 : Nat) : vM := (let X1 : vM := (LF_Or_reduce X kq ts a0 a1); let z2 : Int32 := (((nI 5) * ((X1.2 a1 0) - (X1.2 a0 0))) &&& (nI 7)); let R5 : (vM × Int64) := lpU 1 (LL_Or_reduceForAnyPoint_25 a0 z2) 32 0 (X1, (0 : Int64)); R5.1)
abbrev rm_Or_reduceForAnyPoint : Room := { frames := 3, cells := 0, slots := 0, locals := 74 }
set_option maxHeartbeats 4000000 in
set_option maxRecDepth 100000 in
theorem v_Or_reduceForAnyPoint {l : Launch} {D : va_G} {g : ClassId → FieldType → Prop} {E : Nat → Prop} {H0 : Heap} {X : vM} {kq : Nat → Nat → Nat} {ts : Nat → Nat} {a0 : Nat} {a1 : Nat} (hC : kc_ D g E H0 kq ts) (f0 : sx_A g .byte H0 a0 32) (o0 : E a0) (f1 : sx_A g .byte H0 a1 64) (hV : mm g H0 = X) : Met l y_Or_reduceForAnyPoint (.code y_Or_reduceForAnyPoint b_Or_reduceForAnyPoint 7 none :: G_) rm_Or_reduceForAnyPoint (sx_Pc [.ref (kq 6 99), .ref a0, .ref a1] H0 D g) (vx_Qv g E H0 (LF_Or_reduceForAnyPoint X kq ts a0 a1)) 0 0 E := by
  refine vx_mv (own := R_Or) (by decide) rfl rfl rfl (Nat.le_of_ble_eq_true rfl) ?_
  intro p e s m args below meth c Q ls EE hl hret
  obtain ⟨hx, hb, hml, hown, hts, hG, hK⟩ := id EE
  have hS : sx_S g E E H0 H0 [] := sx_S.rf
  have hz := hC.2.2.2.2
  have hl : lv_has ls 7 [(0, .ref (kq 6 99)), (1, .ref a0), (2, .ref a1)] := hl
  refine lv_aload_n hx hb d_Or_reduceForAnyPoint_0 rfl (lv_at hl 0 rfl) ?_
  refine lv_aload_n hx hb d_Or_reduceForAnyPoint_1 rfl (lv_at hl 1 rfl) ?_
  refine lv_aload_n hx hb d_Or_reduceForAnyPoint_2 rfl (lv_at hl 2 rfl) ?_
  refine vx_gv (sx_runV (As := [.ref a0, .ref a1]) (rest := []) EE (hS.1.ob (kc_n6 hC) (kc_o6 hC)) rfl rfl (v_Or_reduce (X := X) (hC.kept hS.1) (hS.a f0) o0 (hS.a f1) hV) w_Or_22 rfl ⟨rfl, rfl⟩ ⟨Nat.le_of_ble_eq_true rfl, Nat.le_of_ble_eq_true rfl⟩ ⟨Nat.zero_le _, Nat.zero_le _⟩ hl.1 rfl (Nat.le_of_ble_eq_true rfl) d_Or_reduceForAnyPoint_3) hS (fun H locs X1 eX1 hS hV => ?_)
  refine lv_iconst (v := nI 5) hx hb d_Or_reduceForAnyPoint_6 (by decide +kernel) ?_
  refine lv_aload_n hx hb d_Or_reduceForAnyPoint_7 rfl (lv_at hl 2 rfl) ?_
  refine lv_iconst (v := nI 0) hx hb d_Or_reduceForAnyPoint_8 (by decide +kernel) ?_
  refine vx_bald hx hb hG hS hV f1 (by omega) (by decide) d_Or_reduceForAnyPoint_9 ?_
  refine lv_aload_n hx hb d_Or_reduceForAnyPoint_10 rfl (lv_at hl 1 rfl) ?_
  refine lv_iconst (v := nI 0) hx hb d_Or_reduceForAnyPoint_11 (by decide +kernel) ?_
  refine vx_bald hx hb hG hS hV f0 (by omega) (by decide) d_Or_reduceForAnyPoint_12 ?_
  refine lv_isub hx hb d_Or_reduceForAnyPoint_13 ?_
  refine lv_imul hx hb d_Or_reduceForAnyPoint_14 ?_
  refine lv_bipush (v := nI 7) hx hb d_Or_reduceForAnyPoint_15 (by decide +kernel) ?_
  refine lv_iand hx hb d_Or_reduceForAnyPoint_17 ?_
  refine vx_nmI (fun z2 ez2 => ?_)
  refine lv_istore_n (lv' := [(3, .int z2), (0, .ref (kq 6 99)), (1, .ref a0), (2, .ref a1)]) hx hb d_Or_reduceForAnyPoint_18 rfl hl (by decide) rfl (fun ls hl => ?_)
  refine lv_lconst (v := 0) hx hb d_Or_reduceForAnyPoint_19 (by decide +kernel) ?_
  refine lv_lstore (lv' := [(4, .long (0 : Int64)), (3, .int z2), (0, .ref (kq 6 99)), (1, .ref a0), (2, .ref a1)]) hx hb d_Or_reduceForAnyPoint_20 hl (by decide) rfl (fun ls hl => ?_)
  refine lv_iconst (v := nI 0) hx hb d_Or_reduceForAnyPoint_22 (by decide +kernel) ?_
  refine lv_istore (lv' := [(6, .int (nI (0))), (4, .long (0 : Int64)), (3, .int z2), (0, .ref (kq 6 99)), (1, .ref a0), (2, .ref a1)]) hx hb d_Or_reduceForAnyPoint_23 hl (by decide) rfl (fun ls hl => ?_)
  obtain ⟨R5, eR5⟩ : ∃ t : (vM × Int64), lpU 1 (LL_Or_reduceForAnyPoint_25 a0 z2) 32 0 (X1, (0 : Int64)) = t := ⟨_, rfl⟩
  refine lpU_go (σ := (vM × Int64)) (P := fun i3 s4 H locs ls => sx_S g E E H0 H locs ∧ mm g H = s4.1 ∧ lv_has ls 7 [(6, .int (nI (i3))), (4, .long s4.2), (3, .int z2), (1, .ref a0)]) (Wd := fun H locs ls => W p l e rm_Or_reduceForAnyPoint s m args below meth c H locs 0 0 Q (F0 m 25 ls [])) (N := 32) (d := 1) (by decide) ?_ ?_ 32 0 _ (by omega) eR5 _ _ _ ⟨hS, hV, lv_sub hl [0, 1, 2, 4] rfl⟩
  · intro i3 s4 H locs ls hii3 hP ihi3
    obtain ⟨hS, hV, hl⟩ := hP
    refine lv_iload hx hb d_Or_reduceForAnyPoint_25 (lv_at hl 0 rfl) ?_
    refine lv_bipush (v := nI 32) hx hb d_Or_reduceForAnyPoint_27 (by decide +kernel) ?_
    refine lv_icmp_ge (tgt := 77) hx hb d_Or_reduceForAnyPoint_29 (by decide) (fun q => absurd q (nI_ge (by omega) (by omega))) (fun _ => ?_)
    refine lv_lload hx hb d_Or_reduceForAnyPoint_32 (lv_at hl 1 rfl) ?_
    refine lv_aload_n hx hb d_Or_reduceForAnyPoint_34 rfl (lv_at hl 3 rfl) ?_
    refine lv_iload hx hb d_Or_reduceForAnyPoint_35 (lv_at hl 0 rfl) ?_
    refine vx_bald hx hb hG hS hV f0 (by omega) (by decide) d_Or_reduceForAnyPoint_37 ?_
    refine lv_sipush (v := nI 255) hx hb d_Or_reduceForAnyPoint_38 (by decide +kernel) ?_
    refine lv_iand hx hb d_Or_reduceForAnyPoint_41 ?_
    refine lv_i2l hx hb d_Or_reduceForAnyPoint_42 rfl ?_
    refine lv_iload_n hx hb d_Or_reduceForAnyPoint_43 rfl (lv_at hl 2 rfl) ?_
    refine lv_i2l hx hb d_Or_reduceForAnyPoint_44 rfl ?_
    obtain ⟨z0_, ⟨cz_, z1_, z2_, z3_⟩, z4_⟩ := (hz.kept hS.1) 8 (by decide)
    refine sx_gets EE (hK.2.2.1 8 (by decide)) z1_ z2_ z3_ fl_Or_15 d_Or_reduceForAnyPoint_45 ?_
    refine lv_iload hx hb d_Or_reduceForAnyPoint_48 (lv_at hl 0 rfl) ?_
    refine vx_lald hx hb hG hS hV (st_a8 hz) (by omega) (by decide) d_Or_reduceForAnyPoint_50 ?_
    refine sx_tl (y := st_v 8 i3) (st_H.vL (hz.kept hS.1) hV 8 (by decide) (show i3 < 32 by omega)) ?_
    refine lv_lmul hx hb d_Or_reduceForAnyPoint_51 ?_
    refine lv_ladd hx hb d_Or_reduceForAnyPoint_52 ?_
    refine lv_ladd hx hb d_Or_reduceForAnyPoint_53 ?_
    refine vx_nmL (fun z6 ez6 => ?_)
    refine lv_lstore (lv' := [(4, .long z6), (6, .int (nI (i3))), (3, .int z2), (1, .ref a0)]) hx hb d_Or_reduceForAnyPoint_54 hl (by decide) rfl (fun ls hl => ?_)
    refine lv_aload_n hx hb d_Or_reduceForAnyPoint_56 rfl (lv_at hl 3 rfl) ?_
    refine lv_iload hx hb d_Or_reduceForAnyPoint_57 (lv_at hl 1 rfl) ?_
    refine lv_lload hx hb d_Or_reduceForAnyPoint_59 (lv_at hl 0 rfl) ?_
    refine lv_l2i hx hb d_Or_reduceForAnyPoint_61 rfl ?_
    refine lv_i2b hx hb d_Or_reduceForAnyPoint_62 rfl ?_
    refine vx_bast hx hb hG hS hV f0 o0 (by omega) (by decide) d_Or_reduceForAnyPoint_63 (fun H locs X7 eX7 hS hV => ?_)
    refine lv_lload hx hb d_Or_reduceForAnyPoint_64 (lv_at hl 0 rfl) ?_
    refine lv_bipush (v := nI 8) hx hb d_Or_reduceForAnyPoint_66 (by decide +kernel) ?_
    refine lv_lshr hx hb d_Or_reduceForAnyPoint_68 rfl ?_
    refine vx_nmL (fun z8 ez8 => ?_)
    refine lv_lstore (lv' := [(4, .long z8), (6, .int (nI (i3))), (3, .int z2), (1, .ref a0)]) hx hb d_Or_reduceForAnyPoint_69 hl (by decide) rfl (fun ls hl => ?_)
    refine lv_iinc (v := nI (i3 + 1)) (lv' := [(6, .int (nI (i3 + 1))), (4, .long z8), (3, .int z2), (1, .ref a0)]) hx hb d_Or_reduceForAnyPoint_71 hl (k := 1) rfl (sx_inc _ _) (by decide) rfl (fun ls hl => ?_)
    refine lv_goto (tgt := 25) hx hb d_Or_reduceForAnyPoint_74 (by decide) ?_
    exact ihi3 (X7, z8) _ _ _ (by subst ez6 eX7 ez8; exact rfl) ⟨hS, hV, lv_sub hl [0, 1, 2, 3] rfl⟩
  · intro H locs ls hP
    obtain ⟨hS, hV, hl⟩ := hP
    refine lv_iload hx hb d_Or_reduceForAnyPoint_25 (lv_at hl 0 rfl) ?_
    refine lv_bipush (v := nI 32) hx hb d_Or_reduceForAnyPoint_27 (by decide +kernel) ?_
    refine lv_icmp_ge (tgt := 77) hx hb d_Or_reduceForAnyPoint_29 (by decide) (fun _ => ?_) (fun q => absurd (nI_le (by omega) (by omega)) q)
    exact hret _ _ _ _ _ (by subst eX1 ez2 eR5; exact rfl) hS hV d_Or_reduceForAnyPoint_77
def LL_Or_multiplyAndAdd_41 (kq : Nat → Nat → Nat) (i_0 : Nat) (a1 : Nat) (a2 : Nat) : Nat → vM → vM := fun i_1 s_2 => (let X_3 : vM := stL s_2 (kq 6 0) (i_0 + i_1) ((s_2.1 (kq 6 0) (i_0 + i_1)) + ((((s_2.2 a1 i_0) &&& (nI 255)) * ((s_2.2 a2 i_1) &&& (nI 255))).toInt64)); X_3)
def LL_Or_multiplyAndAdd_11 (kq : Nat → Nat → Nat) (a3 : Nat) (a1 : Nat) (a2 : Nat) : Nat → vM → vM := fun i_0 s_1 => (let X_2 : vM := stL s_1 (kq 6 0) i_0 ((s_1.1 (kq 6 0) i_0) + (((s_1.2 a3 i_0) &&& (nI 255)).toInt64)); let R_3 : vM := lpU 1 (LL_Or_multiplyAndAdd_41 kq i_0 a1 a2) 32 0 X_2; R_3)
def LF_Or_multiplyAndAdd (X : vM) (kq : Nat → Nat → Nat) (ts : Nat → Nat) (a0 : Nat) (a1 : Nat) (a2 : Nat) (a3 : Nat) : vM := (let X1 : vM := (LF_JA_fill X (kq 6 0) 64 (0 : Int64)); let R4 : vM := lpU 1 (LL_Or_multiplyAndAdd_11 kq a3 a1 a2) 32 0 X1; (let X10 : vM := (LF_Or_reduceWide R4 kq ts a0); X10))
abbrev rm_Or_multiplyAndAdd : Room := { frames := 2, cells := 0, slots := 0, locals := 51 }
set_option maxHeartbeats 4000000 in
set_option maxRecDepth 100000 in
theorem v_Or_multiplyAndAdd {l : Launch} {D : va_G} {g : ClassId → FieldType → Prop} {E : Nat → Prop} {H0 : Heap} {X : vM} {kq : Nat → Nat → Nat} {ts : Nat → Nat} {a0 : Nat} {a1 : Nat} {a2 : Nat} {a3 : Nat} (hC : kc_ D g E H0 kq ts) (f0 : sx_A g .byte H0 a0 32) (o0 : E a0) (f1 : sx_A g .byte H0 a1 32) (f2 : sx_A g .byte H0 a2 32) (f3 : sx_A g .byte H0 a3 32) (hV : mm g H0 = X) : Met l y_Or_multiplyAndAdd (.code y_Or_multiplyAndAdd b_Or_multiplyAndAdd 7 none :: G_) rm_Or_multiplyAndAdd (sx_Pc [.ref (kq 6 99), .ref a0, .ref a1, .ref a2, .ref a3] H0 D g) (vx_Qv g E H0 (LF_Or_multiplyAndAdd X kq ts a0 a1 a2 a3)) 0 0 E := by
  refine vx_mv (own := R_Or) (by decide) rfl rfl rfl (Nat.le_of_ble_eq_true rfl) ?_
  intro p e s m args below meth c Q ls EE hl hret
  obtain ⟨hx, hb, hml, hown, hts, hG, hK⟩ := id EE
  have hS : sx_S g E E H0 H0 [] := sx_S.rf
  have hz := hC.2.2.2.2
  have hl : lv_has ls 7 [(0, .ref (kq 6 99)), (1, .ref a0), (2, .ref a1), (3, .ref a2), (4, .ref a3)] := hl
  refine lv_aload_n hx hb d_Or_multiplyAndAdd_0 rfl (lv_at hl 0 rfl) ?_
  refine sx_get EE (hS.1.ob (kc_n6 hC) (kc_o6 hC)) rfl i_Or 0 (by decide) rfl fl_Or_11 rfl d_Or_multiplyAndAdd_1 ?_
  refine lv_lconst (v := 0) hx hb d_Or_multiplyAndAdd_4 (by decide +kernel) ?_
  refine vx_gv (sx_runS (As := [.ref (kq 6 0), .long (0 : Int64)]) (rest := []) EE (v_JA_fill (X := X) (hS.a (kc_a6_0 hC)) (hS.1.2.2.2 _ _ (kc_l6_0 hC)) (kc_e6_0 hC) (by omega) hV) w_Or_26 rfl ⟨rfl, rfl⟩ ⟨Nat.le_of_ble_eq_true rfl, Nat.le_of_ble_eq_true rfl⟩ ⟨Nat.zero_le _, Nat.zero_le _⟩ hl.1 rfl (Nat.le_of_ble_eq_true rfl) d_Or_multiplyAndAdd_5) hS (fun H locs X1 eX1 hS hV => ?_)
  refine lv_iconst (v := nI 0) hx hb d_Or_multiplyAndAdd_8 (by decide +kernel) ?_
  refine lv_istore (lv' := [(5, .int (nI (0))), (0, .ref (kq 6 99)), (1, .ref a0), (2, .ref a1), (3, .ref a2), (4, .ref a3)]) hx hb d_Or_multiplyAndAdd_9 hl (by decide) rfl (fun ls hl => ?_)
  obtain ⟨R4, eR4⟩ : ∃ t : vM, lpU 1 (LL_Or_multiplyAndAdd_11 kq a3 a1 a2) 32 0 X1 = t := ⟨_, rfl⟩
  refine lpU_go (σ := vM) (P := fun i2 s3 H locs ls => sx_S g E E H0 H locs ∧ mm g H = s3 ∧ lv_has ls 7 [(5, .int (nI (i2))), (0, .ref (kq 6 99)), (1, .ref a0), (2, .ref a1), (3, .ref a2), (4, .ref a3)]) (Wd := fun H locs ls => W p l e rm_Or_multiplyAndAdd s m args below meth c H locs 0 0 Q (F0 m 11 ls [])) (N := 32) (d := 1) (by decide) ?_ ?_ 32 0 _ (by omega) eR4 _ _ _ ⟨hS, hV, lv_sub hl [0, 1, 2, 3, 4, 5] rfl⟩
  · intro i2 s3 H locs ls hii2 hP ihi2
    obtain ⟨hS, hV, hl⟩ := hP
    refine lv_iload hx hb d_Or_multiplyAndAdd_11 (lv_at hl 0 rfl) ?_
    refine lv_bipush (v := nI 32) hx hb d_Or_multiplyAndAdd_13 (by decide +kernel) ?_
    refine lv_icmp_ge (tgt := 91) hx hb d_Or_multiplyAndAdd_15 (by decide) (fun q => absurd q (nI_ge (by omega) (by omega))) (fun _ => ?_)
    refine lv_aload_n hx hb d_Or_multiplyAndAdd_18 rfl (lv_at hl 1 rfl) ?_
    refine sx_get EE (hS.1.ob (kc_n6 hC) (kc_o6 hC)) rfl i_Or 0 (by decide) rfl fl_Or_11 rfl d_Or_multiplyAndAdd_19 ?_
    refine lv_iload hx hb d_Or_multiplyAndAdd_22 (lv_at hl 0 rfl) ?_
    refine lv_dup2_11 hx hb d_Or_multiplyAndAdd_24 rfl rfl ?_
    refine vx_lald hx hb hG hS hV (kc_a6_0 hC) (by omega) (by decide) d_Or_multiplyAndAdd_25 ?_
    refine lv_aload hx hb d_Or_multiplyAndAdd_26 (lv_at hl 5 rfl) ?_
    refine lv_iload hx hb d_Or_multiplyAndAdd_28 (lv_at hl 0 rfl) ?_
    refine vx_bald hx hb hG hS hV f3 (by omega) (by decide) d_Or_multiplyAndAdd_30 ?_
    refine lv_sipush (v := nI 255) hx hb d_Or_multiplyAndAdd_31 (by decide +kernel) ?_
    refine lv_iand hx hb d_Or_multiplyAndAdd_34 ?_
    refine lv_i2l hx hb d_Or_multiplyAndAdd_35 rfl ?_
    refine lv_ladd hx hb d_Or_multiplyAndAdd_36 ?_
    refine vx_last hx hb hG hS hV (kc_a6_0 hC) (kc_e6_0 hC) (by omega) (by decide) d_Or_multiplyAndAdd_37 (fun H locs X5 eX5 hS hV => ?_)
    refine lv_iconst (v := nI 0) hx hb d_Or_multiplyAndAdd_38 (by decide +kernel) ?_
    refine lv_istore (lv' := [(6, .int (nI (0))), (5, .int (nI (i2))), (0, .ref (kq 6 99)), (1, .ref a0), (2, .ref a1), (3, .ref a2), (4, .ref a3)]) hx hb d_Or_multiplyAndAdd_39 hl (by decide) rfl (fun ls hl => ?_)
    obtain ⟨R8, eR8⟩ : ∃ t : vM, lpU 1 (LL_Or_multiplyAndAdd_41 kq i2 a1 a2) 32 0 X5 = t := ⟨_, rfl⟩
    refine lpU_go (σ := vM) (P := fun i6 s7 H locs ls => sx_S g E E H0 H locs ∧ mm g H = s7 ∧ lv_has ls 7 [(6, .int (nI (i6))), (5, .int (nI (i2))), (0, .ref (kq 6 99)), (1, .ref a0), (2, .ref a1), (3, .ref a2), (4, .ref a3)]) (Wd := fun H locs ls => W p l e rm_Or_multiplyAndAdd s m args below meth c H locs 0 0 Q (F0 m 41 ls [])) (N := 32) (d := 1) (by decide) ?_ ?_ 32 0 _ (by omega) eR8 _ _ _ ⟨hS, hV, lv_sub hl [0, 1, 2, 3, 4, 5, 6] rfl⟩
    · intro i6 s7 H locs ls hii6 hP ihi6
      obtain ⟨hS, hV, hl⟩ := hP
      refine lv_iload hx hb d_Or_multiplyAndAdd_41 (lv_at hl 0 rfl) ?_
      refine lv_bipush (v := nI 32) hx hb d_Or_multiplyAndAdd_43 (by decide +kernel) ?_
      refine lv_icmp_ge (tgt := 85) hx hb d_Or_multiplyAndAdd_45 (by decide) (fun q => absurd q (nI_ge (by omega) (by omega))) (fun _ => ?_)
      refine lv_aload_n hx hb d_Or_multiplyAndAdd_48 rfl (lv_at hl 2 rfl) ?_
      refine sx_get EE (hS.1.ob (kc_n6 hC) (kc_o6 hC)) rfl i_Or 0 (by decide) rfl fl_Or_11 rfl d_Or_multiplyAndAdd_49 ?_
      refine lv_iload hx hb d_Or_multiplyAndAdd_52 (lv_at hl 1 rfl) ?_
      refine lv_iload hx hb d_Or_multiplyAndAdd_54 (lv_at hl 0 rfl) ?_
      refine lv_iadd hx hb d_Or_multiplyAndAdd_56 ?_
      refine sx_ti (y := nI (i2 + i6)) (nI_add _ _) ?_
      refine lv_dup2_11 hx hb d_Or_multiplyAndAdd_57 rfl rfl ?_
      refine vx_lald hx hb hG hS hV (kc_a6_0 hC) (by omega) (by decide) d_Or_multiplyAndAdd_58 ?_
      refine lv_aload_n hx hb d_Or_multiplyAndAdd_59 rfl (lv_at hl 4 rfl) ?_
      refine lv_iload hx hb d_Or_multiplyAndAdd_60 (lv_at hl 1 rfl) ?_
      refine vx_bald hx hb hG hS hV f1 (by omega) (by decide) d_Or_multiplyAndAdd_62 ?_
      refine lv_sipush (v := nI 255) hx hb d_Or_multiplyAndAdd_63 (by decide +kernel) ?_
      refine lv_iand hx hb d_Or_multiplyAndAdd_66 ?_
      refine lv_aload_n hx hb d_Or_multiplyAndAdd_67 rfl (lv_at hl 5 rfl) ?_
      refine lv_iload hx hb d_Or_multiplyAndAdd_68 (lv_at hl 0 rfl) ?_
      refine vx_bald hx hb hG hS hV f2 (by omega) (by decide) d_Or_multiplyAndAdd_70 ?_
      refine lv_sipush (v := nI 255) hx hb d_Or_multiplyAndAdd_71 (by decide +kernel) ?_
      refine lv_iand hx hb d_Or_multiplyAndAdd_74 ?_
      refine lv_imul hx hb d_Or_multiplyAndAdd_75 ?_
      refine lv_i2l hx hb d_Or_multiplyAndAdd_76 rfl ?_
      refine lv_ladd hx hb d_Or_multiplyAndAdd_77 ?_
      refine vx_last hx hb hG hS hV (kc_a6_0 hC) (kc_e6_0 hC) (by omega) (by decide) d_Or_multiplyAndAdd_78 (fun H locs X9 eX9 hS hV => ?_)
      refine lv_iinc (v := nI (i6 + 1)) (lv' := [(6, .int (nI (i6 + 1))), (5, .int (nI (i2))), (0, .ref (kq 6 99)), (1, .ref a0), (2, .ref a1), (3, .ref a2), (4, .ref a3)]) hx hb d_Or_multiplyAndAdd_79 hl (k := 0) rfl (sx_inc _ _) (by decide) rfl (fun ls hl => ?_)
      refine lv_goto (tgt := 41) hx hb d_Or_multiplyAndAdd_82 (by decide) ?_
      exact ihi6 X9 _ _ _ (by subst eX9; exact rfl) ⟨hS, hV, lv_sub hl [0, 1, 2, 3, 4, 5, 6] rfl⟩
    · intro H locs ls hP
      obtain ⟨hS, hV, hl⟩ := hP
      refine lv_iload hx hb d_Or_multiplyAndAdd_41 (lv_at hl 0 rfl) ?_
      refine lv_bipush (v := nI 32) hx hb d_Or_multiplyAndAdd_43 (by decide +kernel) ?_
      refine lv_icmp_ge (tgt := 85) hx hb d_Or_multiplyAndAdd_45 (by decide) (fun _ => ?_) (fun q => absurd (nI_le (by omega) (by omega)) q)
      refine lv_iinc (v := nI (i2 + 1)) (lv' := [(5, .int (nI (i2 + 1))), (6, .int (nI (32))), (0, .ref (kq 6 99)), (1, .ref a0), (2, .ref a1), (3, .ref a2), (4, .ref a3)]) hx hb d_Or_multiplyAndAdd_85 hl (k := 1) rfl (sx_inc _ _) (by decide) rfl (fun ls hl => ?_)
      refine lv_goto (tgt := 11) hx hb d_Or_multiplyAndAdd_88 (by decide) ?_
      exact ihi2 R8 _ _ _ (by subst eX5 eR8; exact rfl) ⟨hS, hV, lv_sub hl [0, 2, 3, 4, 5, 6] rfl⟩
  · intro H locs ls hP
    obtain ⟨hS, hV, hl⟩ := hP
    refine lv_iload hx hb d_Or_multiplyAndAdd_11 (lv_at hl 0 rfl) ?_
    refine lv_bipush (v := nI 32) hx hb d_Or_multiplyAndAdd_13 (by decide +kernel) ?_
    refine lv_icmp_ge (tgt := 91) hx hb d_Or_multiplyAndAdd_15 (by decide) (fun _ => ?_) (fun q => absurd (nI_le (by omega) (by omega)) q)
    refine lv_aload_n hx hb d_Or_multiplyAndAdd_91 rfl (lv_at hl 1 rfl) ?_
    refine lv_aload_n hx hb d_Or_multiplyAndAdd_92 rfl (lv_at hl 2 rfl) ?_
    refine vx_gv (sx_runV (As := [.ref a0]) (rest := []) EE (hS.1.ob (kc_n6 hC) (kc_o6 hC)) rfl rfl (v_Or_reduceWide (X := R4) (hC.kept hS.1) (hS.a f0) o0 hV) w_Or_18 rfl ⟨rfl, rfl⟩ ⟨Nat.le_of_ble_eq_true rfl, Nat.le_of_ble_eq_true rfl⟩ ⟨Nat.zero_le _, Nat.zero_le _⟩ hl.1 rfl (Nat.le_of_ble_eq_true rfl) d_Or_multiplyAndAdd_93) hS (fun H locs X10 eX10 hS hV => ?_)
    exact hret _ _ _ _ _ (by subst eX1 eR4 eX10; exact rfl) hS hV d_Or_multiplyAndAdd_96
