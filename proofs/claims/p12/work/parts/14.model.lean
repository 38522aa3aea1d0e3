def LL_M_remainders_40 (a0 : Nat) (i_0 : Nat) (a2 : Nat) : Nat → vM → vM := fun i_1 s_2 => (let X_3 : vM := stL s_2 a0 ((i_0 - 255) + i_1) (s_2.1 a2 i_1); X_3)
def LL_M_remainders_7 (a2 : Nat) (a1 : Nat) (a0 : Nat) : Nat → vM → vM := fun i_0 s_1 => (let X_2 : vM := (LF_M_plus s_1 a2 a2 a2 a1); let J_3 : vM := if i_0 < 255 then X_2 else (if (i_0 % 16) = 15 then (let R_4 : vM := lpU 1 (LL_M_remainders_40 a0 i_0 a2) 16 0 X_2; R_4) else (X_2)); J_3)
def LF_M_remainders (X : vM) (a0 : Nat) (a1 : Nat) (a2 : Nat) : vM := (let X1 : vM := (LF_M_set X a2 (nI 1)); let R4 : vM := lpU 1 (LL_M_remainders_7 a2 a1 a0) 496 0 X1; R4)
abbrev rm_M_remainders : Room := { frames := 2, cells := 0, slots := 0, locals := 53 }
set_option maxHeartbeats 4000000 in
set_option maxRecDepth 100000 in
theorem v_M_remainders {l : Launch} {D : va_G} {g : ClassId → FieldType → Prop} {E : Nat → Prop} {H0 : Heap} {X : vM} {a0 : Nat} {a1 : Nat} {a2 : Nat} (f0 : sx_A g .long H0 a0 256) (o0 : E a0) (f1 : sx_A g .long H0 a1 16) (f2 : sx_A g .long H0 a2 16) (o2 : E a2) (hV : mm g H0 = X) : Met l y_M_remainders (.code y_M_remainders b_M_remainders 5 none :: G_) rm_M_remainders (sx_Pc [.ref a0, .ref a1, .ref a2] H0 D g) (vx_Qv g E H0 (LF_M_remainders X a0 a1 a2)) 0 0 E := by
  refine vx_mv (own := R_M) (by decide) rfl rfl rfl (Nat.le_of_ble_eq_true rfl) ?_
  intro p e s m args below meth c Q ls EE hl hret
  obtain ⟨hx, hb, hml, hown, hts, hG, hK⟩ := id EE
  have hS : sx_S g E E H0 H0 [] := sx_S.rf
  have hl : lv_has ls 5 [(0, .ref a0), (1, .ref a1), (2, .ref a2)] := hl
  refine lv_aload_n hx hb d_M_remainders_0 rfl (lv_at hl 2 rfl) ?_
  refine lv_iconst (v := nI 1) hx hb d_M_remainders_1 (by decide +kernel) ?_
  refine vx_gv (sx_runS (As := [.ref a2, .int (nI (1))]) (rest := []) EE (v_M_set (X := X) (hS.a f2) o2 hV) w_M_177 rfl ⟨rfl, rfl⟩ ⟨Nat.le_of_ble_eq_true rfl, Nat.le_of_ble_eq_true rfl⟩ ⟨Nat.zero_le _, Nat.zero_le _⟩ hl.1 rfl (Nat.le_of_ble_eq_true rfl) d_M_remainders_2) hS (fun H locs X1 eX1 hS hV => ?_)
  refine lv_iconst (v := nI 0) hx hb d_M_remainders_5 (by decide +kernel) ?_
  refine lv_istore_n (lv' := [(3, .int (nI (0))), (0, .ref a0), (1, .ref a1), (2, .ref a2)]) hx hb d_M_remainders_6 rfl hl (by decide) rfl (fun ls hl => ?_)
  obtain ⟨R4, eR4⟩ : ∃ t : vM, lpU 1 (LL_M_remainders_7 a2 a1 a0) 496 0 X1 = t := ⟨_, rfl⟩
  refine lpU_go (σ := vM) (P := fun i2 s3 H locs ls => sx_S g E E H0 H locs ∧ mm g H = s3 ∧ lv_has ls 5 [(3, .int (nI (i2))), (0, .ref a0), (1, .ref a1), (2, .ref a2)]) (Wd := fun H locs ls => W p l e rm_M_remainders s m args below meth c H locs 0 0 Q (F0 m 7 ls [])) (N := 496) (d := 1) (by decide) ?_ ?_ 496 0 _ (by omega) eR4 _ _ _ ⟨hS, hV, lv_sub hl [0, 1, 2, 3] rfl⟩
  · intro i2 s3 H locs ls hii2 hP ihi2
    obtain ⟨hS, hV, hl⟩ := hP
    refine lv_iload_n hx hb d_M_remainders_7 rfl (lv_at hl 0 rfl) ?_
    refine lv_sipush (v := nI 496) hx hb d_M_remainders_8 (by decide +kernel) ?_
    refine lv_icmp_ge (tgt := 73) hx hb d_M_remainders_11 (by decide) (fun q => absurd q (nI_ge (by omega) (by omega))) (fun _ => ?_)
    refine lv_aload_n hx hb d_M_remainders_14 rfl (lv_at hl 3 rfl) ?_
    refine lv_aload_n hx hb d_M_remainders_15 rfl (lv_at hl 3 rfl) ?_
    refine lv_aload_n hx hb d_M_remainders_16 rfl (lv_at hl 3 rfl) ?_
    refine lv_aload_n hx hb d_M_remainders_17 rfl (lv_at hl 2 rfl) ?_
    refine vx_gv (sx_runS (As := [.ref a2, .ref a2, .ref a2, .ref a1]) (rest := []) EE (v_M_plus (X := s3) (hS.a f2) o2 (hS.a f2) (hS.a f2) (hS.a f1) hV) w_M_222 rfl ⟨rfl, rfl⟩ ⟨Nat.le_of_ble_eq_true rfl, Nat.le_of_ble_eq_true rfl⟩ ⟨Nat.zero_le _, Nat.zero_le _⟩ hl.1 rfl (Nat.le_of_ble_eq_true rfl) d_M_remainders_18) hS (fun H locs X5 eX5 hS hV => ?_)
    refine lv_iload_n hx hb d_M_remainders_21 rfl (lv_at hl 0 rfl) ?_
    refine lv_sipush (v := nI 255) hx hb d_M_remainders_22 (by decide +kernel) ?_
    have jn67_12 : ∀ (J12 : vM) (H : Heap) (locs : List Loc) (ls : Array Slot), (if i2 < 255 then X5 else (if (i2 % 16) = 15 then (let R10 : vM := lpU 1 (LL_M_remainders_40 a0 i2 a2) 16 0 X5; R10) else (X5))) = J12 → sx_S g E E H0 H locs → mm g H = J12 → lv_has ls 5 [(3, .int (nI (i2))), (0, .ref a0), (1, .ref a1), (2, .ref a2)] → W p l e rm_M_remainders s m args below meth c H locs 0 0 Q (F0 m 67 ls []) := by
      intro J12 H locs ls eJ12 hS hV hl
      refine lv_iinc (v := nI (i2 + 1)) (lv' := [(3, .int (nI (i2 + 1))), (0, .ref a0), (1, .ref a1), (2, .ref a2)]) hx hb d_M_remainders_67 hl (k := 0) rfl (sx_inc _ _) (by decide) rfl (fun ls hl => ?_)
      refine lv_goto (tgt := 7) hx hb d_M_remainders_70 (by decide) ?_
      exact ihi2 J12 _ _ _ (by subst eX5 eJ12; exact rfl) ⟨hS, hV, lv_sub hl [0, 1, 2, 3] rfl⟩
    refine lv_icmp_lt (tgt := 67) hx hb d_M_remainders_25 (by decide) (fun q25_5 => ?_) (fun q25_5 => ?_)
    · skip
      have q25_5 : i2 < 255 := (nI_ltI (a := i2) (b := 255) (by omega) (by omega)).mp q25_5
      exact jn67_12 X5 _ _ _ (vx_p q25_5 rfl) hS hV (lv_sub hl [0, 1, 2, 3] rfl)
    · skip
      have q25_5 : ¬ (i2 < 255) := fun z => q25_5 ((nI_ltI (a := i2) (b := 255) (by omega) (by omega)).mpr z)
      refine lv_iload_n hx hb d_M_remainders_28 rfl (lv_at hl 0 rfl) ?_
      refine lv_bipush (v := nI 16) hx hb d_M_remainders_29 (by decide +kernel) ?_
      refine lv_irem hx hb d_M_remainders_31 (nI_ne0 (by omega) (by omega)) ?_
      refine sx_ti (y := nI (i2 % 16)) (pk_rem (by omega) (by omega) (by omega)) ?_
      refine lv_bipush (v := nI 15) hx hb d_M_remainders_32 (by decide +kernel) ?_
      refine lv_icmp_ne (tgt := 67) hx hb d_M_remainders_34 (by decide) (fun q34_13 => ?_) (fun q34_13 => ?_)
      · skip
        have q34_13 : ¬ ((i2 % 16) = 15) := fun z => q34_13 ((nI_eq (a := (i2 % 16)) (b := 15) (by omega) (by omega)).mpr z)
        exact jn67_12 X5 _ _ _ (vx_n q25_5 (vx_n q34_13 rfl)) hS hV (lv_sub hl [0, 1, 2, 3] rfl)
      · skip
        have q34_13 : (i2 % 16) = 15 := (nI_eq (a := (i2 % 16)) (b := 15) (by omega) (by omega)).mp q34_13
        refine lv_iconst (v := nI 0) hx hb d_M_remainders_37 (by decide +kernel) ?_
        refine lv_istore (lv' := [(4, .int (nI (0))), (3, .int (nI (i2))), (0, .ref a0), (1, .ref a1), (2, .ref a2)]) hx hb d_M_remainders_38 hl (by decide) rfl (fun ls hl => ?_)
        obtain ⟨R17, eR17⟩ : ∃ t : vM, lpU 1 (LL_M_remainders_40 a0 i2 a2) 16 0 X5 = t := ⟨_, rfl⟩
        refine lpU_go (σ := vM) (P := fun i15 s16 H locs ls => sx_S g E E H0 H locs ∧ mm g H = s16 ∧ lv_has ls 5 [(4, .int (nI (i15))), (3, .int (nI (i2))), (0, .ref a0), (1, .ref a1), (2, .ref a2)]) (Wd := fun H locs ls => W p l e rm_M_remainders s m args below meth c H locs 0 0 Q (F0 m 40 ls [])) (N := 16) (d := 1) (by decide) ?_ ?_ 16 0 _ (by omega) eR17 _ _ _ ⟨hS, hV, lv_sub hl [0, 1, 2, 3, 4] rfl⟩
        · intro i15 s16 H locs ls hii15 hP ihi15
          obtain ⟨hS, hV, hl⟩ := hP
          refine lv_iload hx hb d_M_remainders_40 (lv_at hl 0 rfl) ?_
          refine lv_bipush (v := nI 16) hx hb d_M_remainders_42 (by decide +kernel) ?_
          refine lv_icmp_ge (tgt := 67) hx hb d_M_remainders_44 (by decide) (fun q => absurd q (nI_ge (by omega) (by omega))) (fun _ => ?_)
          refine lv_aload_n hx hb d_M_remainders_47 rfl (lv_at hl 2 rfl) ?_
          refine lv_iload_n hx hb d_M_remainders_48 rfl (lv_at hl 1 rfl) ?_
          refine lv_sipush (v := nI 255) hx hb d_M_remainders_49 (by decide +kernel) ?_
          refine lv_isub hx hb d_M_remainders_52 ?_
          refine sx_ti (y := nI (i2 - 255)) (pk_sub (by omega)) ?_
          refine lv_iload hx hb d_M_remainders_53 (lv_at hl 0 rfl) ?_
          refine lv_iadd hx hb d_M_remainders_55 ?_
          refine sx_ti (y := nI ((i2 - 255) + i15)) (nI_add _ _) ?_
          refine lv_aload_n hx hb d_M_remainders_56 rfl (lv_at hl 4 rfl) ?_
          refine lv_iload hx hb d_M_remainders_57 (lv_at hl 0 rfl) ?_
          refine vx_lald hx hb hG hS hV f2 (by omega) (by decide) d_M_remainders_59 ?_
          refine vx_last hx hb hG hS hV f0 o0 (by omega) (by decide) d_M_remainders_60 (fun H locs X18 eX18 hS hV => ?_)
          refine lv_iinc (v := nI (i15 + 1)) (lv' := [(4, .int (nI (i15 + 1))), (3, .int (nI (i2))), (0, .ref a0), (1, .ref a1), (2, .ref a2)]) hx hb d_M_remainders_61 hl (k := 0) rfl (sx_inc _ _) (by decide) rfl (fun ls hl => ?_)
          refine lv_goto (tgt := 40) hx hb d_M_remainders_64 (by decide) ?_
          exact ihi15 X18 _ _ _ (by subst eX18; exact rfl) ⟨hS, hV, lv_sub hl [0, 1, 2, 3, 4] rfl⟩
        · intro H locs ls hP
          obtain ⟨hS, hV, hl⟩ := hP
          refine lv_iload hx hb d_M_remainders_40 (lv_at hl 0 rfl) ?_
          refine lv_bipush (v := nI 16) hx hb d_M_remainders_42 (by decide +kernel) ?_
          refine lv_icmp_ge (tgt := 67) hx hb d_M_remainders_44 (by decide) (fun _ => ?_) (fun q => absurd (nI_le (by omega) (by omega)) q)
          exact jn67_12 R17 _ _ _ (by subst eR17; exact (vx_n q25_5 (vx_p q34_13 rfl))) hS hV (lv_sub hl [1, 2, 3, 4] rfl)
  · intro H locs ls hP
    obtain ⟨hS, hV, hl⟩ := hP
    refine lv_iload_n hx hb d_M_remainders_7 rfl (lv_at hl 0 rfl) ?_
    refine lv_sipush (v := nI 496) hx hb d_M_remainders_8 (by decide +kernel) ?_
    refine lv_icmp_ge (tgt := 73) hx hb d_M_remainders_11 (by decide) (fun _ => ?_) (fun q => absurd (nI_le (by omega) (by omega)) q)
    exact hret _ _ _ _ _ (by subst eX1 eR4; exact rfl) hS hV d_M_remainders_73
def LL_M_reduce_22 (s_0 : vM) (r : Nat → Nat) (a2 : Nat) (i_1 : Nat) : Nat → Int64 → Int64 := fun i_2 s_3 => (let z_4 : Int64 := (s_3 + ((s_0.1 (r 40) (16 + i_2)) * (s_0.1 a2 ((16 * i_2) + i_1)))); z_4)
def LL_M_reduce_3 (r : Nat → Nat) (a2 : Nat) : Nat → vM → vM := fun i_0 s_1 => (let z_2 : Int64 := (s_1.1 (r 40) i_0); let R_3 : Int64 := lpU 1 (LL_M_reduce_22 s_1 r a2 i_0) 16 0 z_2; (let X_4 : vM := stL s_1 (r 41) i_0 R_3; X_4))
def LL_M_reduce_102 (r : Nat → Nat) : Nat → (vM × Int64) → (vM × Int64) := fun i_0 s_1 => (let z_2 : Int64 := (s_1.2 + (s_1.1.1 (r 41) i_0)); let X_3 : vM := stL s_1.1 (r 41) i_0 (z_2 &&& (65535 : Int64)); let z_4 : Int64 := (z_2 >>> ((nI 16).toInt64 &&& 63)); (X_3, z_4))
def LL_M_reduce_154 (r : Nat → Nat) (R_0 : (vM × Int64)) (a2 : Nat) : Nat → vM → vM := fun i_1 s_2 => (let X_3 : vM := stL s_2 (r 41) i_1 ((s_2.1 (r 41) i_1) + (R_0.2 * (s_2.1 a2 i_1))); X_3)
def LL_M_reduce_82 (r : Nat → Nat) (a2 : Nat) : Nat → (vM × Int64) → (vM × Int64) ⊕ (vM × Int64) := fun i_0 s_1 => if s_1.2 ≤ (0 : Int64) then (Sum.inl (s_1.1, s_1.2)) else (let R_2 : (vM × Int64) := lpU 1 (LL_M_reduce_102 r) 16 0 (s_1.1, (0 : Int64)); (let R_3 : vM := lpU 1 (LL_M_reduce_154 r R_2 a2) 16 0 R_2.1; Sum.inr (R_3, R_2.2)))
def LL_M_reduce_193 (a0 : Nat) (r : Nat → Nat) : Nat → vM → vM := fun i_0 s_1 => (let X_2 : vM := stL s_1 a0 i_0 (s_1.1 (r 41) i_0); X_2)
def LL_M_reduce_220 (a0 : Nat) (a1 : Nat) : Nat → vM → vM ⊕ vM := fun i_0 s_1 => if (LF_M_below s_1 a0 a1) = true then (Sum.inl s_1) else (let X_2 : vM := (LF_M_less s_1 a0 a0 a1); Sum.inr X_2)
def LF_M_reduce (X : vM) (r : Nat → Nat) (a0 : Nat) (a1 : Nat) (a2 : Nat) : vM := (let R3 : vM := lpU 1 (LL_M_reduce_3 r a2) 16 0 X; (let R12 : (vM × Int64) := Sum.elim id id (lpE 1 (LL_M_reduce_82 r a2) 9 0 (R3, (1 : Int64))); (let R26 : vM := lpU 1 (LL_M_reduce_193 a0 r) 16 0 R12.1; (let R30 : vM := Sum.elim id id (lpE 1 (LL_M_reduce_220 a0 a1) 16 0 R26); R30))))
abbrev rm_M_reduce : Room := { frames := 1, cells := 0, slots := 0, locals := 27 }
set_option maxHeartbeats 4000000 in
set_option maxRecDepth 100000 in
theorem v_M_reduce {l : Launch} {D : va_G} {g : ClassId → FieldType → Prop} {E : Nat → Prop} {H0 : Heap} {X : vM} {o : Nat} {r : Nat → Nat} {i : Nat → Int32} {a0 : Nat} {a1 : Nat} {a2 : Nat} (hM : mo_ D g H0 o r i) (hE : ¬ E o) (hW : ∀ q ∈ mo_wr, E (r q.1)) (f0 : sx_A g .long H0 a0 16) (o0 : E a0) (f1 : sx_A g .long H0 a1 16) (f2 : sx_A g .long H0 a2 256) (hV : mm g H0 = X) : Met l y_M_reduce (.code y_M_reduce b_M_reduce 10 none :: G_) rm_M_reduce (sx_Pc [.ref o, .ref a0, .ref a1, .ref a2] H0 D g) (vx_Qv g E H0 (LF_M_reduce X r a0 a1 a2)) 0 0 E := by
  refine vx_mv (own := R_M) (by decide) rfl rfl rfl (Nat.le_of_ble_eq_true rfl) ?_
  intro p e s m args below meth c Q ls EE hl hret
  obtain ⟨hx, hb, hml, hown, hts, hG, hK⟩ := id EE
  have hS : sx_S g E E H0 H0 [] := sx_S.rf
  have hl : lv_has ls 10 [(0, .ref o), (1, .ref a0), (2, .ref a1), (3, .ref a2)] := hl
  refine lv_iconst (v := nI 0) hx hb d_M_reduce_0 (by decide +kernel) ?_
  refine lv_istore (lv' := [(4, .int (nI (0))), (0, .ref o), (1, .ref a0), (2, .ref a1), (3, .ref a2)]) hx hb d_M_reduce_1 hl (by decide) rfl (fun ls hl => ?_)
  obtain ⟨R3, eR3⟩ : ∃ t : vM, lpU 1 (LL_M_reduce_3 r a2) 16 0 X = t := ⟨_, rfl⟩
  refine lpU_go (σ := vM) (P := fun i1 s2 H locs ls => sx_S g E E H0 H locs ∧ mm g H = s2 ∧ lv_has ls 10 [(4, .int (nI (i1))), (0, .ref o), (1, .ref a0), (2, .ref a1), (3, .ref a2)]) (Wd := fun H locs ls => W p l e rm_M_reduce s m args below meth c H locs 0 0 Q (F0 m 3 ls [])) (N := 16) (d := 1) (by decide) ?_ ?_ 16 0 _ (by omega) eR3 _ _ _ ⟨hS, hV, lv_sub hl [0, 1, 2, 3, 4] rfl⟩
  · intro i1 s2 H locs ls hii1 hP ihi1
    obtain ⟨hS, hV, hl⟩ := hP
    refine lv_iload hx hb d_M_reduce_3 (lv_at hl 0 rfl) ?_
    refine lv_bipush (v := nI 16) hx hb d_M_reduce_5 (by decide +kernel) ?_
    refine lv_icmp_ge (tgt := 76) hx hb d_M_reduce_7 (by decide) (fun q => absurd q (nI_ge (by omega) (by omega))) (fun _ => ?_)
    refine lv_aload_n hx hb d_M_reduce_10 rfl (lv_at hl 1 rfl) ?_
    refine sx_get EE (hS.1.ob hE hM.1) rfl i_M 40 (by decide) rfl fl_M_123 rfl d_M_reduce_11 ?_
    refine lv_iload hx hb d_M_reduce_14 (lv_at hl 0 rfl) ?_
    refine vx_lald hx hb hG hS hV (mo_40 hM) (by omega) (by decide) d_M_reduce_16 ?_
    refine vx_nmL (fun z4 ez4 => ?_)
    refine lv_lstore (lv' := [(5, .long z4), (4, .int (nI (i1))), (0, .ref o), (1, .ref a0), (2, .ref a1), (3, .ref a2)]) hx hb d_M_reduce_17 hl (by decide) rfl (fun ls hl => ?_)
    refine lv_iconst (v := nI 0) hx hb d_M_reduce_19 (by decide +kernel) ?_
    refine lv_istore (lv' := [(7, .int (nI (0))), (5, .long z4), (4, .int (nI (i1))), (0, .ref o), (1, .ref a0), (2, .ref a1), (3, .ref a2)]) hx hb d_M_reduce_20 hl (by decide) rfl (fun ls hl => ?_)
    obtain ⟨R7, eR7⟩ : ∃ t : Int64, lpU 1 (LL_M_reduce_22 s2 r a2 i1) 16 0 z4 = t := ⟨_, rfl⟩
    refine lpU_go (σ := Int64) (P := fun i5 s6 H locs ls => sx_S g E E H0 H locs ∧ mm g H = s2 ∧ lv_has ls 10 [(7, .int (nI (i5))), (5, .long s6), (4, .int (nI (i1))), (0, .ref o), (1, .ref a0), (2, .ref a1), (3, .ref a2)]) (Wd := fun H locs ls => W p l e rm_M_reduce s m args below meth c H locs 0 0 Q (F0 m 22 ls [])) (N := 16) (d := 1) (by decide) ?_ ?_ 16 0 _ (by omega) eR7 _ _ _ ⟨hS, hV, lv_sub hl [0, 1, 2, 3, 4, 5, 6] rfl⟩
    · intro i5 s6 H locs ls hii5 hP ihi5
      obtain ⟨hS, hV, hl⟩ := hP
      refine lv_iload hx hb d_M_reduce_22 (lv_at hl 0 rfl) ?_
      refine lv_bipush (v := nI 16) hx hb d_M_reduce_24 (by decide +kernel) ?_
      refine lv_icmp_ge (tgt := 61) hx hb d_M_reduce_26 (by decide) (fun q => absurd q (nI_ge (by omega) (by omega))) (fun _ => ?_)
      refine lv_lload hx hb d_M_reduce_29 (lv_at hl 1 rfl) ?_
      refine lv_aload_n hx hb d_M_reduce_31 rfl (lv_at hl 3 rfl) ?_
      refine sx_get EE (hS.1.ob hE hM.1) rfl i_M 40 (by decide) rfl fl_M_123 rfl d_M_reduce_32 ?_
      refine lv_bipush (v := nI 16) hx hb d_M_reduce_35 (by decide +kernel) ?_
      refine lv_iload hx hb d_M_reduce_37 (lv_at hl 0 rfl) ?_
      refine lv_iadd hx hb d_M_reduce_39 ?_
      refine sx_ti (y := nI (16 + i5)) (nI_add _ _) ?_
      refine vx_lald hx hb hG hS hV (mo_40 hM) (by omega) (by decide) d_M_reduce_40 ?_
      refine lv_aload_n hx hb d_M_reduce_41 rfl (lv_at hl 6 rfl) ?_
      refine lv_bipush (v := nI 16) hx hb d_M_reduce_42 (by decide +kernel) ?_
      refine lv_iload hx hb d_M_reduce_44 (lv_at hl 0 rfl) ?_
      refine lv_imul hx hb d_M_reduce_46 ?_
      refine sx_ti (y := nI (16 * i5)) (pk_mul _ _) ?_
      refine lv_iload hx hb d_M_reduce_47 (lv_at hl 2 rfl) ?_
      refine lv_iadd hx hb d_M_reduce_49 ?_
      refine sx_ti (y := nI ((16 * i5) + i1)) (nI_add _ _) ?_
      refine vx_lald hx hb hG hS hV f2 (by omega) (by decide) d_M_reduce_50 ?_
      refine lv_lmul hx hb d_M_reduce_51 ?_
      refine lv_ladd hx hb d_M_reduce_52 ?_
      refine vx_nmL (fun z8 ez8 => ?_)
      refine lv_lstore (lv' := [(5, .long z8), (7, .int (nI (i5))), (4, .int (nI (i1))), (0, .ref o), (1, .ref a0), (2, .ref a1), (3, .ref a2)]) hx hb d_M_reduce_53 hl (by decide) rfl (fun ls hl => ?_)
      refine lv_iinc (v := nI (i5 + 1)) (lv' := [(7, .int (nI (i5 + 1))), (5, .long z8), (4, .int (nI (i1))), (0, .ref o), (1, .ref a0), (2, .ref a1), (3, .ref a2)]) hx hb d_M_reduce_55 hl (k := 1) rfl (sx_inc _ _) (by decide) rfl (fun ls hl => ?_)
      refine lv_goto (tgt := 22) hx hb d_M_reduce_58 (by decide) ?_
      exact ihi5 z8 _ _ _ (by subst ez8; exact rfl) ⟨hS, hV, lv_sub hl [0, 1, 2, 3, 4, 5, 6] rfl⟩
    · intro H locs ls hP
      obtain ⟨hS, hV, hl⟩ := hP
      refine lv_iload hx hb d_M_reduce_22 (lv_at hl 0 rfl) ?_
      refine lv_bipush (v := nI 16) hx hb d_M_reduce_24 (by decide +kernel) ?_
      refine lv_icmp_ge (tgt := 61) hx hb d_M_reduce_26 (by decide) (fun _ => ?_) (fun q => absurd (nI_le (by omega) (by omega)) q)
      refine lv_aload_n hx hb d_M_reduce_61 rfl (lv_at hl 3 rfl) ?_
      refine sx_get EE (hS.1.ob hE hM.1) rfl i_M 41 (by decide) rfl fl_M_126 rfl d_M_reduce_62 ?_
      refine lv_iload hx hb d_M_reduce_65 (lv_at hl 2 rfl) ?_
      refine lv_lload hx hb d_M_reduce_67 (lv_at hl 1 rfl) ?_
      refine vx_last hx hb hG hS hV (mo_41 hM) (mow_41 hW) (by omega) (by decide) d_M_reduce_69 (fun H locs X9 eX9 hS hV => ?_)
      refine lv_iinc (v := nI (i1 + 1)) (lv' := [(4, .int (nI (i1 + 1))), (7, .int (nI (16))), (5, .long R7), (0, .ref o), (1, .ref a0), (2, .ref a1), (3, .ref a2)]) hx hb d_M_reduce_70 hl (k := 2) rfl (sx_inc _ _) (by decide) rfl (fun ls hl => ?_)
      refine lv_goto (tgt := 3) hx hb d_M_reduce_73 (by decide) ?_
      exact ihi1 X9 _ _ _ (by subst ez4 eR7 eX9; exact rfl) ⟨hS, hV, lv_sub hl [0, 3, 4, 5, 6] rfl⟩
  · intro H locs ls hP
    obtain ⟨hS, hV, hl⟩ := hP
    refine lv_iload hx hb d_M_reduce_3 (lv_at hl 0 rfl) ?_
    refine lv_bipush (v := nI 16) hx hb d_M_reduce_5 (by decide +kernel) ?_
    refine lv_icmp_ge (tgt := 76) hx hb d_M_reduce_7 (by decide) (fun _ => ?_) (fun q => absurd (nI_le (by omega) (by omega)) q)
    refine lv_lconst (v := 1) hx hb d_M_reduce_76 (by decide +kernel) ?_
    refine lv_lstore (lv' := [(4, .long (1 : Int64)), (0, .ref o), (1, .ref a0), (2, .ref a1), (3, .ref a2)]) hx hb d_M_reduce_77 hl (by decide) rfl (fun ls hl => ?_)
    refine lv_iconst (v := nI 0) hx hb d_M_reduce_79 (by decide +kernel) ?_
    refine lv_istore (lv' := [(6, .int (nI (0))), (4, .long (1 : Int64)), (0, .ref o), (1, .ref a0), (2, .ref a1), (3, .ref a2)]) hx hb d_M_reduce_80 hl (by decide) rfl (fun ls hl => ?_)
    obtain ⟨R12, eR12⟩ : ∃ t : (vM × Int64), Sum.elim id id (lpE 1 (LL_M_reduce_82 r a2) 9 0 (R3, (1 : Int64))) = t := ⟨_, rfl⟩
    refine lpW_go (σ := (vM × Int64)) (P := fun i10 s11 H locs ls => sx_S g E E H0 H locs ∧ mm g H = s11.1 ∧ lv_has ls 10 [(6, .int (nI (i10))), (4, .long s11.2), (0, .ref o), (1, .ref a0), (2, .ref a1), (3, .ref a2)]) (Wd := fun H locs ls => W p l e rm_M_reduce s m args below meth c H locs 0 0 Q (F0 m 82 ls [])) (Px := fun s11 H locs ls => sx_S g E E H0 H locs ∧ mm g H = s11.1 ∧ lv_has ls 10 [(4, .long s11.2), (0, .ref o), (1, .ref a0), (2, .ref a1), (3, .ref a2)]) (Wx := fun H locs ls => W p l e rm_M_reduce s m args below meth c H locs 0 0 Q (F0 m 190 ls [])) (N := 9) (d := 1) (by decide) ?_ ?_ ?_ 9 0 _ (by omega) eR12 _ _ _ ⟨hS, hV, lv_sub hl [0, 1, 2, 3, 4, 5] rfl⟩
    · intro H locs ls hP
      obtain ⟨hS, hV, hl⟩ := hP
      refine lv_iconst (v := nI 0) hx hb d_M_reduce_190 (by decide +kernel) ?_
      refine lv_istore (lv' := [(6, .int (nI (0))), (4, .long R12.2), (0, .ref o), (1, .ref a0), (2, .ref a1), (3, .ref a2)]) hx hb d_M_reduce_191 hl (by decide) rfl (fun ls hl => ?_)
      obtain ⟨R26, eR26⟩ : ∃ t : vM, lpU 1 (LL_M_reduce_193 a0 r) 16 0 R12.1 = t := ⟨_, rfl⟩
      refine lpU_go (σ := vM) (P := fun i24 s25 H locs ls => sx_S g E E H0 H locs ∧ mm g H = s25 ∧ lv_has ls 10 [(6, .int (nI (i24))), (0, .ref o), (1, .ref a0), (2, .ref a1)]) (Wd := fun H locs ls => W p l e rm_M_reduce s m args below meth c H locs 0 0 Q (F0 m 193 ls [])) (N := 16) (d := 1) (by decide) ?_ ?_ 16 0 _ (by omega) eR26 _ _ _ ⟨hS, hV, lv_sub hl [0, 2, 3, 4] rfl⟩
      · intro i24 s25 H locs ls hii24 hP ihi24
        obtain ⟨hS, hV, hl⟩ := hP
        refine lv_iload hx hb d_M_reduce_193 (lv_at hl 0 rfl) ?_
        refine lv_bipush (v := nI 16) hx hb d_M_reduce_195 (by decide +kernel) ?_
        refine lv_icmp_ge (tgt := 217) hx hb d_M_reduce_197 (by decide) (fun q => absurd q (nI_ge (by omega) (by omega))) (fun _ => ?_)
        refine lv_aload_n hx hb d_M_reduce_200 rfl (lv_at hl 2 rfl) ?_
        refine lv_iload hx hb d_M_reduce_201 (lv_at hl 0 rfl) ?_
        refine lv_aload_n hx hb d_M_reduce_203 rfl (lv_at hl 1 rfl) ?_
        refine sx_get EE (hS.1.ob hE hM.1) rfl i_M 41 (by decide) rfl fl_M_126 rfl d_M_reduce_204 ?_
        refine lv_iload hx hb d_M_reduce_207 (lv_at hl 0 rfl) ?_
        refine vx_lald hx hb hG hS hV (mo_41 hM) (by omega) (by decide) d_M_reduce_209 ?_
        refine vx_last hx hb hG hS hV f0 o0 (by omega) (by decide) d_M_reduce_210 (fun H locs X27 eX27 hS hV => ?_)
        refine lv_iinc (v := nI (i24 + 1)) (lv' := [(6, .int (nI (i24 + 1))), (0, .ref o), (1, .ref a0), (2, .ref a1)]) hx hb d_M_reduce_211 hl (k := 0) rfl (sx_inc _ _) (by decide) rfl (fun ls hl => ?_)
        refine lv_goto (tgt := 193) hx hb d_M_reduce_214 (by decide) ?_
        exact ihi24 X27 _ _ _ (by subst eX27; exact rfl) ⟨hS, hV, lv_sub hl [0, 1, 2, 3] rfl⟩
      · intro H locs ls hP
        obtain ⟨hS, hV, hl⟩ := hP
        refine lv_iload hx hb d_M_reduce_193 (lv_at hl 0 rfl) ?_
        refine lv_bipush (v := nI 16) hx hb d_M_reduce_195 (by decide +kernel) ?_
        refine lv_icmp_ge (tgt := 217) hx hb d_M_reduce_197 (by decide) (fun _ => ?_) (fun q => absurd (nI_le (by omega) (by omega)) q)
        refine lv_iconst (v := nI 0) hx hb d_M_reduce_217 (by decide +kernel) ?_
        refine lv_istore (lv' := [(6, .int (nI (0))), (0, .ref o), (1, .ref a0), (2, .ref a1)]) hx hb d_M_reduce_218 hl (by decide) rfl (fun ls hl => ?_)
        obtain ⟨R30, eR30⟩ : ∃ t : vM, Sum.elim id id (lpE 1 (LL_M_reduce_220 a0 a1) 16 0 R26) = t := ⟨_, rfl⟩
        refine lpW_go (σ := vM) (P := fun i28 s29 H locs ls => sx_S g E E H0 H locs ∧ mm g H = s29 ∧ lv_has ls 10 [(6, .int (nI (i28))), (1, .ref a0), (2, .ref a1)]) (Wd := fun H locs ls => W p l e rm_M_reduce s m args below meth c H locs 0 0 Q (F0 m 220 ls [])) (Px := fun s29 H locs ls => sx_S g E E H0 H locs ∧ mm g H = s29 ∧ lv_has ls 10 [(1, .ref a0), (2, .ref a1)]) (Wx := fun H locs ls => W p l e rm_M_reduce s m args below meth c H locs 0 0 Q (F0 m 247 ls [])) (N := 16) (d := 1) (by decide) ?_ ?_ ?_ 16 0 _ (by omega) eR30 _ _ _ ⟨hS, hV, lv_sub hl [0, 2, 3] rfl⟩
        · intro H locs ls hP
          obtain ⟨hS, hV, hl⟩ := hP
          exact hret _ _ _ _ _ (by subst eR3 eR12 eR26 eR30; exact rfl) hS hV d_M_reduce_247
        · intro i28 s29 H locs ls hii28 hP ihi28 hxR30
          obtain ⟨hS, hV, hl⟩ := hP
          refine lv_iload hx hb d_M_reduce_220 (lv_at hl 0 rfl) ?_
          refine lv_bipush (v := nI 16) hx hb d_M_reduce_222 (by decide +kernel) ?_
          refine lv_icmp_ge (tgt := 247) hx hb d_M_reduce_224 (by decide) (fun q => absurd q (nI_ge (by omega) (by omega))) (fun _ => ?_)
          refine lv_aload_n hx hb d_M_reduce_227 rfl (lv_at hl 1 rfl) ?_
          refine lv_aload_n hx hb d_M_reduce_228 rfl (lv_at hl 2 rfl) ?_
          refine vx_gi (sx_runS (As := [.ref a0, .ref a1]) (rest := []) EE (v_M_below (X := s29) (hS.a f0) (hS.a f1) hV) w_M_215 rfl ⟨rfl, rfl⟩ ⟨Nat.le_of_ble_eq_true rfl, Nat.le_of_ble_eq_true rfl⟩ ⟨Nat.zero_le _, Nat.zero_le _⟩ hl.1 rfl (Nat.le_of_ble_eq_true rfl) d_M_reduce_229) hS (fun H locs X_ eX_ hS hV => ?_)
          subst eX_
          refine lv_if_ne (tgt := 247) hx hb d_M_reduce_232 (by decide) (fun q232_30 => ?_) (fun q232_30 => ?_)
          · skip
            have q232_30 := vx_b1 q232_30
            exact hxR30 s29 _ _ _ (vx_p q232_30 rfl) ⟨hS, hV, lv_sub hl [1, 2] rfl⟩
          · skip
            have q232_30 := vx_bf (vx_b0 q232_30)
            refine lv_aload_n hx hb d_M_reduce_235 rfl (lv_at hl 1 rfl) ?_
            refine lv_aload_n hx hb d_M_reduce_236 rfl (lv_at hl 1 rfl) ?_
            refine lv_aload_n hx hb d_M_reduce_237 rfl (lv_at hl 2 rfl) ?_
            refine vx_gv (sx_runS (As := [.ref a0, .ref a0, .ref a1]) (rest := []) EE (v_M_less (X := s29) (hS.a f0) o0 (hS.a f0) (hS.a f1) hV) w_M_219 rfl ⟨rfl, rfl⟩ ⟨Nat.le_of_ble_eq_true rfl, Nat.le_of_ble_eq_true rfl⟩ ⟨Nat.zero_le _, Nat.zero_le _⟩ hl.1 rfl (Nat.le_of_ble_eq_true rfl) d_M_reduce_238) hS (fun H locs X32 eX32 hS hV => ?_)
            refine lv_iinc (v := nI (i28 + 1)) (lv' := [(6, .int (nI (i28 + 1))), (1, .ref a0), (2, .ref a1)]) hx hb d_M_reduce_241 hl (k := 0) rfl (sx_inc _ _) (by decide) rfl (fun ls hl => ?_)
            refine lv_goto (tgt := 220) hx hb d_M_reduce_244 (by decide) ?_
            exact ihi28 X32 _ _ _ (by subst eX32; exact (vx_n q232_30 rfl)) ⟨hS, hV, lv_sub hl [0, 1, 2] rfl⟩
        · intro H locs ls hP hxx
          obtain ⟨hS, hV, hl⟩ := hP
          refine lv_iload hx hb d_M_reduce_220 (lv_at hl 0 rfl) ?_
          refine lv_bipush (v := nI 16) hx hb d_M_reduce_222 (by decide +kernel) ?_
          refine lv_icmp_ge (tgt := 247) hx hb d_M_reduce_224 (by decide) (fun _ => ?_) (fun q => absurd (nI_le (by omega) (by omega)) q)
          exact hxx _ _ _ ⟨hS, hV, lv_sub hl [1, 2] rfl⟩
    · intro i10 s11 H locs ls hii10 hP ihi10 hxR12
      obtain ⟨hS, hV, hl⟩ := hP
      refine lv_iload hx hb d_M_reduce_82 (lv_at hl 0 rfl) ?_
      refine lv_bipush (v := nI 9) hx hb d_M_reduce_84 (by decide +kernel) ?_
      refine lv_icmp_ge (tgt := 190) hx hb d_M_reduce_86 (by decide) (fun q => absurd q (nI_ge (by omega) (by omega))) (fun _ => ?_)
      refine lv_lload hx hb d_M_reduce_89 (lv_at hl 1 rfl) ?_
      refine lv_lconst (v := 0) hx hb d_M_reduce_91 (by decide +kernel) ?_
      refine W.lcmp hx hb d_M_reduce_92 ?_
      refine lv_if_le (tgt := 190) hx hb d_M_reduce_93 (by decide) (fun q93_12 => ?_) (fun q93_12 => ?_)
      · skip
        have q93_12 := (lg_cmp_le _ _).mp q93_12
        exact hxR12 (s11.1, s11.2) _ _ _ (vx_p q93_12 rfl) ⟨hS, hV, lv_sub hl [1, 2, 3, 4, 5] rfl⟩
      · skip
        have q93_12 : ¬ (s11.2 ≤ (0 : Int64)) := fun z => q93_12 ((lg_cmp_le _ _).mpr z)
        refine lv_lconst (v := 0) hx hb d_M_reduce_96 (by decide +kernel) ?_
        refine lv_lstore (lv' := [(7, .long (0 : Int64)), (6, .int (nI (i10))), (4, .long s11.2), (0, .ref o), (1, .ref a0), (2, .ref a1), (3, .ref a2)]) hx hb d_M_reduce_97 hl (by decide) rfl (fun ls hl => ?_)
        refine lv_iconst (v := nI 0) hx hb d_M_reduce_99 (by decide +kernel) ?_
        refine lv_istore (lv' := [(9, .int (nI (0))), (7, .long (0 : Int64)), (6, .int (nI (i10))), (4, .long s11.2), (0, .ref o), (1, .ref a0), (2, .ref a1), (3, .ref a2)]) hx hb d_M_reduce_100 hl (by decide) rfl (fun ls hl => ?_)
        obtain ⟨R16, eR16⟩ : ∃ t : (vM × Int64), lpU 1 (LL_M_reduce_102 r) 16 0 (s11.1, (0 : Int64)) = t := ⟨_, rfl⟩
        refine lpU_go (σ := (vM × Int64)) (P := fun i14 s15 H locs ls => sx_S g E E H0 H locs ∧ mm g H = s15.1 ∧ lv_has ls 10 [(9, .int (nI (i14))), (7, .long s15.2), (6, .int (nI (i10))), (0, .ref o), (1, .ref a0), (2, .ref a1), (3, .ref a2)]) (Wd := fun H locs ls => W p l e rm_M_reduce s m args below meth c H locs 0 0 Q (F0 m 102 ls [])) (N := 16) (d := 1) (by decide) ?_ ?_ 16 0 _ (by omega) eR16 _ _ _ ⟨hS, hV, lv_sub hl [0, 1, 2, 4, 5, 6, 7] rfl⟩
        · intro i14 s15 H locs ls hii14 hP ihi14
          obtain ⟨hS, hV, hl⟩ := hP
          refine lv_iload hx hb d_M_reduce_102 (lv_at hl 0 rfl) ?_
          refine lv_bipush (v := nI 16) hx hb d_M_reduce_104 (by decide +kernel) ?_
          refine lv_icmp_ge (tgt := 147) hx hb d_M_reduce_106 (by decide) (fun q => absurd q (nI_ge (by omega) (by omega))) (fun _ => ?_)
          refine lv_lload hx hb d_M_reduce_109 (lv_at hl 1 rfl) ?_
          refine lv_aload_n hx hb d_M_reduce_111 rfl (lv_at hl 3 rfl) ?_
          refine sx_get EE (hS.1.ob hE hM.1) rfl i_M 41 (by decide) rfl fl_M_126 rfl d_M_reduce_112 ?_
          refine lv_iload hx hb d_M_reduce_115 (lv_at hl 0 rfl) ?_
          refine vx_lald hx hb hG hS hV (mo_41 hM) (by omega) (by decide) d_M_reduce_117 ?_
          refine lv_ladd hx hb d_M_reduce_118 ?_
          refine vx_nmL (fun z17 ez17 => ?_)
          refine lv_lstore (lv' := [(7, .long z17), (9, .int (nI (i14))), (6, .int (nI (i10))), (0, .ref o), (1, .ref a0), (2, .ref a1), (3, .ref a2)]) hx hb d_M_reduce_119 hl (by decide) rfl (fun ls hl => ?_)
          refine lv_aload_n hx hb d_M_reduce_121 rfl (lv_at hl 3 rfl) ?_
          refine sx_get EE (hS.1.ob hE hM.1) rfl i_M 41 (by decide) rfl fl_M_126 rfl d_M_reduce_122 ?_
          refine lv_iload hx hb d_M_reduce_125 (lv_at hl 1 rfl) ?_
          refine lv_lload hx hb d_M_reduce_127 (lv_at hl 0 rfl) ?_
          refine lv_ldc2 (v := (65535)) hx hb hown (hts (.constantLong R_M 169 (65535)) (by decide +kernel)) d_M_reduce_129 ?_
          refine lv_land hx hb d_M_reduce_132 ?_
          refine vx_last hx hb hG hS hV (mo_41 hM) (mow_41 hW) (by omega) (by decide) d_M_reduce_133 (fun H locs X18 eX18 hS hV => ?_)
          refine lv_lload hx hb d_M_reduce_134 (lv_at hl 0 rfl) ?_
          refine lv_bipush (v := nI 16) hx hb d_M_reduce_136 (by decide +kernel) ?_
          refine lv_lshr hx hb d_M_reduce_138 rfl ?_
          refine vx_nmL (fun z19 ez19 => ?_)
          refine lv_lstore (lv' := [(7, .long z19), (9, .int (nI (i14))), (6, .int (nI (i10))), (0, .ref o), (1, .ref a0), (2, .ref a1), (3, .ref a2)]) hx hb d_M_reduce_139 hl (by decide) rfl (fun ls hl => ?_)
          refine lv_iinc (v := nI (i14 + 1)) (lv' := [(9, .int (nI (i14 + 1))), (7, .long z19), (6, .int (nI (i10))), (0, .ref o), (1, .ref a0), (2, .ref a1), (3, .ref a2)]) hx hb d_M_reduce_141 hl (k := 1) rfl (sx_inc _ _) (by decide) rfl (fun ls hl => ?_)
          refine lv_goto (tgt := 102) hx hb d_M_reduce_144 (by decide) ?_
          exact ihi14 (X18, z19) _ _ _ (by subst ez17 eX18 ez19; exact rfl) ⟨hS, hV, lv_sub hl [0, 1, 2, 3, 4, 5, 6] rfl⟩
        · intro H locs ls hP
          obtain ⟨hS, hV, hl⟩ := hP
          refine lv_iload hx hb d_M_reduce_102 (lv_at hl 0 rfl) ?_
          refine lv_bipush (v := nI 16) hx hb d_M_reduce_104 (by decide +kernel) ?_
          refine lv_icmp_ge (tgt := 147) hx hb d_M_reduce_106 (by decide) (fun _ => ?_) (fun q => absurd (nI_le (by omega) (by omega)) q)
          refine lv_lload hx hb d_M_reduce_147 (lv_at hl 1 rfl) ?_
          refine lv_lstore (lv' := [(4, .long R16.2), (9, .int (nI (16))), (7, .long R16.2), (6, .int (nI (i10))), (0, .ref o), (1, .ref a0), (2, .ref a1), (3, .ref a2)]) hx hb d_M_reduce_149 hl (by decide) rfl (fun ls hl => ?_)
          refine lv_iconst (v := nI 0) hx hb d_M_reduce_151 (by decide +kernel) ?_
          refine lv_istore (lv' := [(9, .int (nI (0))), (4, .long R16.2), (7, .long R16.2), (6, .int (nI (i10))), (0, .ref o), (1, .ref a0), (2, .ref a1), (3, .ref a2)]) hx hb d_M_reduce_152 hl (by decide) rfl (fun ls hl => ?_)
          obtain ⟨R22, eR22⟩ : ∃ t : vM, lpU 1 (LL_M_reduce_154 r R16 a2) 16 0 R16.1 = t := ⟨_, rfl⟩
          refine lpU_go (σ := vM) (P := fun i20 s21 H locs ls => sx_S g E E H0 H locs ∧ mm g H = s21 ∧ lv_has ls 10 [(9, .int (nI (i20))), (4, .long R16.2), (6, .int (nI (i10))), (0, .ref o), (1, .ref a0), (2, .ref a1), (3, .ref a2)]) (Wd := fun H locs ls => W p l e rm_M_reduce s m args below meth c H locs 0 0 Q (F0 m 154 ls [])) (N := 16) (d := 1) (by decide) ?_ ?_ 16 0 _ (by omega) eR22 _ _ _ ⟨hS, hV, lv_sub hl [0, 1, 3, 4, 5, 6, 7] rfl⟩
          · intro i20 s21 H locs ls hii20 hP ihi20
            obtain ⟨hS, hV, hl⟩ := hP
            refine lv_iload hx hb d_M_reduce_154 (lv_at hl 0 rfl) ?_
            refine lv_bipush (v := nI 16) hx hb d_M_reduce_156 (by decide +kernel) ?_
            refine lv_icmp_ge (tgt := 184) hx hb d_M_reduce_158 (by decide) (fun q => absurd q (nI_ge (by omega) (by omega))) (fun _ => ?_)
            refine lv_aload_n hx hb d_M_reduce_161 rfl (lv_at hl 3 rfl) ?_
            refine sx_get EE (hS.1.ob hE hM.1) rfl i_M 41 (by decide) rfl fl_M_126 rfl d_M_reduce_162 ?_
            refine lv_iload hx hb d_M_reduce_165 (lv_at hl 0 rfl) ?_
            refine lv_dup2_11 hx hb d_M_reduce_167 rfl rfl ?_
            refine vx_lald hx hb hG hS hV (mo_41 hM) (by omega) (by decide) d_M_reduce_168 ?_
            refine lv_lload hx hb d_M_reduce_169 (lv_at hl 1 rfl) ?_
            refine lv_aload_n hx hb d_M_reduce_171 rfl (lv_at hl 6 rfl) ?_
            refine lv_iload hx hb d_M_reduce_172 (lv_at hl 0 rfl) ?_
            refine vx_lald hx hb hG hS hV f2 (by omega) (by decide) d_M_reduce_174 ?_
            refine lv_lmul hx hb d_M_reduce_175 ?_
            refine lv_ladd hx hb d_M_reduce_176 ?_
            refine vx_last hx hb hG hS hV (mo_41 hM) (mow_41 hW) (by omega) (by decide) d_M_reduce_177 (fun H locs X23 eX23 hS hV => ?_)
            refine lv_iinc (v := nI (i20 + 1)) (lv' := [(9, .int (nI (i20 + 1))), (4, .long R16.2), (6, .int (nI (i10))), (0, .ref o), (1, .ref a0), (2, .ref a1), (3, .ref a2)]) hx hb d_M_reduce_178 hl (k := 0) rfl (sx_inc _ _) (by decide) rfl (fun ls hl => ?_)
            refine lv_goto (tgt := 154) hx hb d_M_reduce_181 (by decide) ?_
            exact ihi20 X23 _ _ _ (by subst eX23; exact rfl) ⟨hS, hV, lv_sub hl [0, 1, 2, 3, 4, 5, 6] rfl⟩
          · intro H locs ls hP
            obtain ⟨hS, hV, hl⟩ := hP
            refine lv_iload hx hb d_M_reduce_154 (lv_at hl 0 rfl) ?_
            refine lv_bipush (v := nI 16) hx hb d_M_reduce_156 (by decide +kernel) ?_
            refine lv_icmp_ge (tgt := 184) hx hb d_M_reduce_158 (by decide) (fun _ => ?_) (fun q => absurd (nI_le (by omega) (by omega)) q)
            refine lv_iinc (v := nI (i10 + 1)) (lv' := [(6, .int (nI (i10 + 1))), (9, .int (nI (16))), (4, .long R16.2), (0, .ref o), (1, .ref a0), (2, .ref a1), (3, .ref a2)]) hx hb d_M_reduce_184 hl (k := 2) rfl (sx_inc _ _) (by decide) rfl (fun ls hl => ?_)
            refine lv_goto (tgt := 82) hx hb d_M_reduce_187 (by decide) ?_
            exact ihi10 (R22, R16.2) _ _ _ (by subst eR16 eR22; exact (vx_n q93_12 rfl)) ⟨hS, hV, lv_sub hl [0, 2, 3, 4, 5, 6] rfl⟩
    · intro H locs ls hP hxx
      obtain ⟨hS, hV, hl⟩ := hP
      refine lv_iload hx hb d_M_reduce_82 (lv_at hl 0 rfl) ?_
      refine lv_bipush (v := nI 9) hx hb d_M_reduce_84 (by decide +kernel) ?_
      refine lv_icmp_ge (tgt := 190) hx hb d_M_reduce_86 (by decide) (fun _ => ?_) (fun q => absurd (nI_le (by omega) (by omega)) q)
      exact hxx _ _ _ ⟨hS, hV, lv_sub hl [1, 2, 3, 4, 5] rfl⟩
def LL_M_times_3 (r : Nat → Nat) : Nat → vM → vM := fun i_0 s_1 => (let X_2 : vM := stL s_1 (r 40) i_0 (0 : Int64); X_2)
def LL_M_times_40 (r : Nat → Nat) (i_0 : Nat) (a1 : Nat) (a2 : Nat) : Nat → (vM × Int64) → (vM × Int64) := fun i_1 s_2 => (let z_3 : Int64 := (s_2.2 + ((s_2.1.1 (r 40) (i_0 + i_1)) + ((s_2.1.1 a1 i_0) * (s_2.1.1 a2 i_1)))); let X_4 : vM := stL s_2.1 (r 40) (i_0 + i_1) (z_3 &&& (65535 : Int64)); let z_5 : Int64 := (z_3 >>> ((nI 16).toInt64 &&& 63)); (X_4, z_5))
def LL_M_times_27 (r : Nat → Nat) (a1 : Nat) (a2 : Nat) : Nat → vM → vM := fun i_0 s_1 => (let R_2 : (vM × Int64) := lpU 1 (LL_M_times_40 r i_0 a1 a2) 16 0 (s_1, (0 : Int64)); (let X_3 : vM := stL R_2.1 (r 40) (i_0 + 16) R_2.2; X_3))
def LF_M_times (X : vM) (r : Nat → Nat) (a0 : Nat) (a1 : Nat) (a2 : Nat) (a3 : Nat) (a4 : Nat) : vM := (let R3 : vM := lpU 1 (LL_M_times_3 r) 32 0 X; (let R7 : vM := lpU 1 (LL_M_times_27 r a1 a2) 16 0 R3; (let X15 : vM := (LF_M_reduce R7 r a0 a3 a4); X15)))
abbrev rm_M_times : Room := { frames := 2, cells := 0, slots := 0, locals := 56 }
set_option maxHeartbeats 4000000 in
set_option maxRecDepth 100000 in
theorem v_M_times {l : Launch} {D : va_G} {g : ClassId → FieldType → Prop} {E : Nat → Prop} {H0 : Heap} {X : vM} {o : Nat} {r : Nat → Nat} {i : Nat → Int32} {a0 : Nat} {a1 : Nat} {a2 : Nat} {a3 : Nat} {a4 : Nat} (hM : mo_ D g H0 o r i) (hE : ¬ E o) (hW : ∀ q ∈ mo_wr, E (r q.1)) (f0 : sx_A g .long H0 a0 16) (o0 : E a0) (f1 : sx_A g .long H0 a1 16) (f2 : sx_A g .long H0 a2 16) (f3 : sx_A g .long H0 a3 16) (f4 : sx_A g .long H0 a4 256) (hV : mm g H0 = X) : Met l y_M_times (.code y_M_times b_M_times 10 none :: G_) rm_M_times (sx_Pc [.ref o, .ref a0, .ref a1, .ref a2, .ref a3, .ref a4] H0 D g) (vx_Qv g E H0 (LF_M_times X r a0 a1 a2 a3 a4)) 0 0 E := by
  refine vx_mv (own := R_M) (by decide) rfl rfl rfl (Nat.le_of_ble_eq_true rfl) ?_
  intro p e s m args below meth c Q ls EE hl hret
  obtain ⟨hx, hb, hml, hown, hts, hG, hK⟩ := id EE
  have hS : sx_S g E E H0 H0 [] := sx_S.rf
  have hl : lv_has ls 10 [(0, .ref o), (1, .ref a0), (2, .ref a1), (3, .ref a2), (4, .ref a3), (5, .ref a4)] := hl
  refine lv_iconst (v := nI 0) hx hb d_M_times_0 (by decide +kernel) ?_
  refine lv_istore (lv' := [(6, .int (nI (0))), (0, .ref o), (1, .ref a0), (2, .ref a1), (3, .ref a2), (4, .ref a3), (5, .ref a4)]) hx hb d_M_times_1 hl (by decide) rfl (fun ls hl => ?_)
  obtain ⟨R3, eR3⟩ : ∃ t : vM, lpU 1 (LL_M_times_3 r) 32 0 X = t := ⟨_, rfl⟩
  refine lpU_go (σ := vM) (P := fun i1 s2 H locs ls => sx_S g E E H0 H locs ∧ mm g H = s2 ∧ lv_has ls 10 [(6, .int (nI (i1))), (0, .ref o), (1, .ref a0), (2, .ref a1), (3, .ref a2), (4, .ref a3), (5, .ref a4)]) (Wd := fun H locs ls => W p l e rm_M_times s m args below meth c H locs 0 0 Q (F0 m 3 ls [])) (N := 32) (d := 1) (by decide) ?_ ?_ 32 0 _ (by omega) eR3 _ _ _ ⟨hS, hV, lv_sub hl [0, 1, 2, 3, 4, 5, 6] rfl⟩
  · intro i1 s2 H locs ls hii1 hP ihi1
    obtain ⟨hS, hV, hl⟩ := hP
    refine lv_iload hx hb d_M_times_3 (lv_at hl 0 rfl) ?_
    refine lv_bipush (v := nI 32) hx hb d_M_times_5 (by decide +kernel) ?_
    refine lv_icmp_ge (tgt := 24) hx hb d_M_times_7 (by decide) (fun q => absurd q (nI_ge (by omega) (by omega))) (fun _ => ?_)
    refine lv_aload_n hx hb d_M_times_10 rfl (lv_at hl 1 rfl) ?_
    refine sx_get EE (hS.1.ob hE hM.1) rfl i_M 40 (by decide) rfl fl_M_123 rfl d_M_times_11 ?_
    refine lv_iload hx hb d_M_times_14 (lv_at hl 0 rfl) ?_
    refine lv_lconst (v := 0) hx hb d_M_times_16 (by decide +kernel) ?_
    refine vx_last hx hb hG hS hV (mo_40 hM) (mow_40 hW) (by omega) (by decide) d_M_times_17 (fun H locs X4 eX4 hS hV => ?_)
    refine lv_iinc (v := nI (i1 + 1)) (lv' := [(6, .int (nI (i1 + 1))), (0, .ref o), (1, .ref a0), (2, .ref a1), (3, .ref a2), (4, .ref a3), (5, .ref a4)]) hx hb d_M_times_18 hl (k := 0) rfl (sx_inc _ _) (by decide) rfl (fun ls hl => ?_)
    refine lv_goto (tgt := 3) hx hb d_M_times_21 (by decide) ?_
    exact ihi1 X4 _ _ _ (by subst eX4; exact rfl) ⟨hS, hV, lv_sub hl [0, 1, 2, 3, 4, 5, 6] rfl⟩
  · intro H locs ls hP
    obtain ⟨hS, hV, hl⟩ := hP
    refine lv_iload hx hb d_M_times_3 (lv_at hl 0 rfl) ?_
    refine lv_bipush (v := nI 32) hx hb d_M_times_5 (by decide +kernel) ?_
    refine lv_icmp_ge (tgt := 24) hx hb d_M_times_7 (by decide) (fun _ => ?_) (fun q => absurd (nI_le (by omega) (by omega)) q)
    refine lv_iconst (v := nI 0) hx hb d_M_times_24 (by decide +kernel) ?_
    refine lv_istore (lv' := [(6, .int (nI (0))), (0, .ref o), (1, .ref a0), (2, .ref a1), (3, .ref a2), (4, .ref a3), (5, .ref a4)]) hx hb d_M_times_25 hl (by decide) rfl (fun ls hl => ?_)
    obtain ⟨R7, eR7⟩ : ∃ t : vM, lpU 1 (LL_M_times_27 r a1 a2) 16 0 R3 = t := ⟨_, rfl⟩
    refine lpU_go (σ := vM) (P := fun i5 s6 H locs ls => sx_S g E E H0 H locs ∧ mm g H = s6 ∧ lv_has ls 10 [(6, .int (nI (i5))), (0, .ref o), (1, .ref a0), (2, .ref a1), (3, .ref a2), (4, .ref a3), (5, .ref a4)]) (Wd := fun H locs ls => W p l e rm_M_times s m args below meth c H locs 0 0 Q (F0 m 27 ls [])) (N := 16) (d := 1) (by decide) ?_ ?_ 16 0 _ (by omega) eR7 _ _ _ ⟨hS, hV, lv_sub hl [0, 1, 2, 3, 4, 5, 6] rfl⟩
    · intro i5 s6 H locs ls hii5 hP ihi5
      obtain ⟨hS, hV, hl⟩ := hP
      refine lv_iload hx hb d_M_times_27 (lv_at hl 0 rfl) ?_
      refine lv_bipush (v := nI 16) hx hb d_M_times_29 (by decide +kernel) ?_
      refine lv_icmp_ge (tgt := 119) hx hb d_M_times_31 (by decide) (fun q => absurd q (nI_ge (by omega) (by omega))) (fun _ => ?_)
      refine lv_lconst (v := 0) hx hb d_M_times_34 (by decide +kernel) ?_
      refine lv_lstore (lv' := [(7, .long (0 : Int64)), (6, .int (nI (i5))), (0, .ref o), (1, .ref a0), (2, .ref a1), (3, .ref a2), (4, .ref a3), (5, .ref a4)]) hx hb d_M_times_35 hl (by decide) rfl (fun ls hl => ?_)
      refine lv_iconst (v := nI 0) hx hb d_M_times_37 (by decide +kernel) ?_
      refine lv_istore (lv' := [(9, .int (nI (0))), (7, .long (0 : Int64)), (6, .int (nI (i5))), (0, .ref o), (1, .ref a0), (2, .ref a1), (3, .ref a2), (4, .ref a3), (5, .ref a4)]) hx hb d_M_times_38 hl (by decide) rfl (fun ls hl => ?_)
      obtain ⟨R10, eR10⟩ : ∃ t : (vM × Int64), lpU 1 (LL_M_times_40 r i5 a1 a2) 16 0 (s6, (0 : Int64)) = t := ⟨_, rfl⟩
      refine lpU_go (σ := (vM × Int64)) (P := fun i8 s9 H locs ls => sx_S g E E H0 H locs ∧ mm g H = s9.1 ∧ lv_has ls 10 [(9, .int (nI (i8))), (7, .long s9.2), (6, .int (nI (i5))), (0, .ref o), (1, .ref a0), (2, .ref a1), (3, .ref a2), (4, .ref a3), (5, .ref a4)]) (Wd := fun H locs ls => W p l e rm_M_times s m args below meth c H locs 0 0 Q (F0 m 40 ls [])) (N := 16) (d := 1) (by decide) ?_ ?_ 16 0 _ (by omega) eR10 _ _ _ ⟨hS, hV, lv_sub hl [0, 1, 2, 3, 4, 5, 6, 7, 8] rfl⟩
      · intro i8 s9 H locs ls hii8 hP ihi8
        obtain ⟨hS, hV, hl⟩ := hP
        refine lv_iload hx hb d_M_times_40 (lv_at hl 0 rfl) ?_
        refine lv_bipush (v := nI 16) hx hb d_M_times_42 (by decide +kernel) ?_
        refine lv_icmp_ge (tgt := 101) hx hb d_M_times_44 (by decide) (fun q => absurd q (nI_ge (by omega) (by omega))) (fun _ => ?_)
        refine lv_lload hx hb d_M_times_47 (lv_at hl 1 rfl) ?_
        refine lv_aload_n hx hb d_M_times_49 rfl (lv_at hl 3 rfl) ?_
        refine sx_get EE (hS.1.ob hE hM.1) rfl i_M 40 (by decide) rfl fl_M_123 rfl d_M_times_50 ?_
        refine lv_iload hx hb d_M_times_53 (lv_at hl 2 rfl) ?_
        refine lv_iload hx hb d_M_times_55 (lv_at hl 0 rfl) ?_
        refine lv_iadd hx hb d_M_times_57 ?_
        refine sx_ti (y := nI (i5 + i8)) (nI_add _ _) ?_
        refine vx_lald hx hb hG hS hV (mo_40 hM) (by omega) (by decide) d_M_times_58 ?_
        refine lv_aload_n hx hb d_M_times_59 rfl (lv_at hl 5 rfl) ?_
        refine lv_iload hx hb d_M_times_60 (lv_at hl 2 rfl) ?_
        refine vx_lald hx hb hG hS hV f1 (by omega) (by decide) d_M_times_62 ?_
        refine lv_aload_n hx hb d_M_times_63 rfl (lv_at hl 6 rfl) ?_
        refine lv_iload hx hb d_M_times_64 (lv_at hl 0 rfl) ?_
        refine vx_lald hx hb hG hS hV f2 (by omega) (by decide) d_M_times_66 ?_
        refine lv_lmul hx hb d_M_times_67 ?_
        refine lv_ladd hx hb d_M_times_68 ?_
        refine lv_ladd hx hb d_M_times_69 ?_
        refine vx_nmL (fun z11 ez11 => ?_)
        refine lv_lstore (lv' := [(7, .long z11), (9, .int (nI (i8))), (6, .int (nI (i5))), (0, .ref o), (1, .ref a0), (2, .ref a1), (3, .ref a2), (4, .ref a3), (5, .ref a4)]) hx hb d_M_times_70 hl (by decide) rfl (fun ls hl => ?_)
        refine lv_aload_n hx hb d_M_times_72 rfl (lv_at hl 3 rfl) ?_
        refine sx_get EE (hS.1.ob hE hM.1) rfl i_M 40 (by decide) rfl fl_M_123 rfl d_M_times_73 ?_
        refine lv_iload hx hb d_M_times_76 (lv_at hl 2 rfl) ?_
        refine lv_iload hx hb d_M_times_78 (lv_at hl 1 rfl) ?_
        refine lv_iadd hx hb d_M_times_80 ?_
        refine sx_ti (y := nI (i5 + i8)) (nI_add _ _) ?_
        refine lv_lload hx hb d_M_times_81 (lv_at hl 0 rfl) ?_
        refine lv_ldc2 (v := (65535)) hx hb hown (hts (.constantLong R_M 169 (65535)) (by decide +kernel)) d_M_times_83 ?_
        refine lv_land hx hb d_M_times_86 ?_
        refine vx_last hx hb hG hS hV (mo_40 hM) (mow_40 hW) (by omega) (by decide) d_M_times_87 (fun H locs X12 eX12 hS hV => ?_)
        refine lv_lload hx hb d_M_times_88 (lv_at hl 0 rfl) ?_
        refine lv_bipush (v := nI 16) hx hb d_M_times_90 (by decide +kernel) ?_
        refine lv_lshr hx hb d_M_times_92 rfl ?_
        refine vx_nmL (fun z13 ez13 => ?_)
        refine lv_lstore (lv' := [(7, .long z13), (9, .int (nI (i8))), (6, .int (nI (i5))), (0, .ref o), (1, .ref a0), (2, .ref a1), (3, .ref a2), (4, .ref a3), (5, .ref a4)]) hx hb d_M_times_93 hl (by decide) rfl (fun ls hl => ?_)
        refine lv_iinc (v := nI (i8 + 1)) (lv' := [(9, .int (nI (i8 + 1))), (7, .long z13), (6, .int (nI (i5))), (0, .ref o), (1, .ref a0), (2, .ref a1), (3, .ref a2), (4, .ref a3), (5, .ref a4)]) hx hb d_M_times_95 hl (k := 1) rfl (sx_inc _ _) (by decide) rfl (fun ls hl => ?_)
        refine lv_goto (tgt := 40) hx hb d_M_times_98 (by decide) ?_
        exact ihi8 (X12, z13) _ _ _ (by subst ez11 eX12 ez13; exact rfl) ⟨hS, hV, lv_sub hl [0, 1, 2, 3, 4, 5, 6, 7, 8] rfl⟩
      · intro H locs ls hP
        obtain ⟨hS, hV, hl⟩ := hP
        refine lv_iload hx hb d_M_times_40 (lv_at hl 0 rfl) ?_
        refine lv_bipush (v := nI 16) hx hb d_M_times_42 (by decide +kernel) ?_
        refine lv_icmp_ge (tgt := 101) hx hb d_M_times_44 (by decide) (fun _ => ?_) (fun q => absurd (nI_le (by omega) (by omega)) q)
        refine lv_aload_n hx hb d_M_times_101 rfl (lv_at hl 3 rfl) ?_
        refine sx_get EE (hS.1.ob hE hM.1) rfl i_M 40 (by decide) rfl fl_M_123 rfl d_M_times_102 ?_
        refine lv_iload hx hb d_M_times_105 (lv_at hl 2 rfl) ?_
        refine lv_bipush (v := nI 16) hx hb d_M_times_107 (by decide +kernel) ?_
        refine lv_iadd hx hb d_M_times_109 ?_
        refine sx_ti (y := nI (i5 + 16)) (nI_add _ _) ?_
        refine lv_lload hx hb d_M_times_110 (lv_at hl 1 rfl) ?_
        refine vx_last hx hb hG hS hV (mo_40 hM) (mow_40 hW) (by omega) (by decide) d_M_times_112 (fun H locs X14 eX14 hS hV => ?_)
        refine lv_iinc (v := nI (i5 + 1)) (lv' := [(6, .int (nI (i5 + 1))), (9, .int (nI (16))), (7, .long R10.2), (0, .ref o), (1, .ref a0), (2, .ref a1), (3, .ref a2), (4, .ref a3), (5, .ref a4)]) hx hb d_M_times_113 hl (k := 2) rfl (sx_inc _ _) (by decide) rfl (fun ls hl => ?_)
        refine lv_goto (tgt := 27) hx hb d_M_times_116 (by decide) ?_
        exact ihi5 X14 _ _ _ (by subst eR10 eX14; exact rfl) ⟨hS, hV, lv_sub hl [0, 3, 4, 5, 6, 7, 8] rfl⟩
    · intro H locs ls hP
      obtain ⟨hS, hV, hl⟩ := hP
      refine lv_iload hx hb d_M_times_27 (lv_at hl 0 rfl) ?_
      refine lv_bipush (v := nI 16) hx hb d_M_times_29 (by decide +kernel) ?_
      refine lv_icmp_ge (tgt := 119) hx hb d_M_times_31 (by decide) (fun _ => ?_) (fun q => absurd (nI_le (by omega) (by omega)) q)
      refine lv_aload_n hx hb d_M_times_119 rfl (lv_at hl 1 rfl) ?_
      refine lv_aload_n hx hb d_M_times_120 rfl (lv_at hl 2 rfl) ?_
      refine lv_aload hx hb d_M_times_121 (lv_at hl 5 rfl) ?_
      refine lv_aload hx hb d_M_times_123 (lv_at hl 6 rfl) ?_
      refine vx_gv (sx_runV (As := [.ref a0, .ref a3, .ref a4]) (rest := []) EE (hS.1.ob hE hM.1) rfl rfl (v_M_reduce (X := R7) (hM.kept hS.1 hE) hE hW (hS.a f0) o0 (hS.a f3) (hS.a f4) hV) w_M_225 rfl ⟨rfl, rfl⟩ ⟨Nat.le_of_ble_eq_true rfl, Nat.le_of_ble_eq_true rfl⟩ ⟨Nat.zero_le _, Nat.zero_le _⟩ hl.1 rfl (Nat.le_of_ble_eq_true rfl) d_M_times_125) hS (fun H locs X15 eX15 hS hV => ?_)
      exact hret _ _ _ _ _ (by subst eR3 eR7 eX15; exact rfl) hS hV d_M_times_128
