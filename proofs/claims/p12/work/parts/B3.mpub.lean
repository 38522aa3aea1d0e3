def LL_M_agree_57 (r : Nat → Nat) : Nat → vM → vM := fun i_0 s_1 => (let X_2 : vM := stI s_1 (r 35) i_0 ((s_1.2 (r 1) i_0).toInt8.toInt32); X_2)
def LF_M_agree_a (X : vM) (r : Nat → Nat) (v0 : Nat) (ms : Nat) (rs : Nat) (kc : Nat) : vM × Bool := (let X1 : vM := (LF_M_none X r (nI v0) 32 ms rs kc).1; let X5 : vM := (LF_M_clamped X1 r (r 31) (r 4) (32 * v0)); let R8 : vM := lpU 1 (LL_M_agree_57 r) 32 0 X5; (let X10 : vM := (LF_M_ladder R8 r); let X11 : vM := (LF_M_tell X10 r (r 35) 0 32 0 ms rs kc); let J14 : vM := if (LF_M_zero X11 (r 18)) = true then (let X13 : vM := stI X11 (r 9) 5 ((X11.2 (r 9) 5) + (nI 1)); X13) else X11; (let J17 : Bool := if (LF_M_zero J14 (r 18)) = true then false else true; (J14, J17))))
abbrev rm_M_agree_a : Room := { frames := 5, cells := 0, slots := 0, locals := 131 }
set_option maxHeartbeats 4000000 in
set_option maxRecDepth 100000 in
theorem v_M_agree_a {l : Launch} {D : va_G} {g : ClassId → FieldType → Prop} {E : Nat → Prop} {H0 : Heap} {X : vM} {o : Nat} {r : Nat → Nat} {th : Int32} {ms : Nat} {rs : Nat} {kc : Nat} {v0 : Nat} (hM0 : va_P D classes [(o, .inr (0, mo_fs r (mi th (nI 32) (nI ms) (nI rs) (nI kc))))] H0) (eM : E o) (hA : ∀ q ∈ mo_arr, sx_A g q.2.1 H0 (r q.1) q.2.2) (hW : ∀ q ∈ mo_arr, E (r q.1))  (h_ms : ms ≤ 65536) (h_rs : rs ≤ 64) (h_kc : kc ≤ 100) (hw : v0 < kc) (hV : mm g H0 = X) : Met l y_M_agree (.code y_M_agree b_M_agree 3 (some .boolean) :: G_) rm_M_agree_a (sx_Pc [.ref o, .int (nI v0)] H0 D g) (vx_QiP g E H0 (LF_M_agree_a X r v0 ms rs kc).1 (nI (LF_M_agree_a X r v0 ms rs kc).2.toNat) (fun H => va_P D classes [(o, .inr (0, mo_fs r (mi (nI 0) (nI 0) (nI ms) (nI 32) (nI kc))))] H)) 0 0 E := by
  refine vx_mzP (own := R_M) (by decide) rfl rfl rfl (Nat.le_of_ble_eq_true rfl) ?_
  intro p e s m args below meth c Q ls EE hl hret
  obtain ⟨hx, hb, hml, hown, hts, hG, hK⟩ := id EE
  have hS : sx_S g E E H0 H0 [] := sx_S.rf
  have hl : lv_has ls 3 [(0, .ref o), (1, .int (nI (v0)))] := hl
  refine lv_aload_n hx hb d_M_agree_0 rfl (lv_at hl 0 rfl) ?_
  refine lv_aload_n hx hb d_M_agree_1 rfl (lv_at hl 0 rfl) ?_
  refine lv_iload_n hx hb d_M_agree_2 rfl (lv_at hl 1 rfl) ?_
  refine vx_giP (sx_runV (As := [.int (nI (v0))]) (rest := [.ref o]) EE hM0 rfl rfl (v_M_none (X := X) hM0 eM (fun q hq => hS.1.2.2.1 _ _ _ (hA q hq)) hW (h_tp := by omega) (h_ms := by omega) (h_rs := by omega) (h_kc := by omega) hV) w_M_328 rfl ⟨rfl, rfl⟩ ⟨Nat.le_of_ble_eq_true rfl, Nat.le_of_ble_eq_true rfl⟩ ⟨Nat.zero_le _, Nat.zero_le _⟩ hl.1 rfl (Nat.le_of_ble_eq_true rfl) d_M_agree_3) (fun z_ h_ => h_) hS (fun H locs X1 eX1 hM0 hS hV hJ_ => ?_)
  refine sx_ti (y := nI 0) (by rw [show (LF_M_none _ r (nI v0) 32 ms rs kc).2 = false from (mn_f (by omega) (by omega))]; rfl) ?_
  have hM0 : va_P D classes [(o, .inr (0, mo_fs r (mi th (nI 32) (nI ms) (nI rs) (nI kc))))] H := hM0
  refine lv_if_eq (tgt := 13) hx hb d_M_agree_6 (by decide) (fun _ => ?_) (fun q6_1 => absurd (show 0 = 0 by decide) (by have q6_1 : ¬ (0 = 0) := fun z => q6_1 ((nI_eq (a := 0) (b := 0) (by omega) (by omega)).mpr z); exact q6_1))
  refine lv_aload_n hx hb d_M_agree_13 rfl (lv_at hl 0 rfl) ?_
  refine sx_get EE hM0 rfl i_M 5 (by decide) rfl fl_M_315 rfl d_M_agree_14 ?_
  refine W.eq (g2 := F0 m 17 ls [.int (nI (32)), .ref o]) rfl ?_
  refine lv_bipush (v := nI 32) hx hb d_M_agree_17 (by decide +kernel) ?_
  refine lv_icmp_eq (tgt := 26) hx hb d_M_agree_19 (by decide) (fun _ => ?_) (fun q19_2 => absurd (show 32 = 32 by decide) (by have q19_2 : ¬ (32 = 32) := fun z => q19_2 ((nI_eq (a := 32) (b := 32) (by omega) (by omega)).mpr z); exact q19_2))
  refine lv_iconst (v := nI 0) hx hb d_M_agree_26 (by decide +kernel) ?_
  have h0_ := hM0
  refine sx_put EE hM0 rfl i_M t_M tok_M n_M 0 (by decide) rfl fl_M_211 (ty := .int) (by decide +kernel) rfl rfl (Nat.le_of_ble_eq_true rfl) eM hS d_M_agree_27 (fun H locs hM0 hJ_ hs_ hS => ?_)
  have hM0 : va_P D classes [(o, .inr (0, mo_fs r (mi (nI 0) (nI 32) (nI ms) (nI rs) (nI kc))))] H := hM0
  have hV := (vx_obj hG hK.1 h0_ hM0 hs_).trans hV
  refine lv_aload_n hx hb d_M_agree_30 rfl (lv_at hl 0 rfl) ?_
  refine sx_get EE hM0 rfl i_M 0 (by decide) rfl fl_M_211 rfl d_M_agree_31 ?_
  refine W.eq (g2 := F0 m 34 ls [.int (nI (0))]) rfl ?_
  refine lv_if_le (tgt := 39) hx hb d_M_agree_34 (by decide) (fun _ => ?_) (fun q34_3 => absurd (show 0 ≤ 0 by decide) (by have q34_3 : ¬ (0 ≤ 0) := fun z => q34_3 ((nI_leI (a := 0) (b := 0) (by omega) (by omega)).mpr z); exact q34_3))
  refine lv_aload_n hx hb d_M_agree_39 rfl (lv_at hl 0 rfl) ?_
  refine lv_aload_n hx hb d_M_agree_40 rfl (lv_at hl 0 rfl) ?_
  refine sx_get EE hM0 rfl i_M 31 (by decide) rfl fl_M_91 rfl d_M_agree_41 ?_
  refine W.eq (g2 := F0 m 44 ls [.ref (r 31), .ref o]) rfl ?_
  refine lv_aload_n hx hb d_M_agree_44 rfl (lv_at hl 0 rfl) ?_
  refine sx_get EE hM0 rfl i_M 4 (by decide) rfl fl_M_20 rfl d_M_agree_45 ?_
  refine W.eq (g2 := F0 m 48 ls [.ref (r 4), .ref (r 31), .ref o]) rfl ?_
  refine lv_bipush (v := nI 32) hx hb d_M_agree_48 (by decide +kernel) ?_
  refine lv_iload_n hx hb d_M_agree_50 rfl (lv_at hl 1 rfl) ?_
  refine lv_imul hx hb d_M_agree_51 ?_
  refine sx_ti (y := nI (32 * v0)) (pk_mul _ _) ?_
  have hA_ : ∀ q ∈ mo_arr, sx_A g q.2.1 H (r q.1) q.2.2 := fun q hq => hS.1.2.2.1 _ _ _ (hA q hq)
  refine vx_gvJ (sx_runV (As := [.ref (r 31), .ref (r 4), .int (nI (32 * v0))]) (rest := []) EE hM0 rfl rfl (v_M_clamped (E := cutE E o) (X := X1) ⟨hM0, hA_⟩ (fun z_ => z_.2 rfl) (mo_cut hG hK.1 hM0 hA_ hW) (hS.a (moA_31 hA)) ⟨(moW_31 hW), vx_ne hG hK.1 hM0 (hS.a (moA_31 hA))⟩ (hS.a (moA_4 hA)) (by omega) (by omega) hV) w_M_298 rfl ⟨rfl, rfl⟩ ⟨Nat.le_of_ble_eq_true rfl, Nat.le_of_ble_eq_true rfl⟩ ⟨Nat.zero_le _, Nat.zero_le _⟩ hl.1 rfl (Nat.le_of_ble_eq_true rfl) d_M_agree_52) (fun z_ h_ => h_.1) hS (fun H locs X5 eX5 hS hV hJ_ => ?_)
  have hM0 := hJ_.ob (fun z_ => z_.2 rfl) hM0
  refine lv_iconst (v := nI 0) hx hb d_M_agree_55 (by decide +kernel) ?_
  refine lv_istore_n (lv' := [(2, .int (nI (0))), (0, .ref o), (1, .int (nI (v0)))]) hx hb d_M_agree_56 rfl hl (by decide) rfl (fun ls hl => ?_)
  obtain ⟨R8, eR8⟩ : ∃ t : vM, lpU 1 (LL_M_agree_57 r) 32 0 X5 = t := ⟨_, rfl⟩
  refine lpU_go (σ := vM) (P := fun i6 s7 H locs ls => sx_S g E E H0 H locs ∧ mm g H = s7 ∧ va_P D classes [(o, .inr (0, mo_fs r (mi (nI 0) (nI 32) (nI ms) (nI rs) (nI kc))))] H ∧ lv_has ls 3 [(2, .int (nI (i6))), (0, .ref o)]) (Wd := fun H locs ls => W p l e rm_M_agree_a s m args below meth c H locs 0 0 Q (F0 m 57 ls [])) (N := 32) (d := 1) (by decide) ?_ ?_ 32 0 _ (by omega) eR8 _ _ _ ⟨hS, hV, hM0, lv_sub hl [0, 1] rfl⟩
  · intro i6 s7 H locs ls hii6 hP ihi6
    obtain ⟨hS, hV, hM0, hl⟩ := hP
    refine lv_iload_n hx hb d_M_agree_57 rfl (lv_at hl 0 rfl) ?_
    refine lv_bipush (v := nI 32) hx hb d_M_agree_58 (by decide +kernel) ?_
    refine lv_icmp_ge (tgt := 81) hx hb d_M_agree_60 (by decide) (fun q => absurd q (nI_ge (by omega) (by omega))) (fun _ => ?_)
    refine lv_aload_n hx hb d_M_agree_63 rfl (lv_at hl 1 rfl) ?_
    refine sx_get EE hM0 rfl i_M 35 (by decide) rfl fl_M_103 rfl d_M_agree_64 ?_
    refine W.eq (g2 := F0 m 67 ls [.ref (r 35)]) rfl ?_
    refine lv_iload_n hx hb d_M_agree_67 rfl (lv_at hl 0 rfl) ?_
    refine lv_aload_n hx hb d_M_agree_68 rfl (lv_at hl 1 rfl) ?_
    refine sx_get EE hM0 rfl i_M 1 (by decide) rfl fl_M_8 rfl d_M_agree_69 ?_
    refine W.eq (g2 := F0 m 72 ls [.ref (r 1), .int (nI (i6)), .ref (r 35)]) rfl ?_
    refine lv_iload_n hx hb d_M_agree_72 rfl (lv_at hl 0 rfl) ?_
    refine vx_bald hx hb hG hS hV (moA_1 hA) (by omega) (by decide) d_M_agree_73 ?_
    refine vx_bastJ hx hb hG hK.1 hS hV (moA_35 hA) (moW_35 hW) (by omega) (by decide) d_M_agree_74 (fun H locs X9 eX9 hS hV hO => ?_)
    have hM0 := hO _ _ hM0
    refine lv_iinc (v := nI (i6 + 1)) (lv' := [(2, .int (nI (i6 + 1))), (0, .ref o)]) hx hb d_M_agree_75 hl (k := 0) rfl (sx_inc _ _) (by decide) rfl (fun ls hl => ?_)
    refine lv_goto (tgt := 57) hx hb d_M_agree_78 (by decide) ?_
    exact ihi6 X9 _ _ _ (by subst eX9; exact rfl) ⟨hS, hV, hM0, lv_sub hl [0, 1] rfl⟩
  · intro H locs ls hP
    obtain ⟨hS, hV, hM0, hl⟩ := hP
    refine lv_iload_n hx hb d_M_agree_57 rfl (lv_at hl 0 rfl) ?_
    refine lv_bipush (v := nI 32) hx hb d_M_agree_58 (by decide +kernel) ?_
    refine lv_icmp_ge (tgt := 81) hx hb d_M_agree_60 (by decide) (fun _ => ?_) (fun q => absurd (nI_le (by omega) (by omega)) q)
    refine lv_aload_n hx hb d_M_agree_81 rfl (lv_at hl 1 rfl) ?_
    refine lv_iconst (v := nI 0) hx hb d_M_agree_82 (by decide +kernel) ?_
    have h0_ := hM0
    refine sx_put EE hM0 rfl i_M t_M tok_M n_M 5 (by decide) rfl fl_M_315 (ty := .int) (by decide +kernel) rfl rfl (Nat.le_of_ble_eq_true rfl) eM hS d_M_agree_83 (fun H locs hM0 hJ_ hs_ hS => ?_)
    have hM0 : va_P D classes [(o, .inr (0, mo_fs r (mi (nI 0) (nI 0) (nI ms) (nI rs) (nI kc))))] H := hM0
    have hV := (vx_obj hG hK.1 h0_ hM0 hs_).trans hV
    refine lv_aload_n hx hb d_M_agree_86 rfl (lv_at hl 1 rfl) ?_
    have hA_ : ∀ q ∈ mo_arr, sx_A g q.2.1 H (r q.1) q.2.2 := fun q hq => hS.1.2.2.1 _ _ _ (hA q hq)
    refine vx_gvJ (sx_runV (As := []) (rest := []) EE hM0 rfl rfl (v_M_ladder (E := cutE E o) (X := R8) ⟨hM0, hA_⟩ (fun z_ => z_.2 rfl) (mo_cut hG hK.1 hM0 hA_ hW) hV) w_M_340 rfl ⟨rfl, rfl⟩ ⟨Nat.le_of_ble_eq_true rfl, Nat.le_of_ble_eq_true rfl⟩ ⟨Nat.zero_le _, Nat.zero_le _⟩ hl.1 rfl (Nat.le_of_ble_eq_true rfl) d_M_agree_87) (fun z_ h_ => h_.1) hS (fun H locs X10 eX10 hS hV hJ_ => ?_)
    have hM0 := hJ_.ob (fun z_ => z_.2 rfl) hM0
    refine lv_aload_n hx hb d_M_agree_90 rfl (lv_at hl 1 rfl) ?_
    refine lv_aload_n hx hb d_M_agree_91 rfl (lv_at hl 1 rfl) ?_
    refine sx_get EE hM0 rfl i_M 35 (by decide) rfl fl_M_103 rfl d_M_agree_92 ?_
    refine W.eq (g2 := F0 m 95 ls [.ref (r 35), .ref o]) rfl ?_
    refine lv_iconst (v := nI 0) hx hb d_M_agree_95 (by decide +kernel) ?_
    refine lv_bipush (v := nI 32) hx hb d_M_agree_96 (by decide +kernel) ?_
    refine vx_gvP (sx_runV (As := [.ref (r 35), .int (nI (0)), .int (nI (32))]) (rest := []) EE hM0 rfl rfl (v_M_tell (X := X10) hM0 eM (fun q hq => hS.1.2.2.1 _ _ _ (hA q hq)) hW (hS.a (moA_35 hA)) (h_tp := by omega) (h_ms := by omega) (h_rs := by omega) (h_kc := by omega) (by omega) (by omega) hV) w_M_336 rfl ⟨rfl, rfl⟩ ⟨Nat.le_of_ble_eq_true rfl, Nat.le_of_ble_eq_true rfl⟩ ⟨Nat.zero_le _, Nat.zero_le _⟩ hl.1 rfl (Nat.le_of_ble_eq_true rfl) d_M_agree_98) (fun z_ h_ => h_) hS (fun H locs X11 eX11 hM0 hS hV hJ_ => ?_)
    have hM0 : va_P D classes [(o, .inr (0, mo_fs r (mi (nI 0) (nI 0) (nI ms) (nI 32) (nI kc))))] H := hM0
    refine lv_aload_n hx hb d_M_agree_101 rfl (lv_at hl 1 rfl) ?_
    refine sx_get EE hM0 rfl i_M 18 (by decide) rfl fl_M_52 rfl d_M_agree_102 ?_
    refine W.eq (g2 := F0 m 105 ls [.ref (r 18)]) rfl ?_
    refine vx_giJ (sx_runS (As := [.ref (r 18)]) (rest := []) EE (v_M_zero (E := (cutE E o)) (X := X11) (hS.a (moA_18 hA)) hV) w_M_228 rfl ⟨rfl, rfl⟩ ⟨Nat.le_of_ble_eq_true rfl, Nat.le_of_ble_eq_true rfl⟩ ⟨Nat.zero_le _, Nat.zero_le _⟩ hl.1 rfl (Nat.le_of_ble_eq_true rfl) d_M_agree_105) (fun z_ h_ => h_.1) hS (fun H locs X_ eX_ hS hV hJ_ => ?_)
    have hM0 := hJ_.ob (fun z_ => z_.2 rfl) hM0
    subst eX_
    have jn121_14 : ∀ (J14 : vM) (H : Heap) (locs : List Loc) (ls : Array Slot), (if (LF_M_zero X11 (r 18)) = true then (let X13 : vM := stI X11 (r 9) 5 ((X11.2 (r 9) 5) + (nI 1)); X13) else X11) = J14 → sx_S g E E H0 H locs → mm g H = J14 → va_P D classes [(o, .inr (0, mo_fs r (mi (nI 0) (nI 0) (nI ms) (nI 32) (nI kc))))] H → lv_has ls 3 [(2, .int (nI (32))), (0, .ref o)] → W p l e rm_M_agree_a s m args below meth c H locs 0 0 Q (F0 m 121 ls []) := by
      intro J14 H locs ls eJ14 hS hV hM0 hl
      refine lv_aload_n hx hb d_M_agree_121 rfl (lv_at hl 1 rfl) ?_
      refine sx_get EE hM0 rfl i_M 18 (by decide) rfl fl_M_52 rfl d_M_agree_122 ?_
      refine W.eq (g2 := F0 m 125 ls [.ref (r 18)]) rfl ?_
      refine vx_giJ (sx_runS (As := [.ref (r 18)]) (rest := []) EE (v_M_zero (E := (cutE E o)) (X := J14) (hS.a (moA_18 hA)) hV) w_M_228 rfl ⟨rfl, rfl⟩ ⟨Nat.le_of_ble_eq_true rfl, Nat.le_of_ble_eq_true rfl⟩ ⟨Nat.zero_le _, Nat.zero_le _⟩ hl.1 rfl (Nat.le_of_ble_eq_true rfl) d_M_agree_125) (fun z_ h_ => h_.1) hS (fun H locs X_ eX_ hS hV hJ_ => ?_)
      have hM0 := hJ_.ob (fun z_ => z_.2 rfl) hM0
      subst eX_
      have jn136_17 : ∀ (J17 : Bool) (H : Heap) (locs : List Loc) (ls : Array Slot), (if (LF_M_zero J14 (r 18)) = true then false else true) = J17 → sx_S g E E H0 H locs → mm g H = J14 → va_P D classes [(o, .inr (0, mo_fs r (mi (nI 0) (nI 0) (nI ms) (nI 32) (nI kc))))] H → lv_has ls 3 [(2, .int (nI (32))), (0, .ref o)] → W p l e rm_M_agree_a s m args below meth c H locs 0 0 Q (F0 m 136 ls [.int (nI ((J17).toNat))]) := by
        intro J17 H locs ls eJ17 hS hV hM0 hl
        have hp : LF_M_agree_a X r v0 ms rs kc = (J14, J17) := (by subst eX1 eX5 eR8 eX10 eX11 eJ14 eJ17; exact rfl)
        exact hret _ _ _ _ _ J17 _ (congrArg Prod.fst hp :) (congrArg Prod.snd hp :) rfl hM0 hS hV d_M_agree_136
      refine lv_if_ne (tgt := 135) hx hb d_M_agree_128 (by decide) (fun q128_15 => ?_) (fun q128_15 => ?_)
      · skip
        have q128_15 := vx_b1 q128_15
        refine lv_iconst (v := nI 0) hx hb d_M_agree_135 (by decide +kernel) ?_
        exact jn136_17 false _ _ _ (vx_p q128_15 rfl) hS hV hM0 (lv_sub hl [0, 1] rfl)
      · skip
        have q128_15 := vx_bf (vx_b0 q128_15)
        refine lv_iconst (v := nI 1) hx hb d_M_agree_131 (by decide +kernel) ?_
        refine lv_goto (tgt := 136) hx hb d_M_agree_132 (by decide) ?_
        exact jn136_17 true _ _ _ (vx_n q128_15 rfl) hS hV hM0 (lv_sub hl [0, 1] rfl)
    refine lv_if_eq (tgt := 121) hx hb d_M_agree_108 (by decide) (fun q108_11 => ?_) (fun q108_11 => ?_)
    · skip
      have q108_11 := vx_bf (vx_b0 q108_11)
      exact jn121_14 X11 _ _ _ (vx_n q108_11 rfl) hS hV hM0 (lv_sub hl [0, 1] rfl)
    · skip
      have q108_11 := vx_b1 q108_11
      refine lv_aload_n hx hb d_M_agree_111 rfl (lv_at hl 1 rfl) ?_
      refine sx_get EE hM0 rfl i_M 9 (by decide) rfl fl_M_23 rfl d_M_agree_112 ?_
      refine W.eq (g2 := F0 m 115 ls [.ref (r 9)]) rfl ?_
      refine lv_iconst (v := nI 5) hx hb d_M_agree_115 (by decide +kernel) ?_
      refine lv_dup2_11 hx hb d_M_agree_116 rfl rfl ?_
      refine vx_iald hx hb hG hS hV (moA_9 hA) (by omega) (by decide) d_M_agree_117 ?_
      refine lv_iconst (v := nI 1) hx hb d_M_agree_118 (by decide +kernel) ?_
      refine lv_iadd hx hb d_M_agree_119 ?_
      refine vx_iastJ hx hb hG hK.1 hS hV (moA_9 hA) (moW_9 hW) (by omega) (by decide) d_M_agree_120 (fun H locs X19 eX19 hS hV hO => ?_)
      have hM0 := hO _ _ hM0
      exact jn121_14 X19 _ _ _ (by subst eX19; exact (vx_p q108_11 rfl)) hS hV hM0 (lv_sub hl [0, 1] rfl)
def LF_M_agree_b (X : vM) (r : Nat → Nat) (v0 : Int32) (tp : Nat) (ms : Nat) (rs : Nat) (kc : Nat) : vM × Bool := (let X1 : vM := (LF_M_none X r v0 tp ms rs kc).1; (X1, false))
abbrev rm_M_agree_b : Room := { frames := 1, cells := 0, slots := 0, locals := 21 }
set_option maxHeartbeats 4000000 in
set_option maxRecDepth 100000 in
theorem v_M_agree_b {l : Launch} {D : va_G} {g : ClassId → FieldType → Prop} {E : Nat → Prop} {H0 : Heap} {X : vM} {o : Nat} {r : Nat → Nat} {th : Int32} {tp : Nat} {ms : Nat} {rs : Nat} {kc : Nat} {v0 : Int32} (hM0 : va_P D classes [(o, .inr (0, mo_fs r (mi th (nI tp) (nI ms) (nI rs) (nI kc))))] H0) (eM : E o) (hA : ∀ q ∈ mo_arr, sx_A g q.2.1 H0 (r q.1) q.2.2) (hW : ∀ q ∈ mo_arr, E (r q.1))  (h_tp : tp ≤ 65536) (h_ms : ms ≤ 65536) (h_rs : rs ≤ 64) (h_kc : kc ≤ 100) (hn : (LF_M_none X r v0 tp ms rs kc).2 = true) (hV : mm g H0 = X) : Met l y_M_agree (.code y_M_agree b_M_agree 3 (some .boolean) :: G_) rm_M_agree_b (sx_Pc [.ref o, .int v0] H0 D g) (vx_QiP g E H0 (LF_M_agree_b X r v0 tp ms rs kc).1 (nI (LF_M_agree_b X r v0 tp ms rs kc).2.toNat) (fun H => va_P D classes [(o, .inr (0, mo_fs r (mi (nI 1) (nI tp) (nI ms) (nI rs) (nI kc))))] H)) 0 0 E := by
  refine vx_mzP (own := R_M) (by decide) rfl rfl rfl (Nat.le_of_ble_eq_true rfl) ?_
  intro p e s m args below meth c Q ls EE hl hret
  obtain ⟨hx, hb, hml, hown, hts, hG, hK⟩ := id EE
  have hS : sx_S g E E H0 H0 [] := sx_S.rf
  have hl : lv_has ls 3 [(0, .ref o), (1, .int v0)] := hl
  refine lv_aload_n hx hb d_M_agree_0 rfl (lv_at hl 0 rfl) ?_
  refine lv_aload_n hx hb d_M_agree_1 rfl (lv_at hl 0 rfl) ?_
  refine lv_iload_n hx hb d_M_agree_2 rfl (lv_at hl 1 rfl) ?_
  refine vx_giP (sx_runV (As := [.int v0]) (rest := [.ref o]) EE hM0 rfl rfl (v_M_none (X := X) hM0 eM (fun q hq => hS.1.2.2.1 _ _ _ (hA q hq)) hW (h_tp := by omega) (h_ms := by omega) (h_rs := by omega) (h_kc := by omega) hV) w_M_328 rfl ⟨rfl, rfl⟩ ⟨Nat.le_of_ble_eq_true rfl, Nat.le_of_ble_eq_true rfl⟩ ⟨Nat.zero_le _, Nat.zero_le _⟩ hl.1 rfl (Nat.le_of_ble_eq_true rfl) d_M_agree_3) (fun z_ h_ => h_) hS (fun H locs X1 eX1 hM0 hS hV hJ_ => ?_)
  refine sx_ti (y := nI 1) (by rw [show (LF_M_none _ r v0 tp ms rs kc).2 = true from hn]; rfl) ?_
  have hM0 : va_P D classes [(o, .inr (0, mo_fs r (mi th (nI tp) (nI ms) (nI rs) (nI kc))))] H := hM0
  refine lv_if_eq (tgt := 13) hx hb d_M_agree_6 (by decide) (fun q6_1 => absurd (show 1 = 0 by have q6_1 : 1 = 0 := (nI_eq (a := 1) (b := 0) (by omega) (by omega)).mp q6_1; exact q6_1) (by decide)) (fun _ => ?_)
  refine lv_iconst (v := nI 1) hx hb d_M_agree_9 (by decide +kernel) ?_
  refine lv_goto (tgt := 27) hx hb d_M_agree_10 (by decide) ?_
  have h0_ := hM0
  refine sx_put EE hM0 rfl i_M t_M tok_M n_M 0 (by decide) rfl fl_M_211 (ty := .int) (by decide +kernel) rfl rfl (Nat.le_of_ble_eq_true rfl) eM hS d_M_agree_27 (fun H locs hM0 hJ_ hs_ hS => ?_)
  have hM0 : va_P D classes [(o, .inr (0, mo_fs r (mi (nI 1) (nI tp) (nI ms) (nI rs) (nI kc))))] H := hM0
  have hV := (vx_obj hG hK.1 h0_ hM0 hs_).trans hV
  refine lv_aload_n hx hb d_M_agree_30 rfl (lv_at hl 0 rfl) ?_
  refine sx_get EE hM0 rfl i_M 0 (by decide) rfl fl_M_211 rfl d_M_agree_31 ?_
  refine W.eq (g2 := F0 m 34 ls [.int (nI (1))]) rfl ?_
  refine lv_if_le (tgt := 39) hx hb d_M_agree_34 (by decide) (fun q34_2 => absurd (show 1 ≤ 0 by have q34_2 : 1 ≤ 0 := (nI_leI (a := 1) (b := 0) (by omega) (by omega)).mp q34_2; exact q34_2) (by decide)) (fun _ => ?_)
  refine lv_iconst (v := nI 0) hx hb d_M_agree_37 (by decide +kernel) ?_
  have hp : LF_M_agree_b X r v0 tp ms rs kc = (X1, false) := (by subst eX1; exact rfl)
  exact hret _ _ _ _ _ false _ (congrArg Prod.fst hp :) (congrArg Prod.snd hp :) rfl hM0 hS hV d_M_agree_38
def LF_M_agree_c (X : vM) (r : Nat → Nat) (v0 : Nat) (tp : Nat) (ms : Nat) (rs : Nat) (kc : Nat) : vM × Bool := (let X1 : vM := (LF_M_none X r (nI v0) tp ms rs kc).1; (X1, false))
abbrev rm_M_agree_c : Room := { frames := 1, cells := 0, slots := 0, locals := 21 }
set_option maxHeartbeats 4000000 in
set_option maxRecDepth 100000 in
theorem v_M_agree_c {l : Launch} {D : va_G} {g : ClassId → FieldType → Prop} {E : Nat → Prop} {H0 : Heap} {X : vM} {o : Nat} {r : Nat → Nat} {th : Int32} {tp : Nat} {ms : Nat} {rs : Nat} {kc : Nat} {v0 : Nat} (hM0 : va_P D classes [(o, .inr (0, mo_fs r (mi th (nI tp) (nI ms) (nI rs) (nI kc))))] H0) (eM : E o) (hA : ∀ q ∈ mo_arr, sx_A g q.2.1 H0 (r q.1) q.2.2) (hW : ∀ q ∈ mo_arr, E (r q.1))  (h_tp : tp ≤ 65536) (h_ms : ms ≤ 65536) (h_rs : rs ≤ 64) (h_kc : kc ≤ 100) (hw : v0 < kc) (hw2 : tp ≠ 32) (hV : mm g H0 = X) : Met l y_M_agree (.code y_M_agree b_M_agree 3 (some .boolean) :: G_) rm_M_agree_c (sx_Pc [.ref o, .int (nI v0)] H0 D g) (vx_QiP g E H0 (LF_M_agree_c X r v0 tp ms rs kc).1 (nI (LF_M_agree_c X r v0 tp ms rs kc).2.toNat) (fun H => va_P D classes [(o, .inr (0, mo_fs r (mi (nI 2) (nI tp) (nI ms) (nI rs) (nI kc))))] H)) 0 0 E := by
  refine vx_mzP (own := R_M) (by decide) rfl rfl rfl (Nat.le_of_ble_eq_true rfl) ?_
  intro p e s m args below meth c Q ls EE hl hret
  obtain ⟨hx, hb, hml, hown, hts, hG, hK⟩ := id EE
  have hS : sx_S g E E H0 H0 [] := sx_S.rf
  have hl : lv_has ls 3 [(0, .ref o), (1, .int (nI (v0)))] := hl
  refine lv_aload_n hx hb d_M_agree_0 rfl (lv_at hl 0 rfl) ?_
  refine lv_aload_n hx hb d_M_agree_1 rfl (lv_at hl 0 rfl) ?_
  refine lv_iload_n hx hb d_M_agree_2 rfl (lv_at hl 1 rfl) ?_
  refine vx_giP (sx_runV (As := [.int (nI (v0))]) (rest := [.ref o]) EE hM0 rfl rfl (v_M_none (X := X) hM0 eM (fun q hq => hS.1.2.2.1 _ _ _ (hA q hq)) hW (h_tp := by omega) (h_ms := by omega) (h_rs := by omega) (h_kc := by omega) hV) w_M_328 rfl ⟨rfl, rfl⟩ ⟨Nat.le_of_ble_eq_true rfl, Nat.le_of_ble_eq_true rfl⟩ ⟨Nat.zero_le _, Nat.zero_le _⟩ hl.1 rfl (Nat.le_of_ble_eq_true rfl) d_M_agree_3) (fun z_ h_ => h_) hS (fun H locs X1 eX1 hM0 hS hV hJ_ => ?_)
  refine sx_ti (y := nI 0) (by rw [show (LF_M_none _ r (nI v0) tp ms rs kc).2 = false from (mn_f (by omega) (by omega))]; rfl) ?_
  have hM0 : va_P D classes [(o, .inr (0, mo_fs r (mi th (nI tp) (nI ms) (nI rs) (nI kc))))] H := hM0
  refine lv_if_eq (tgt := 13) hx hb d_M_agree_6 (by decide) (fun _ => ?_) (fun q6_1 => absurd (show 0 = 0 by decide) (by have q6_1 : ¬ (0 = 0) := fun z => q6_1 ((nI_eq (a := 0) (b := 0) (by omega) (by omega)).mpr z); exact q6_1))
  refine lv_aload_n hx hb d_M_agree_13 rfl (lv_at hl 0 rfl) ?_
  refine sx_get EE hM0 rfl i_M 5 (by decide) rfl fl_M_315 rfl d_M_agree_14 ?_
  refine W.eq (g2 := F0 m 17 ls [.int (nI (tp)), .ref o]) rfl ?_
  refine lv_bipush (v := nI 32) hx hb d_M_agree_17 (by decide +kernel) ?_
  refine lv_icmp_eq (tgt := 26) hx hb d_M_agree_19 (by decide) (fun q19_2 => absurd (show tp = 32 by have q19_2 : tp = 32 := (nI_eq (a := tp) (b := 32) (by omega) (by omega)).mp q19_2; exact q19_2) (by omega)) (fun _ => ?_)
  refine lv_iconst (v := nI 2) hx hb d_M_agree_22 (by decide +kernel) ?_
  refine lv_goto (tgt := 27) hx hb d_M_agree_23 (by decide) ?_
  have h0_ := hM0
  refine sx_put EE hM0 rfl i_M t_M tok_M n_M 0 (by decide) rfl fl_M_211 (ty := .int) (by decide +kernel) rfl rfl (Nat.le_of_ble_eq_true rfl) eM hS d_M_agree_27 (fun H locs hM0 hJ_ hs_ hS => ?_)
  have hM0 : va_P D classes [(o, .inr (0, mo_fs r (mi (nI 2) (nI tp) (nI ms) (nI rs) (nI kc))))] H := hM0
  have hV := (vx_obj hG hK.1 h0_ hM0 hs_).trans hV
  refine lv_aload_n hx hb d_M_agree_30 rfl (lv_at hl 0 rfl) ?_
  refine sx_get EE hM0 rfl i_M 0 (by decide) rfl fl_M_211 rfl d_M_agree_31 ?_
  refine W.eq (g2 := F0 m 34 ls [.int (nI (2))]) rfl ?_
  refine lv_if_le (tgt := 39) hx hb d_M_agree_34 (by decide) (fun q34_3 => absurd (show 2 ≤ 0 by have q34_3 : 2 ≤ 0 := (nI_leI (a := 2) (b := 0) (by omega) (by omega)).mp q34_3; exact q34_3) (by decide)) (fun _ => ?_)
  refine lv_iconst (v := nI 0) hx hb d_M_agree_37 (by decide +kernel) ?_
  have hp : LF_M_agree_c X r v0 tp ms rs kc = (X1, false) := (by subst eX1; exact rfl)
  exact hret _ _ _ _ _ false _ (congrArg Prod.fst hp :) (congrArg Prod.snd hp :) rfl hM0 hS hV d_M_agree_38
def LL_M_message_7 (r : Nat → Nat) : Nat → vM → vM := fun i_0 s_1 => (let X_2 : vM := stI s_1 (r 2) i_0 ((s_1.2 (r 1) i_0).toInt8.toInt32); X_2)
def LF_M_message (X : vM) (r : Nat → Nat) (tp : Nat) (ms : Nat) (rs : Nat) (kc : Nat) : vM × Int32 := (let R3 : vM := lpU 1 (LL_M_message_7 r) (tp - 0) 0 X; (R3, (nI tp)))
abbrev rm_M_message : Room := { frames := 0, cells := 0, slots := 0, locals := 0 }
set_option maxHeartbeats 4000000 in
set_option maxRecDepth 100000 in
theorem v_M_message {l : Launch} {D : va_G} {g : ClassId → FieldType → Prop} {E : Nat → Prop} {H0 : Heap} {X : vM} {o : Nat} {r : Nat → Nat} {th : Int32} {tp : Nat} {ms : Nat} {rs : Nat} {kc : Nat} (hM0 : va_P D classes [(o, .inr (0, mo_fs r (mi th (nI tp) (nI ms) (nI rs) (nI kc))))] H0) (eM : E o) (hA : ∀ q ∈ mo_arr, sx_A g q.2.1 H0 (r q.1) q.2.2) (hW : ∀ q ∈ mo_arr, E (r q.1))  (h_tp : tp ≤ 65536) (h_ms : ms ≤ 65536) (h_rs : rs ≤ 64) (h_kc : kc ≤ 100) (hV : mm g H0 = X) : Met l y_M_message (.code y_M_message b_M_message 2 (some .int) :: G_) rm_M_message (sx_Pc [.ref o] H0 D g) (vx_QiP g E H0 (LF_M_message X r tp ms rs kc).1 (LF_M_message X r tp ms rs kc).2 (fun H => va_P D classes [(o, .inr (0, mo_fs r (mi (nI 0) (nI 0) (nI tp) (nI rs) (nI kc))))] H)) 0 0 E := by
  refine vx_miP (own := R_M) (by decide) rfl rfl rfl (Nat.le_of_ble_eq_true rfl) ?_
  intro p e s m args below meth c Q ls EE hl hret
  obtain ⟨hx, hb, hml, hown, hts, hG, hK⟩ := id EE
  have hS : sx_S g E E H0 H0 [] := sx_S.rf
  have hl : lv_has ls 2 [(0, .ref o)] := hl
  refine lv_aload_n hx hb d_M_message_0 rfl (lv_at hl 0 rfl) ?_
  refine lv_iconst (v := nI 0) hx hb d_M_message_1 (by decide +kernel) ?_
  have h0_ := hM0
  refine sx_put EE hM0 rfl i_M t_M tok_M n_M 0 (by decide) rfl fl_M_211 (ty := .int) (by decide +kernel) rfl rfl (Nat.le_of_ble_eq_true rfl) eM hS d_M_message_2 (fun H locs hM0 hJ_ hs_ hS => ?_)
  have hM0 : va_P D classes [(o, .inr (0, mo_fs r (mi (nI 0) (nI tp) (nI ms) (nI rs) (nI kc))))] H := hM0
  have hV := (vx_obj hG hK.1 h0_ hM0 hs_).trans hV
  refine lv_iconst (v := nI 0) hx hb d_M_message_5 (by decide +kernel) ?_
  refine lv_istore_n (lv' := [(1, .int (nI (0))), (0, .ref o)]) hx hb d_M_message_6 rfl hl (by decide) rfl (fun ls hl => ?_)
  obtain ⟨R3, eR3⟩ : ∃ t : vM, lpU 1 (LL_M_message_7 r) (tp - 0) 0 X = t := ⟨_, rfl⟩
  refine lpU_go (σ := vM) (P := fun i1 s2 H locs ls => sx_S g E E H0 H locs ∧ mm g H = s2 ∧ va_P D classes [(o, .inr (0, mo_fs r (mi (nI 0) (nI tp) (nI ms) (nI rs) (nI kc))))] H ∧ lv_has ls 2 [(1, .int (nI (i1))), (0, .ref o)]) (Wd := fun H locs ls => W p l e rm_M_message s m args below meth c H locs 0 0 Q (F0 m 7 ls [])) (N := tp) (d := 1) (by decide) ?_ ?_ (tp - 0) 0 _ (by omega) eR3 _ _ _ ⟨hS, hV, hM0, lv_sub hl [0, 1] rfl⟩
  · intro i1 s2 H locs ls hii1 hP ihi1
    obtain ⟨hS, hV, hM0, hl⟩ := hP
    refine lv_iload_n hx hb d_M_message_7 rfl (lv_at hl 0 rfl) ?_
    refine lv_aload_n hx hb d_M_message_8 rfl (lv_at hl 1 rfl) ?_
    refine sx_get EE hM0 rfl i_M 5 (by decide) rfl fl_M_315 rfl d_M_message_9 ?_
    refine W.eq (g2 := F0 m 12 ls [.int (nI (tp)), .int (nI (i1))]) rfl ?_
    refine lv_icmp_ge (tgt := 33) hx hb d_M_message_12 (by decide) (fun q => absurd q (nI_ge (by omega) (by omega))) (fun _ => ?_)
    refine lv_aload_n hx hb d_M_message_15 rfl (lv_at hl 1 rfl) ?_
    refine sx_get EE hM0 rfl i_M 2 (by decide) rfl fl_M_14 rfl d_M_message_16 ?_
    refine W.eq (g2 := F0 m 19 ls [.ref (r 2)]) rfl ?_
    refine lv_iload_n hx hb d_M_message_19 rfl (lv_at hl 0 rfl) ?_
    refine lv_aload_n hx hb d_M_message_20 rfl (lv_at hl 1 rfl) ?_
    refine sx_get EE hM0 rfl i_M 1 (by decide) rfl fl_M_8 rfl d_M_message_21 ?_
    refine W.eq (g2 := F0 m 24 ls [.ref (r 1), .int (nI (i1)), .ref (r 2)]) rfl ?_
    refine lv_iload_n hx hb d_M_message_24 rfl (lv_at hl 0 rfl) ?_
    refine vx_bald hx hb hG hS hV (moA_1 hA) (by omega) (by decide) d_M_message_25 ?_
    refine vx_bastJ hx hb hG hK.1 hS hV (moA_2 hA) (moW_2 hW) (by omega) (by decide) d_M_message_26 (fun H locs X4 eX4 hS hV hO => ?_)
    have hM0 := hO _ _ hM0
    refine lv_iinc (v := nI (i1 + 1)) (lv' := [(1, .int (nI (i1 + 1))), (0, .ref o)]) hx hb d_M_message_27 hl (k := 0) rfl (sx_inc _ _) (by decide) rfl (fun ls hl => ?_)
    refine lv_goto (tgt := 7) hx hb d_M_message_30 (by decide) ?_
    exact ihi1 X4 _ _ _ (by subst eX4; exact rfl) ⟨hS, hV, hM0, lv_sub hl [0, 1] rfl⟩
  · intro H locs ls hP
    obtain ⟨hS, hV, hM0, hl⟩ := hP
    refine lv_iload_n hx hb d_M_message_7 rfl (lv_at hl 0 rfl) ?_
    refine lv_aload_n hx hb d_M_message_8 rfl (lv_at hl 1 rfl) ?_
    refine sx_get EE hM0 rfl i_M 5 (by decide) rfl fl_M_315 rfl d_M_message_9 ?_
    refine W.eq (g2 := F0 m 12 ls [.int (nI (tp)), .int (nI (tp))]) rfl ?_
    refine lv_icmp_ge (tgt := 33) hx hb d_M_message_12 (by decide) (fun _ => ?_) (fun q => absurd (nI_le (by omega) (by omega)) q)
    refine lv_aload_n hx hb d_M_message_33 rfl (lv_at hl 1 rfl) ?_
    refine lv_aload_n hx hb d_M_message_34 rfl (lv_at hl 1 rfl) ?_
    refine sx_get EE hM0 rfl i_M 5 (by decide) rfl fl_M_315 rfl d_M_message_35 ?_
    refine W.eq (g2 := F0 m 38 ls [.int (nI (tp)), .ref o]) rfl ?_
    have h0_ := hM0
    refine sx_put EE hM0 rfl i_M t_M tok_M n_M 6 (by decide) rfl fl_M_309 (ty := .int) (by decide +kernel) rfl rfl (Nat.le_of_ble_eq_true rfl) eM hS d_M_message_38 (fun H locs hM0 hJ_ hs_ hS => ?_)
    have hM0 : va_P D classes [(o, .inr (0, mo_fs r (mi (nI 0) (nI tp) (nI tp) (nI rs) (nI kc))))] H := hM0
    have hV := (vx_obj hG hK.1 h0_ hM0 hs_).trans hV
    refine lv_aload_n hx hb d_M_message_41 rfl (lv_at hl 1 rfl) ?_
    refine lv_iconst (v := nI 0) hx hb d_M_message_42 (by decide +kernel) ?_
    have h0_ := hM0
    refine sx_put EE hM0 rfl i_M t_M tok_M n_M 5 (by decide) rfl fl_M_315 (ty := .int) (by decide +kernel) rfl rfl (Nat.le_of_ble_eq_true rfl) eM hS d_M_message_43 (fun H locs hM0 hJ_ hs_ hS => ?_)
    have hM0 : va_P D classes [(o, .inr (0, mo_fs r (mi (nI 0) (nI 0) (nI tp) (nI rs) (nI kc))))] H := hM0
    have hV := (vx_obj hG hK.1 h0_ hM0 hs_).trans hV
    refine lv_aload_n hx hb d_M_message_46 rfl (lv_at hl 1 rfl) ?_
    refine sx_get EE hM0 rfl i_M 6 (by decide) rfl fl_M_309 rfl d_M_message_47 ?_
    refine W.eq (g2 := F0 m 50 ls [.int (nI (tp))]) rfl ?_
    have hp : LF_M_message X r tp ms rs kc = (R3, (nI tp)) := (by subst eR3; exact rfl)
    exact hret _ _ _ _ _ _ (congrArg Prod.fst hp :) (congrArg Prod.snd hp :) hM0 hS hV d_M_message_50
def LL_M_sign_32 (r : Nat → Nat) : Nat → vM → vM := fun i_0 s_1 => (let X_2 : vM := stI s_1 (r 38) i_0 ((s_1.2 (r 52) (32 + i_0)).toInt8.toInt32); X_2)
def LL_M_sign_99 (r : Nat → Nat) : Nat → vM → vM := fun i_0 s_1 => (let X_2 : vM := stI s_1 (r 38) i_0 ((s_1.2 (r 37) i_0).toInt8.toInt32); let X_3 : vM := stI X_2 (r 38) (32 + i_0) ((X_2.2 (r 36) i_0).toInt8.toInt32); X_3)
def LL_M_sign_154 (r : Nat → Nat) : Nat → vM → vM := fun i_0 s_1 => (let J_2 : Int64 := if 16 ≤ i_0 then (0 : Int64) else (s_1.1 (r 32) i_0); (let X_3 : vM := stL s_1 (r 40) i_0 J_2; X_3))
def LL_M_sign_260 (r : Nat → Nat) : Nat → vM → vM := fun i_0 s_1 => (let X_2 : vM := stI s_1 (r 35) i_0 (((((s_1.1 (r 33) (i_0 / 2)) >>> ((nI (8 * (i_0 % 2))).toInt64 &&& 63)).toInt32).toInt8.toInt32).toInt8.toInt32); X_2)
def LF_M_sign_a (X : vM) (r : Nat → Nat) (v0 : Nat) (tp : Nat) (ms : Nat) (rs : Nat) (kc : Nat) : vM := (let X1 : vM := (LF_M_none X r (nI v0) tp ms rs kc).1; let X4 : vM := (LF_M_opened X1 r v0); let R7 : vM := lpU 1 (LL_M_sign_32 r) 32 0 X4; (let X9 : vM := (LF_M_hashMessage R7 r 32 ms); let X10 : vM := (LF_M_hashNumber X9 r (r 31)); let X11 : vM := (LF_M_fromBase X10 r (r 31)); let X12 : vM := (LF_M_encode X11 r (r 37) (r 18) (r 19)); let R15 : vM := lpU 1 (LL_M_sign_99 r) 32 0 X12; (let X18 : vM := (LF_M_hashMessage R15 r 64 ms); let X19 : vM := (LF_M_hashNumber X18 r (r 33)); let R22 : vM := lpU 1 (LL_M_sign_154 r) 32 0 X19; (let X27 : vM := (LF_M_reduce R22 r (r 32) (r 12) (r 13)); let X28 : vM := (LF_M_times X27 r (r 33) (r 33) (r 32) (r 12) (r 13)); let X29 : vM := (LF_M_plus X28 (r 33) (r 33) (r 31) (r 12)); let X30 : vM := (LF_M_tell X29 r (r 37) 0 32 tp ms rs kc); let R33 : vM := lpU 1 (LL_M_sign_260 r) 32 0 X30; (let X35 : vM := (LF_M_tell R33 r (r 35) 32 32 tp ms 32 kc); let X36 : vM := stI X35 (r 9) 0 ((X35.2 (r 9) 0) + (nI 1)); X36)))))
abbrev rm_M_sign_a : Room := { frames := 7, cells := 0, slots := 0, locals := 174 }
set_option maxHeartbeats 4000000 in
set_option maxRecDepth 100000 in
theorem v_M_sign_a {l : Launch} {D : va_G} {g : ClassId → FieldType → Prop} {E : Nat → Prop} {H0 : Heap} {X : vM} {o : Nat} {r : Nat → Nat} {th : Int32} {tp : Nat} {ms : Nat} {rs : Nat} {kc : Nat} {v0 : Nat} (hM0 : va_P D classes [(o, .inr (0, mo_fs r (mi th (nI tp) (nI ms) (nI rs) (nI kc))))] H0) (eM : E o) (hA : ∀ q ∈ mo_arr, sx_A g q.2.1 H0 (r q.1) q.2.2) (hW : ∀ q ∈ mo_arr, E (r q.1))  (h_tp : tp ≤ 65536) (h_ms : ms ≤ 65536) (h_rs : rs ≤ 64) (h_kc : kc ≤ 100) (hw : v0 < kc) (hV : mm g H0 = X) : Met l y_M_sign (.code y_M_sign b_M_sign 3 none :: G_) rm_M_sign_a (sx_Pc [.ref o, .int (nI v0)] H0 D g) (vx_QvP g E H0 (LF_M_sign_a X r v0 tp ms rs kc) (fun H => va_P D classes [(o, .inr (0, mo_fs r (mi (nI 0) (nI tp) (nI ms) (nI 64) (nI kc))))] H)) 0 0 E := by
  refine vx_mvP (own := R_M) (by decide) rfl rfl rfl (Nat.le_of_ble_eq_true rfl) ?_
  intro p e s m args below meth c Q ls EE hl hret
  obtain ⟨hx, hb, hml, hown, hts, hG, hK⟩ := id EE
  have hS : sx_S g E E H0 H0 [] := sx_S.rf
  have hl : lv_has ls 3 [(0, .ref o), (1, .int (nI (v0)))] := hl
  refine lv_aload_n hx hb d_M_sign_0 rfl (lv_at hl 0 rfl) ?_
  refine lv_aload_n hx hb d_M_sign_1 rfl (lv_at hl 0 rfl) ?_
  refine lv_iload_n hx hb d_M_sign_2 rfl (lv_at hl 1 rfl) ?_
  refine vx_giP (sx_runV (As := [.int (nI (v0))]) (rest := [.ref o]) EE hM0 rfl rfl (v_M_none (X := X) hM0 eM (fun q hq => hS.1.2.2.1 _ _ _ (hA q hq)) hW (h_tp := by omega) (h_ms := by omega) (h_rs := by omega) (h_kc := by omega) hV) w_M_328 rfl ⟨rfl, rfl⟩ ⟨Nat.le_of_ble_eq_true rfl, Nat.le_of_ble_eq_true rfl⟩ ⟨Nat.zero_le _, Nat.zero_le _⟩ hl.1 rfl (Nat.le_of_ble_eq_true rfl) d_M_sign_3) (fun z_ h_ => h_) hS (fun H locs X1 eX1 hM0 hS hV hJ_ => ?_)
  refine sx_ti (y := nI 0) (by rw [show (LF_M_none _ r (nI v0) tp ms rs kc).2 = false from (mn_f (by omega) (by omega))]; rfl) ?_
  have hM0 : va_P D classes [(o, .inr (0, mo_fs r (mi th (nI tp) (nI ms) (nI rs) (nI kc))))] H := hM0
  refine lv_if_eq (tgt := 13) hx hb d_M_sign_6 (by decide) (fun _ => ?_) (fun q6_1 => absurd (show 0 = 0 by decide) (by have q6_1 : ¬ (0 = 0) := fun z => q6_1 ((nI_eq (a := 0) (b := 0) (by omega) (by omega)).mpr z); exact q6_1))
  refine lv_iconst (v := nI 0) hx hb d_M_sign_13 (by decide +kernel) ?_
  have h0_ := hM0
  refine sx_put EE hM0 rfl i_M t_M tok_M n_M 0 (by decide) rfl fl_M_211 (ty := .int) (by decide +kernel) rfl rfl (Nat.le_of_ble_eq_true rfl) eM hS d_M_sign_14 (fun H locs hM0 hJ_ hs_ hS => ?_)
  have hM0 : va_P D classes [(o, .inr (0, mo_fs r (mi (nI 0) (nI tp) (nI ms) (nI rs) (nI kc))))] H := hM0
  have hV := (vx_obj hG hK.1 h0_ hM0 hs_).trans hV
  refine lv_aload_n hx hb d_M_sign_17 rfl (lv_at hl 0 rfl) ?_
  refine sx_get EE hM0 rfl i_M 0 (by decide) rfl fl_M_211 rfl d_M_sign_18 ?_
  refine W.eq (g2 := F0 m 21 ls [.int (nI (0))]) rfl ?_
  refine lv_if_le (tgt := 25) hx hb d_M_sign_21 (by decide) (fun _ => ?_) (fun q21_2 => absurd (show 0 ≤ 0 by decide) (by have q21_2 : ¬ (0 ≤ 0) := fun z => q21_2 ((nI_leI (a := 0) (b := 0) (by omega) (by omega)).mpr z); exact q21_2))
  refine lv_aload_n hx hb d_M_sign_25 rfl (lv_at hl 0 rfl) ?_
  refine lv_iload_n hx hb d_M_sign_26 rfl (lv_at hl 1 rfl) ?_
  have hA_ : ∀ q ∈ mo_arr, sx_A g q.2.1 H (r q.1) q.2.2 := fun q hq => hS.1.2.2.1 _ _ _ (hA q hq)
  refine vx_gvJ (sx_runV (As := [.int (nI (v0))]) (rest := []) EE hM0 rfl rfl (v_M_opened (E := cutE E o) (X := X1) ⟨hM0, hA_⟩ (fun z_ => z_.2 rfl) (mo_cut hG hK.1 hM0 hA_ hW) (by omega) hV) w_M_332 rfl ⟨rfl, rfl⟩ ⟨Nat.le_of_ble_eq_true rfl, Nat.le_of_ble_eq_true rfl⟩ ⟨Nat.zero_le _, Nat.zero_le _⟩ hl.1 rfl (Nat.le_of_ble_eq_true rfl) d_M_sign_27) (fun z_ h_ => h_.1) hS (fun H locs X4 eX4 hS hV hJ_ => ?_)
  have hM0 := hJ_.ob (fun z_ => z_.2 rfl) hM0
  refine lv_iconst (v := nI 0) hx hb d_M_sign_30 (by decide +kernel) ?_
  refine lv_istore_n (lv' := [(2, .int (nI (0))), (0, .ref o), (1, .int (nI (v0)))]) hx hb d_M_sign_31 rfl hl (by decide) rfl (fun ls hl => ?_)
  obtain ⟨R7, eR7⟩ : ∃ t : vM, lpU 1 (LL_M_sign_32 r) 32 0 X4 = t := ⟨_, rfl⟩
  refine lpU_go (σ := vM) (P := fun i5 s6 H locs ls => sx_S g E E H0 H locs ∧ mm g H = s6 ∧ va_P D classes [(o, .inr (0, mo_fs r (mi (nI 0) (nI tp) (nI ms) (nI rs) (nI kc))))] H ∧ lv_has ls 3 [(2, .int (nI (i5))), (0, .ref o)]) (Wd := fun H locs ls => W p l e rm_M_sign_a s m args below meth c H locs 0 0 Q (F0 m 32 ls [])) (N := 32) (d := 1) (by decide) ?_ ?_ 32 0 _ (by omega) eR7 _ _ _ ⟨hS, hV, hM0, lv_sub hl [0, 1] rfl⟩
  · intro i5 s6 H locs ls hii5 hP ihi5
    obtain ⟨hS, hV, hM0, hl⟩ := hP
    refine lv_iload_n hx hb d_M_sign_32 rfl (lv_at hl 0 rfl) ?_
    refine lv_bipush (v := nI 32) hx hb d_M_sign_33 (by decide +kernel) ?_
    refine lv_icmp_ge (tgt := 59) hx hb d_M_sign_35 (by decide) (fun q => absurd q (nI_ge (by omega) (by omega))) (fun _ => ?_)
    refine lv_aload_n hx hb d_M_sign_38 rfl (lv_at hl 1 rfl) ?_
    refine sx_get EE hM0 rfl i_M 38 (by decide) rfl fl_M_113 rfl d_M_sign_39 ?_
    refine W.eq (g2 := F0 m 42 ls [.ref (r 38)]) rfl ?_
    refine lv_iload_n hx hb d_M_sign_42 rfl (lv_at hl 0 rfl) ?_
    refine lv_aload_n hx hb d_M_sign_43 rfl (lv_at hl 1 rfl) ?_
    refine sx_get EE hM0 rfl i_M 52 (by decide) rfl fl_M_159 rfl d_M_sign_44 ?_
    refine W.eq (g2 := F0 m 47 ls [.ref (r 52), .int (nI (i5)), .ref (r 38)]) rfl ?_
    refine lv_bipush (v := nI 32) hx hb d_M_sign_47 (by decide +kernel) ?_
    refine lv_iload_n hx hb d_M_sign_49 rfl (lv_at hl 0 rfl) ?_
    refine lv_iadd hx hb d_M_sign_50 ?_
    refine sx_ti (y := nI (32 + i5)) (nI_add _ _) ?_
    refine vx_bald hx hb hG hS hV (moA_52 hA) (by omega) (by decide) d_M_sign_51 ?_
    refine vx_bastJ hx hb hG hK.1 hS hV (moA_38 hA) (moW_38 hW) (by omega) (by decide) d_M_sign_52 (fun H locs X8 eX8 hS hV hO => ?_)
    have hM0 := hO _ _ hM0
    refine lv_iinc (v := nI (i5 + 1)) (lv' := [(2, .int (nI (i5 + 1))), (0, .ref o)]) hx hb d_M_sign_53 hl (k := 0) rfl (sx_inc _ _) (by decide) rfl (fun ls hl => ?_)
    refine lv_goto (tgt := 32) hx hb d_M_sign_56 (by decide) ?_
    exact ihi5 X8 _ _ _ (by subst eX8; exact rfl) ⟨hS, hV, hM0, lv_sub hl [0, 1] rfl⟩
  · intro H locs ls hP
    obtain ⟨hS, hV, hM0, hl⟩ := hP
    refine lv_iload_n hx hb d_M_sign_32 rfl (lv_at hl 0 rfl) ?_
    refine lv_bipush (v := nI 32) hx hb d_M_sign_33 (by decide +kernel) ?_
    refine lv_icmp_ge (tgt := 59) hx hb d_M_sign_35 (by decide) (fun _ => ?_) (fun q => absurd (nI_le (by omega) (by omega)) q)
    refine lv_aload_n hx hb d_M_sign_59 rfl (lv_at hl 1 rfl) ?_
    refine lv_bipush (v := nI 32) hx hb d_M_sign_60 (by decide +kernel) ?_
    have hA_ : ∀ q ∈ mo_arr, sx_A g q.2.1 H (r q.1) q.2.2 := fun q hq => hS.1.2.2.1 _ _ _ (hA q hq)
    refine vx_gvJ (sx_runV (As := [.int (nI (32))]) (rest := []) EE hM0 rfl rfl (v_M_hashMessage (E := cutE E o) (X := R7) ⟨hM0, hA_⟩ (fun z_ => z_.2 rfl) (mo_cut hG hK.1 hM0 hA_ hW) (by omega) rfl (by omega) hV) w_M_343 rfl ⟨rfl, rfl⟩ ⟨Nat.le_of_ble_eq_true rfl, Nat.le_of_ble_eq_true rfl⟩ ⟨Nat.zero_le _, Nat.zero_le _⟩ hl.1 rfl (Nat.le_of_ble_eq_true rfl) d_M_sign_62) (fun z_ h_ => h_.1) hS (fun H locs X9 eX9 hS hV hJ_ => ?_)
    have hM0 := hJ_.ob (fun z_ => z_.2 rfl) hM0
    refine lv_aload_n hx hb d_M_sign_65 rfl (lv_at hl 1 rfl) ?_
    refine lv_aload_n hx hb d_M_sign_66 rfl (lv_at hl 1 rfl) ?_
    refine sx_get EE hM0 rfl i_M 31 (by decide) rfl fl_M_91 rfl d_M_sign_67 ?_
    refine W.eq (g2 := F0 m 70 ls [.ref (r 31), .ref o]) rfl ?_
    have hA_ : ∀ q ∈ mo_arr, sx_A g q.2.1 H (r q.1) q.2.2 := fun q hq => hS.1.2.2.1 _ _ _ (hA q hq)
    refine vx_gvJ (sx_runV (As := [.ref (r 31)]) (rest := []) EE hM0 rfl rfl (v_M_hashNumber (E := cutE E o) (X := X9) ⟨hM0, hA_⟩ (fun z_ => z_.2 rfl) (mo_cut hG hK.1 hM0 hA_ hW) (hS.a (moA_31 hA)) ⟨(moW_31 hW), vx_ne hG hK.1 hM0 (hS.a (moA_31 hA))⟩ hV) w_M_346 rfl ⟨rfl, rfl⟩ ⟨Nat.le_of_ble_eq_true rfl, Nat.le_of_ble_eq_true rfl⟩ ⟨Nat.zero_le _, Nat.zero_le _⟩ hl.1 rfl (Nat.le_of_ble_eq_true rfl) d_M_sign_70) (fun z_ h_ => h_.1) hS (fun H locs X10 eX10 hS hV hJ_ => ?_)
    have hM0 := hJ_.ob (fun z_ => z_.2 rfl) hM0
    refine lv_aload_n hx hb d_M_sign_73 rfl (lv_at hl 1 rfl) ?_
    refine lv_aload_n hx hb d_M_sign_74 rfl (lv_at hl 1 rfl) ?_
    refine sx_get EE hM0 rfl i_M 31 (by decide) rfl fl_M_91 rfl d_M_sign_75 ?_
    refine W.eq (g2 := F0 m 78 ls [.ref (r 31), .ref o]) rfl ?_
    have hA_ : ∀ q ∈ mo_arr, sx_A g q.2.1 H (r q.1) q.2.2 := fun q hq => hS.1.2.2.1 _ _ _ (hA q hq)
    refine vx_gvJ (sx_runV (As := [.ref (r 31)]) (rest := []) EE hM0 rfl rfl (v_M_fromBase (E := cutE E o) (X := X10) ⟨hM0, hA_⟩ (fun z_ => z_.2 rfl) (mo_cut hG hK.1 hM0 hA_ hW) (hS.a (moA_31 hA)) hV) w_M_302 rfl ⟨rfl, rfl⟩ ⟨Nat.le_of_ble_eq_true rfl, Nat.le_of_ble_eq_true rfl⟩ ⟨Nat.zero_le _, Nat.zero_le _⟩ hl.1 rfl (Nat.le_of_ble_eq_true rfl) d_M_sign_78) (fun z_ h_ => h_.1) hS (fun H locs X11 eX11 hS hV hJ_ => ?_)
    have hM0 := hJ_.ob (fun z_ => z_.2 rfl) hM0
    refine lv_aload_n hx hb d_M_sign_81 rfl (lv_at hl 1 rfl) ?_
    refine lv_aload_n hx hb d_M_sign_82 rfl (lv_at hl 1 rfl) ?_
    refine sx_get EE hM0 rfl i_M 37 (by decide) rfl fl_M_109 rfl d_M_sign_83 ?_
    refine W.eq (g2 := F0 m 86 ls [.ref (r 37), .ref o]) rfl ?_
    refine lv_aload_n hx hb d_M_sign_86 rfl (lv_at hl 1 rfl) ?_
    refine sx_get EE hM0 rfl i_M 18 (by decide) rfl fl_M_52 rfl d_M_sign_87 ?_
    refine W.eq (g2 := F0 m 90 ls [.ref (r 18), .ref (r 37), .ref o]) rfl ?_
    refine lv_aload_n hx hb d_M_sign_90 rfl (lv_at hl 1 rfl) ?_
    refine sx_get EE hM0 rfl i_M 19 (by decide) rfl fl_M_55 rfl d_M_sign_91 ?_
    refine W.eq (g2 := F0 m 94 ls [.ref (r 19), .ref (r 18), .ref (r 37), .ref o]) rfl ?_
    have hA_ : ∀ q ∈ mo_arr, sx_A g q.2.1 H (r q.1) q.2.2 := fun q hq => hS.1.2.2.1 _ _ _ (hA q hq)
    refine vx_gvJ (sx_runV (As := [.ref (r 37), .ref (r 18), .ref (r 19)]) (rest := []) EE hM0 rfl rfl (v_M_encode (E := cutE E o) (X := X11) ⟨hM0, hA_⟩ (fun z_ => z_.2 rfl) (mo_cut hG hK.1 hM0 hA_ hW) (hS.a (moA_37 hA)) ⟨(moW_37 hW), vx_ne hG hK.1 hM0 (hS.a (moA_37 hA))⟩ (hS.a (moA_18 hA)) (hS.a (moA_19 hA)) hV) w_M_305 rfl ⟨rfl, rfl⟩ ⟨Nat.le_of_ble_eq_true rfl, Nat.le_of_ble_eq_true rfl⟩ ⟨Nat.zero_le _, Nat.zero_le _⟩ hl.1 rfl (Nat.le_of_ble_eq_true rfl) d_M_sign_94) (fun z_ h_ => h_.1) hS (fun H locs X12 eX12 hS hV hJ_ => ?_)
    have hM0 := hJ_.ob (fun z_ => z_.2 rfl) hM0
    refine lv_iconst (v := nI 0) hx hb d_M_sign_97 (by decide +kernel) ?_
    refine lv_istore_n (lv' := [(2, .int (nI (0))), (0, .ref o)]) hx hb d_M_sign_98 rfl hl (by decide) rfl (fun ls hl => ?_)
    obtain ⟨R15, eR15⟩ : ∃ t : vM, lpU 1 (LL_M_sign_99 r) 32 0 X12 = t := ⟨_, rfl⟩
    refine lpU_go (σ := vM) (P := fun i13 s14 H locs ls => sx_S g E E H0 H locs ∧ mm g H = s14 ∧ va_P D classes [(o, .inr (0, mo_fs r (mi (nI 0) (nI tp) (nI ms) (nI rs) (nI kc))))] H ∧ lv_has ls 3 [(2, .int (nI (i13))), (0, .ref o)]) (Wd := fun H locs ls => W p l e rm_M_sign_a s m args below meth c H locs 0 0 Q (F0 m 99 ls [])) (N := 32) (d := 1) (by decide) ?_ ?_ 32 0 _ (by omega) eR15 _ _ _ ⟨hS, hV, hM0, lv_sub hl [0, 1] rfl⟩
    · intro i13 s14 H locs ls hii13 hP ihi13
      obtain ⟨hS, hV, hM0, hl⟩ := hP
      refine lv_iload_n hx hb d_M_sign_99 rfl (lv_at hl 0 rfl) ?_
      refine lv_bipush (v := nI 32) hx hb d_M_sign_100 (by decide +kernel) ?_
      refine lv_icmp_ge (tgt := 138) hx hb d_M_sign_102 (by decide) (fun q => absurd q (nI_ge (by omega) (by omega))) (fun _ => ?_)
      refine lv_aload_n hx hb d_M_sign_105 rfl (lv_at hl 1 rfl) ?_
      refine sx_get EE hM0 rfl i_M 38 (by decide) rfl fl_M_113 rfl d_M_sign_106 ?_
      refine W.eq (g2 := F0 m 109 ls [.ref (r 38)]) rfl ?_
      refine lv_iload_n hx hb d_M_sign_109 rfl (lv_at hl 0 rfl) ?_
      refine lv_aload_n hx hb d_M_sign_110 rfl (lv_at hl 1 rfl) ?_
      refine sx_get EE hM0 rfl i_M 37 (by decide) rfl fl_M_109 rfl d_M_sign_111 ?_
      refine W.eq (g2 := F0 m 114 ls [.ref (r 37), .int (nI (i13)), .ref (r 38)]) rfl ?_
      refine lv_iload_n hx hb d_M_sign_114 rfl (lv_at hl 0 rfl) ?_
      refine vx_bald hx hb hG hS hV (moA_37 hA) (by omega) (by decide) d_M_sign_115 ?_
      refine vx_bastJ hx hb hG hK.1 hS hV (moA_38 hA) (moW_38 hW) (by omega) (by decide) d_M_sign_116 (fun H locs X16 eX16 hS hV hO => ?_)
      have hM0 := hO _ _ hM0
      refine lv_aload_n hx hb d_M_sign_117 rfl (lv_at hl 1 rfl) ?_
      refine sx_get EE hM0 rfl i_M 38 (by decide) rfl fl_M_113 rfl d_M_sign_118 ?_
      refine W.eq (g2 := F0 m 121 ls [.ref (r 38)]) rfl ?_
      refine lv_bipush (v := nI 32) hx hb d_M_sign_121 (by decide +kernel) ?_
      refine lv_iload_n hx hb d_M_sign_123 rfl (lv_at hl 0 rfl) ?_
      refine lv_iadd hx hb d_M_sign_124 ?_
      refine sx_ti (y := nI (32 + i13)) (nI_add _ _) ?_
      refine lv_aload_n hx hb d_M_sign_125 rfl (lv_at hl 1 rfl) ?_
      refine sx_get EE hM0 rfl i_M 36 (by decide) rfl fl_M_106 rfl d_M_sign_126 ?_
      refine W.eq (g2 := F0 m 129 ls [.ref (r 36), .int (nI (32 + i13)), .ref (r 38)]) rfl ?_
      refine lv_iload_n hx hb d_M_sign_129 rfl (lv_at hl 0 rfl) ?_
      refine vx_bald hx hb hG hS hV (moA_36 hA) (by omega) (by decide) d_M_sign_130 ?_
      refine vx_bastJ hx hb hG hK.1 hS hV (moA_38 hA) (moW_38 hW) (by omega) (by decide) d_M_sign_131 (fun H locs X17 eX17 hS hV hO => ?_)
      have hM0 := hO _ _ hM0
      refine lv_iinc (v := nI (i13 + 1)) (lv' := [(2, .int (nI (i13 + 1))), (0, .ref o)]) hx hb d_M_sign_132 hl (k := 0) rfl (sx_inc _ _) (by decide) rfl (fun ls hl => ?_)
      refine lv_goto (tgt := 99) hx hb d_M_sign_135 (by decide) ?_
      exact ihi13 X17 _ _ _ (by subst eX16 eX17; exact rfl) ⟨hS, hV, hM0, lv_sub hl [0, 1] rfl⟩
    · intro H locs ls hP
      obtain ⟨hS, hV, hM0, hl⟩ := hP
      refine lv_iload_n hx hb d_M_sign_99 rfl (lv_at hl 0 rfl) ?_
      refine lv_bipush (v := nI 32) hx hb d_M_sign_100 (by decide +kernel) ?_
      refine lv_icmp_ge (tgt := 138) hx hb d_M_sign_102 (by decide) (fun _ => ?_) (fun q => absurd (nI_le (by omega) (by omega)) q)
      refine lv_aload_n hx hb d_M_sign_138 rfl (lv_at hl 1 rfl) ?_
      refine lv_bipush (v := nI 64) hx hb d_M_sign_139 (by decide +kernel) ?_
      have hA_ : ∀ q ∈ mo_arr, sx_A g q.2.1 H (r q.1) q.2.2 := fun q hq => hS.1.2.2.1 _ _ _ (hA q hq)
      refine vx_gvJ (sx_runV (As := [.int (nI (64))]) (rest := []) EE hM0 rfl rfl (v_M_hashMessage (E := cutE E o) (X := R15) ⟨hM0, hA_⟩ (fun z_ => z_.2 rfl) (mo_cut hG hK.1 hM0 hA_ hW) (by omega) rfl (by omega) hV) w_M_343 rfl ⟨rfl, rfl⟩ ⟨Nat.le_of_ble_eq_true rfl, Nat.le_of_ble_eq_true rfl⟩ ⟨Nat.zero_le _, Nat.zero_le _⟩ hl.1 rfl (Nat.le_of_ble_eq_true rfl) d_M_sign_141) (fun z_ h_ => h_.1) hS (fun H locs X18 eX18 hS hV hJ_ => ?_)
      have hM0 := hJ_.ob (fun z_ => z_.2 rfl) hM0
      refine lv_aload_n hx hb d_M_sign_144 rfl (lv_at hl 1 rfl) ?_
      refine lv_aload_n hx hb d_M_sign_145 rfl (lv_at hl 1 rfl) ?_
      refine sx_get EE hM0 rfl i_M 33 (by decide) rfl fl_M_97 rfl d_M_sign_146 ?_
      refine W.eq (g2 := F0 m 149 ls [.ref (r 33), .ref o]) rfl ?_
      have hA_ : ∀ q ∈ mo_arr, sx_A g q.2.1 H (r q.1) q.2.2 := fun q hq => hS.1.2.2.1 _ _ _ (hA q hq)
      refine vx_gvJ (sx_runV (As := [.ref (r 33)]) (rest := []) EE hM0 rfl rfl (v_M_hashNumber (E := cutE E o) (X := X18) ⟨hM0, hA_⟩ (fun z_ => z_.2 rfl) (mo_cut hG hK.1 hM0 hA_ hW) (hS.a (moA_33 hA)) ⟨(moW_33 hW), vx_ne hG hK.1 hM0 (hS.a (moA_33 hA))⟩ hV) w_M_346 rfl ⟨rfl, rfl⟩ ⟨Nat.le_of_ble_eq_true rfl, Nat.le_of_ble_eq_true rfl⟩ ⟨Nat.zero_le _, Nat.zero_le _⟩ hl.1 rfl (Nat.le_of_ble_eq_true rfl) d_M_sign_149) (fun z_ h_ => h_.1) hS (fun H locs X19 eX19 hS hV hJ_ => ?_)
      have hM0 := hJ_.ob (fun z_ => z_.2 rfl) hM0
      refine lv_iconst (v := nI 0) hx hb d_M_sign_152 (by decide +kernel) ?_
      refine lv_istore_n (lv' := [(2, .int (nI (0))), (0, .ref o)]) hx hb d_M_sign_153 rfl hl (by decide) rfl (fun ls hl => ?_)
      obtain ⟨R22, eR22⟩ : ∃ t : vM, lpU 1 (LL_M_sign_154 r) 32 0 X19 = t := ⟨_, rfl⟩
      refine lpU_go (σ := vM) (P := fun i20 s21 H locs ls => sx_S g E E H0 H locs ∧ mm g H = s21 ∧ va_P D classes [(o, .inr (0, mo_fs r (mi (nI 0) (nI tp) (nI ms) (nI rs) (nI kc))))] H ∧ lv_has ls 3 [(2, .int (nI (i20))), (0, .ref o)]) (Wd := fun H locs ls => W p l e rm_M_sign_a s m args below meth c H locs 0 0 Q (F0 m 154 ls [])) (N := 32) (d := 1) (by decide) ?_ ?_ 32 0 _ (by omega) eR22 _ _ _ ⟨hS, hV, hM0, lv_sub hl [0, 1] rfl⟩
      · intro i20 s21 H locs ls hii20 hP ihi20
        obtain ⟨hS, hV, hM0, hl⟩ := hP
        refine lv_iload_n hx hb d_M_sign_154 rfl (lv_at hl 0 rfl) ?_
        refine lv_bipush (v := nI 32) hx hb d_M_sign_155 (by decide +kernel) ?_
        refine lv_icmp_ge (tgt := 188) hx hb d_M_sign_157 (by decide) (fun q => absurd q (nI_ge (by omega) (by omega))) (fun _ => ?_)
        refine lv_aload_n hx hb d_M_sign_160 rfl (lv_at hl 1 rfl) ?_
        refine sx_get EE hM0 rfl i_M 40 (by decide) rfl fl_M_123 rfl d_M_sign_161 ?_
        refine W.eq (g2 := F0 m 164 ls [.ref (r 40)]) rfl ?_
        refine lv_iload_n hx hb d_M_sign_164 rfl (lv_at hl 0 rfl) ?_
        refine lv_iload_n hx hb d_M_sign_165 rfl (lv_at hl 0 rfl) ?_
        refine lv_bipush (v := nI 16) hx hb d_M_sign_166 (by decide +kernel) ?_
        have jn181_24 : ∀ (J24 : Int64) (H : Heap) (locs : List Loc) (ls : Array Slot), (if 16 ≤ i20 then (0 : Int64) else (s21.1 (r 32) i20)) = J24 → sx_S g E E H0 H locs → mm g H = s21 → va_P D classes [(o, .inr (0, mo_fs r (mi (nI 0) (nI tp) (nI ms) (nI rs) (nI kc))))] H → lv_has ls 3 [(2, .int (nI (i20))), (0, .ref o)] → W p l e rm_M_sign_a s m args below meth c H locs 0 0 Q (F0 m 181 ls [.long J24, .int (nI (i20)), .ref (r 40)]) := by
          intro J24 H locs ls eJ24 hS hV hM0 hl
          refine vx_lastJ hx hb hG hK.1 hS hV (moA_40 hA) (moW_40 hW) (by omega) (by decide) d_M_sign_181 (fun H locs X26 eX26 hS hV hO => ?_)
          have hM0 := hO _ _ hM0
          refine lv_iinc (v := nI (i20 + 1)) (lv' := [(2, .int (nI (i20 + 1))), (0, .ref o)]) hx hb d_M_sign_182 hl (k := 0) rfl (sx_inc _ _) (by decide) rfl (fun ls hl => ?_)
          refine lv_goto (tgt := 154) hx hb d_M_sign_185 (by decide) ?_
          exact ihi20 X26 _ _ _ (by subst eJ24 eX26; exact rfl) ⟨hS, hV, hM0, lv_sub hl [0, 1] rfl⟩
        refine lv_icmp_ge (tgt := 180) hx hb d_M_sign_168 (by decide) (fun q168_22 => ?_) (fun q168_22 => ?_)
        · skip
          have q168_22 : 16 ≤ i20 := (nI_leI (a := 16) (b := i20) (by omega) (by omega)).mp q168_22
          refine lv_lconst (v := 0) hx hb d_M_sign_180 (by decide +kernel) ?_
          exact jn181_24 (0 : Int64) _ _ _ (vx_p q168_22 rfl) hS hV hM0 (lv_sub hl [0, 1] rfl)
        · skip
          have q168_22 : ¬ (16 ≤ i20) := fun z => q168_22 ((nI_leI (a := 16) (b := i20) (by omega) (by omega)).mpr z)
          refine lv_aload_n hx hb d_M_sign_171 rfl (lv_at hl 1 rfl) ?_
          refine sx_get EE hM0 rfl i_M 32 (by decide) rfl fl_M_94 rfl d_M_sign_172 ?_
          refine W.eq (g2 := F0 m 175 ls [.ref (r 32), .int (nI (i20)), .ref (r 40)]) rfl ?_
          refine lv_iload_n hx hb d_M_sign_175 rfl (lv_at hl 0 rfl) ?_
          refine vx_lald hx hb hG hS hV (moA_32 hA) (by omega) (by decide) d_M_sign_176 ?_
          refine lv_goto (tgt := 181) hx hb d_M_sign_177 (by decide) ?_
          exact jn181_24 (s21.1 (r 32) i20) _ _ _ (vx_n q168_22 rfl) hS hV hM0 (lv_sub hl [0, 1] rfl)
      · intro H locs ls hP
        obtain ⟨hS, hV, hM0, hl⟩ := hP
        refine lv_iload_n hx hb d_M_sign_154 rfl (lv_at hl 0 rfl) ?_
        refine lv_bipush (v := nI 32) hx hb d_M_sign_155 (by decide +kernel) ?_
        refine lv_icmp_ge (tgt := 188) hx hb d_M_sign_157 (by decide) (fun _ => ?_) (fun q => absurd (nI_le (by omega) (by omega)) q)
        refine lv_aload_n hx hb d_M_sign_188 rfl (lv_at hl 1 rfl) ?_
        refine lv_aload_n hx hb d_M_sign_189 rfl (lv_at hl 1 rfl) ?_
        refine sx_get EE hM0 rfl i_M 32 (by decide) rfl fl_M_94 rfl d_M_sign_190 ?_
        refine W.eq (g2 := F0 m 193 ls [.ref (r 32), .ref o]) rfl ?_
        refine lv_aload_n hx hb d_M_sign_193 rfl (lv_at hl 1 rfl) ?_
        refine sx_get EE hM0 rfl i_M 12 (by decide) rfl fl_M_34 rfl d_M_sign_194 ?_
        refine W.eq (g2 := F0 m 197 ls [.ref (r 12), .ref (r 32), .ref o]) rfl ?_
        refine lv_aload_n hx hb d_M_sign_197 rfl (lv_at hl 1 rfl) ?_
        refine sx_get EE hM0 rfl i_M 13 (by decide) rfl fl_M_37 rfl d_M_sign_198 ?_
        refine W.eq (g2 := F0 m 201 ls [.ref (r 13), .ref (r 12), .ref (r 32), .ref o]) rfl ?_
        have hA_ : ∀ q ∈ mo_arr, sx_A g q.2.1 H (r q.1) q.2.2 := fun q hq => hS.1.2.2.1 _ _ _ (hA q hq)
        refine vx_gvJ (sx_runV (As := [.ref (r 32), .ref (r 12), .ref (r 13)]) (rest := []) EE hM0 rfl rfl (v_M_reduce (E := cutE E o) (X := R22) ⟨hM0, hA_⟩ (fun z_ => z_.2 rfl) (mo_cut hG hK.1 hM0 hA_ hW) (hS.a (moA_32 hA)) ⟨(moW_32 hW), vx_ne hG hK.1 hM0 (hS.a (moA_32 hA))⟩ (hS.a (moA_12 hA)) (hS.a (moA_13 hA)) hV) w_M_225 rfl ⟨rfl, rfl⟩ ⟨Nat.le_of_ble_eq_true rfl, Nat.le_of_ble_eq_true rfl⟩ ⟨Nat.zero_le _, Nat.zero_le _⟩ hl.1 rfl (Nat.le_of_ble_eq_true rfl) d_M_sign_201) (fun z_ h_ => h_.1) hS (fun H locs X27 eX27 hS hV hJ_ => ?_)
        have hM0 := hJ_.ob (fun z_ => z_.2 rfl) hM0
        refine lv_aload_n hx hb d_M_sign_204 rfl (lv_at hl 1 rfl) ?_
        refine lv_aload_n hx hb d_M_sign_205 rfl (lv_at hl 1 rfl) ?_
        refine sx_get EE hM0 rfl i_M 33 (by decide) rfl fl_M_97 rfl d_M_sign_206 ?_
        refine W.eq (g2 := F0 m 209 ls [.ref (r 33), .ref o]) rfl ?_
        refine lv_aload_n hx hb d_M_sign_209 rfl (lv_at hl 1 rfl) ?_
        refine sx_get EE hM0 rfl i_M 33 (by decide) rfl fl_M_97 rfl d_M_sign_210 ?_
        refine W.eq (g2 := F0 m 213 ls [.ref (r 33), .ref (r 33), .ref o]) rfl ?_
        refine lv_aload_n hx hb d_M_sign_213 rfl (lv_at hl 1 rfl) ?_
        refine sx_get EE hM0 rfl i_M 32 (by decide) rfl fl_M_94 rfl d_M_sign_214 ?_
        refine W.eq (g2 := F0 m 217 ls [.ref (r 32), .ref (r 33), .ref (r 33), .ref o]) rfl ?_
        refine lv_aload_n hx hb d_M_sign_217 rfl (lv_at hl 1 rfl) ?_
        refine sx_get EE hM0 rfl i_M 12 (by decide) rfl fl_M_34 rfl d_M_sign_218 ?_
        refine W.eq (g2 := F0 m 221 ls [.ref (r 12), .ref (r 32), .ref (r 33), .ref (r 33), .ref o]) rfl ?_
        refine lv_aload_n hx hb d_M_sign_221 rfl (lv_at hl 1 rfl) ?_
        refine sx_get EE hM0 rfl i_M 13 (by decide) rfl fl_M_37 rfl d_M_sign_222 ?_
        refine W.eq (g2 := F0 m 225 ls [.ref (r 13), .ref (r 12), .ref (r 32), .ref (r 33), .ref (r 33), .ref o]) rfl ?_
        have hA_ : ∀ q ∈ mo_arr, sx_A g q.2.1 H (r q.1) q.2.2 := fun q hq => hS.1.2.2.1 _ _ _ (hA q hq)
        refine vx_gvJ (sx_runV (As := [.ref (r 33), .ref (r 33), .ref (r 32), .ref (r 12), .ref (r 13)]) (rest := []) EE hM0 rfl rfl (v_M_times (E := cutE E o) (X := X27) ⟨hM0, hA_⟩ (fun z_ => z_.2 rfl) (mo_cut hG hK.1 hM0 hA_ hW) (hS.a (moA_33 hA)) ⟨(moW_33 hW), vx_ne hG hK.1 hM0 (hS.a (moA_33 hA))⟩ (hS.a (moA_33 hA)) (hS.a (moA_32 hA)) (hS.a (moA_12 hA)) (hS.a (moA_13 hA)) hV) w_M_188 rfl ⟨rfl, rfl⟩ ⟨Nat.le_of_ble_eq_true rfl, Nat.le_of_ble_eq_true rfl⟩ ⟨Nat.zero_le _, Nat.zero_le _⟩ hl.1 rfl (Nat.le_of_ble_eq_true rfl) d_M_sign_225) (fun z_ h_ => h_.1) hS (fun H locs X28 eX28 hS hV hJ_ => ?_)
        have hM0 := hJ_.ob (fun z_ => z_.2 rfl) hM0
        refine lv_aload_n hx hb d_M_sign_228 rfl (lv_at hl 1 rfl) ?_
        refine sx_get EE hM0 rfl i_M 33 (by decide) rfl fl_M_97 rfl d_M_sign_229 ?_
        refine W.eq (g2 := F0 m 232 ls [.ref (r 33)]) rfl ?_
        refine lv_aload_n hx hb d_M_sign_232 rfl (lv_at hl 1 rfl) ?_
        refine sx_get EE hM0 rfl i_M 33 (by decide) rfl fl_M_97 rfl d_M_sign_233 ?_
        refine W.eq (g2 := F0 m 236 ls [.ref (r 33), .ref (r 33)]) rfl ?_
        refine lv_aload_n hx hb d_M_sign_236 rfl (lv_at hl 1 rfl) ?_
        refine sx_get EE hM0 rfl i_M 31 (by decide) rfl fl_M_91 rfl d_M_sign_237 ?_
        refine W.eq (g2 := F0 m 240 ls [.ref (r 31), .ref (r 33), .ref (r 33)]) rfl ?_
        refine lv_aload_n hx hb d_M_sign_240 rfl (lv_at hl 1 rfl) ?_
        refine sx_get EE hM0 rfl i_M 12 (by decide) rfl fl_M_34 rfl d_M_sign_241 ?_
        refine W.eq (g2 := F0 m 244 ls [.ref (r 12), .ref (r 31), .ref (r 33), .ref (r 33)]) rfl ?_
        refine vx_gvJ (sx_runS (As := [.ref (r 33), .ref (r 33), .ref (r 31), .ref (r 12)]) (rest := []) EE (v_M_plus (E := (cutE E o)) (X := X28) (hS.a (moA_33 hA)) ⟨(moW_33 hW), vx_ne hG hK.1 hM0 (hS.a (moA_33 hA))⟩ (hS.a (moA_33 hA)) (hS.a (moA_31 hA)) (hS.a (moA_12 hA)) hV) w_M_222 rfl ⟨rfl, rfl⟩ ⟨Nat.le_of_ble_eq_true rfl, Nat.le_of_ble_eq_true rfl⟩ ⟨Nat.zero_le _, Nat.zero_le _⟩ hl.1 rfl (Nat.le_of_ble_eq_true rfl) d_M_sign_244) (fun z_ h_ => h_.1) hS (fun H locs X29 eX29 hS hV hJ_ => ?_)
        have hM0 := hJ_.ob (fun z_ => z_.2 rfl) hM0
        refine lv_aload_n hx hb d_M_sign_247 rfl (lv_at hl 1 rfl) ?_
        refine lv_aload_n hx hb d_M_sign_248 rfl (lv_at hl 1 rfl) ?_
        refine sx_get EE hM0 rfl i_M 37 (by decide) rfl fl_M_109 rfl d_M_sign_249 ?_
        refine W.eq (g2 := F0 m 252 ls [.ref (r 37), .ref o]) rfl ?_
        refine lv_iconst (v := nI 0) hx hb d_M_sign_252 (by decide +kernel) ?_
        refine lv_bipush (v := nI 32) hx hb d_M_sign_253 (by decide +kernel) ?_
        refine vx_gvP (sx_runV (As := [.ref (r 37), .int (nI (0)), .int (nI (32))]) (rest := []) EE hM0 rfl rfl (v_M_tell (X := X29) hM0 eM (fun q hq => hS.1.2.2.1 _ _ _ (hA q hq)) hW (hS.a (moA_37 hA)) (h_tp := by omega) (h_ms := by omega) (h_rs := by omega) (h_kc := by omega) (by omega) (by omega) hV) w_M_336 rfl ⟨rfl, rfl⟩ ⟨Nat.le_of_ble_eq_true rfl, Nat.le_of_ble_eq_true rfl⟩ ⟨Nat.zero_le _, Nat.zero_le _⟩ hl.1 rfl (Nat.le_of_ble_eq_true rfl) d_M_sign_255) (fun z_ h_ => h_) hS (fun H locs X30 eX30 hM0 hS hV hJ_ => ?_)
        have hM0 : va_P D classes [(o, .inr (0, mo_fs r (mi (nI 0) (nI tp) (nI ms) (nI 32) (nI kc))))] H := hM0
        refine lv_iconst (v := nI 0) hx hb d_M_sign_258 (by decide +kernel) ?_
        refine lv_istore_n (lv' := [(2, .int (nI (0))), (0, .ref o)]) hx hb d_M_sign_259 rfl hl (by decide) rfl (fun ls hl => ?_)
        obtain ⟨R33, eR33⟩ : ∃ t : vM, lpU 1 (LL_M_sign_260 r) 32 0 X30 = t := ⟨_, rfl⟩
        refine lpU_go (σ := vM) (P := fun i31 s32 H locs ls => sx_S g E E H0 H locs ∧ mm g H = s32 ∧ va_P D classes [(o, .inr (0, mo_fs r (mi (nI 0) (nI tp) (nI ms) (nI 32) (nI kc))))] H ∧ lv_has ls 3 [(2, .int (nI (i31))), (0, .ref o)]) (Wd := fun H locs ls => W p l e rm_M_sign_a s m args below meth c H locs 0 0 Q (F0 m 260 ls [])) (N := 32) (d := 1) (by decide) ?_ ?_ 32 0 _ (by omega) eR33 _ _ _ ⟨hS, hV, hM0, lv_sub hl [0, 1] rfl⟩
        · intro i31 s32 H locs ls hii31 hP ihi31
          obtain ⟨hS, hV, hM0, hl⟩ := hP
          refine lv_iload_n hx hb d_M_sign_260 rfl (lv_at hl 0 rfl) ?_
          refine lv_bipush (v := nI 32) hx hb d_M_sign_261 (by decide +kernel) ?_
          refine lv_icmp_ge (tgt := 295) hx hb d_M_sign_263 (by decide) (fun q => absurd q (nI_ge (by omega) (by omega))) (fun _ => ?_)
          refine lv_aload_n hx hb d_M_sign_266 rfl (lv_at hl 1 rfl) ?_
          refine sx_get EE hM0 rfl i_M 35 (by decide) rfl fl_M_103 rfl d_M_sign_267 ?_
          refine W.eq (g2 := F0 m 270 ls [.ref (r 35)]) rfl ?_
          refine lv_iload_n hx hb d_M_sign_270 rfl (lv_at hl 0 rfl) ?_
          refine lv_aload_n hx hb d_M_sign_271 rfl (lv_at hl 1 rfl) ?_
          refine sx_get EE hM0 rfl i_M 33 (by decide) rfl fl_M_97 rfl d_M_sign_272 ?_
          refine W.eq (g2 := F0 m 275 ls [.ref (r 33), .int (nI (i31)), .ref (r 35)]) rfl ?_
          refine lv_iload_n hx hb d_M_sign_275 rfl (lv_at hl 0 rfl) ?_
          refine lv_iconst (v := nI 2) hx hb d_M_sign_276 (by decide +kernel) ?_
          refine lv_idiv hx hb d_M_sign_277 (nI_ne0 (by omega) (by omega)) ?_
          refine sx_ti (y := nI (i31 / 2)) (pk_div (by omega) (by omega) (by omega)) ?_
          refine vx_lald hx hb hG hS hV (moA_33 hA) (by omega) (by decide) d_M_sign_278 ?_
          refine lv_bipush (v := nI 8) hx hb d_M_sign_279 (by decide +kernel) ?_
          refine lv_iload_n hx hb d_M_sign_281 rfl (lv_at hl 0 rfl) ?_
          refine lv_iconst (v := nI 2) hx hb d_M_sign_282 (by decide +kernel) ?_
          refine lv_irem hx hb d_M_sign_283 (nI_ne0 (by omega) (by omega)) ?_
          refine sx_ti (y := nI (i31 % 2)) (pk_rem (by omega) (by omega) (by omega)) ?_
          refine lv_imul hx hb d_M_sign_284 ?_
          refine sx_ti (y := nI (8 * (i31 % 2))) (pk_mul _ _) ?_
          refine lv_lshr hx hb d_M_sign_285 rfl ?_
          refine lv_l2i hx hb d_M_sign_286 rfl ?_
          refine lv_i2b hx hb d_M_sign_287 rfl ?_
          refine vx_bastJ hx hb hG hK.1 hS hV (moA_35 hA) (moW_35 hW) (by omega) (by decide) d_M_sign_288 (fun H locs X34 eX34 hS hV hO => ?_)
          have hM0 := hO _ _ hM0
          refine lv_iinc (v := nI (i31 + 1)) (lv' := [(2, .int (nI (i31 + 1))), (0, .ref o)]) hx hb d_M_sign_289 hl (k := 0) rfl (sx_inc _ _) (by decide) rfl (fun ls hl => ?_)
          refine lv_goto (tgt := 260) hx hb d_M_sign_292 (by decide) ?_
          exact ihi31 X34 _ _ _ (by subst eX34; exact rfl) ⟨hS, hV, hM0, lv_sub hl [0, 1] rfl⟩
        · intro H locs ls hP
          obtain ⟨hS, hV, hM0, hl⟩ := hP
          refine lv_iload_n hx hb d_M_sign_260 rfl (lv_at hl 0 rfl) ?_
          refine lv_bipush (v := nI 32) hx hb d_M_sign_261 (by decide +kernel) ?_
          refine lv_icmp_ge (tgt := 295) hx hb d_M_sign_263 (by decide) (fun _ => ?_) (fun q => absurd (nI_le (by omega) (by omega)) q)
          refine lv_aload_n hx hb d_M_sign_295 rfl (lv_at hl 1 rfl) ?_
          refine lv_aload_n hx hb d_M_sign_296 rfl (lv_at hl 1 rfl) ?_
          refine sx_get EE hM0 rfl i_M 35 (by decide) rfl fl_M_103 rfl d_M_sign_297 ?_
          refine W.eq (g2 := F0 m 300 ls [.ref (r 35), .ref o]) rfl ?_
          refine lv_bipush (v := nI 32) hx hb d_M_sign_300 (by decide +kernel) ?_
          refine lv_bipush (v := nI 32) hx hb d_M_sign_302 (by decide +kernel) ?_
          refine vx_gvP (sx_runV (As := [.ref (r 35), .int (nI (32)), .int (nI (32))]) (rest := []) EE hM0 rfl rfl (v_M_tell (X := R33) hM0 eM (fun q hq => hS.1.2.2.1 _ _ _ (hA q hq)) hW (hS.a (moA_35 hA)) (h_tp := by omega) (h_ms := by omega) (h_rs := by omega) (h_kc := by omega) (by omega) (by omega) hV) w_M_336 rfl ⟨rfl, rfl⟩ ⟨Nat.le_of_ble_eq_true rfl, Nat.le_of_ble_eq_true rfl⟩ ⟨Nat.zero_le _, Nat.zero_le _⟩ hl.1 rfl (Nat.le_of_ble_eq_true rfl) d_M_sign_304) (fun z_ h_ => h_) hS (fun H locs X35 eX35 hM0 hS hV hJ_ => ?_)
          have hM0 : va_P D classes [(o, .inr (0, mo_fs r (mi (nI 0) (nI tp) (nI ms) (nI 64) (nI kc))))] H := hM0
          refine lv_aload_n hx hb d_M_sign_307 rfl (lv_at hl 1 rfl) ?_
          refine sx_get EE hM0 rfl i_M 9 (by decide) rfl fl_M_23 rfl d_M_sign_308 ?_
          refine W.eq (g2 := F0 m 311 ls [.ref (r 9)]) rfl ?_
          refine lv_iconst (v := nI 0) hx hb d_M_sign_311 (by decide +kernel) ?_
          refine lv_dup2_11 hx hb d_M_sign_312 rfl rfl ?_
          refine vx_iald hx hb hG hS hV (moA_9 hA) (by omega) (by decide) d_M_sign_313 ?_
          refine lv_iconst (v := nI 1) hx hb d_M_sign_314 (by decide +kernel) ?_
          refine lv_iadd hx hb d_M_sign_315 ?_
          refine vx_iastJ hx hb hG hK.1 hS hV (moA_9 hA) (moW_9 hW) (by omega) (by decide) d_M_sign_316 (fun H locs X36 eX36 hS hV hO => ?_)
          have hM0 := hO _ _ hM0
          exact hret _ _ _ _ _ (by subst eX1 eX4 eR7 eX9 eX10 eX11 eX12 eR15 eX18 eX19 eR22 eX27 eX28 eX29 eX30 eR33 eX35 eX36; exact rfl) hM0 hS hV d_M_sign_317
def LF_M_sign_b (X : vM) (r : Nat → Nat) (v0 : Int32) (tp : Nat) (ms : Nat) (rs : Nat) (kc : Nat) : vM := (let X1 : vM := (LF_M_none X r v0 tp ms rs kc).1; X1)
abbrev rm_M_sign_b : Room := { frames := 1, cells := 0, slots := 0, locals := 21 }
set_option maxHeartbeats 4000000 in
set_option maxRecDepth 100000 in
theorem v_M_sign_b {l : Launch} {D : va_G} {g : ClassId → FieldType → Prop} {E : Nat → Prop} {H0 : Heap} {X : vM} {o : Nat} {r : Nat → Nat} {th : Int32} {tp : Nat} {ms : Nat} {rs : Nat} {kc : Nat} {v0 : Int32} (hM0 : va_P D classes [(o, .inr (0, mo_fs r (mi th (nI tp) (nI ms) (nI rs) (nI kc))))] H0) (eM : E o) (hA : ∀ q ∈ mo_arr, sx_A g q.2.1 H0 (r q.1) q.2.2) (hW : ∀ q ∈ mo_arr, E (r q.1))  (h_tp : tp ≤ 65536) (h_ms : ms ≤ 65536) (h_rs : rs ≤ 64) (h_kc : kc ≤ 100) (hn : (LF_M_none X r v0 tp ms rs kc).2 = true) (hV : mm g H0 = X) : Met l y_M_sign (.code y_M_sign b_M_sign 3 none :: G_) rm_M_sign_b (sx_Pc [.ref o, .int v0] H0 D g) (vx_QvP g E H0 (LF_M_sign_b X r v0 tp ms rs kc) (fun H => va_P D classes [(o, .inr (0, mo_fs r (mi (nI 1) (nI tp) (nI ms) (nI rs) (nI kc))))] H)) 0 0 E := by
  refine vx_mvP (own := R_M) (by decide) rfl rfl rfl (Nat.le_of_ble_eq_true rfl) ?_
  intro p e s m args below meth c Q ls EE hl hret
  obtain ⟨hx, hb, hml, hown, hts, hG, hK⟩ := id EE
  have hS : sx_S g E E H0 H0 [] := sx_S.rf
  have hl : lv_has ls 3 [(0, .ref o), (1, .int v0)] := hl
  refine lv_aload_n hx hb d_M_sign_0 rfl (lv_at hl 0 rfl) ?_
  refine lv_aload_n hx hb d_M_sign_1 rfl (lv_at hl 0 rfl) ?_
  refine lv_iload_n hx hb d_M_sign_2 rfl (lv_at hl 1 rfl) ?_
  refine vx_giP (sx_runV (As := [.int v0]) (rest := [.ref o]) EE hM0 rfl rfl (v_M_none (X := X) hM0 eM (fun q hq => hS.1.2.2.1 _ _ _ (hA q hq)) hW (h_tp := by omega) (h_ms := by omega) (h_rs := by omega) (h_kc := by omega) hV) w_M_328 rfl ⟨rfl, rfl⟩ ⟨Nat.le_of_ble_eq_true rfl, Nat.le_of_ble_eq_true rfl⟩ ⟨Nat.zero_le _, Nat.zero_le _⟩ hl.1 rfl (Nat.le_of_ble_eq_true rfl) d_M_sign_3) (fun z_ h_ => h_) hS (fun H locs X1 eX1 hM0 hS hV hJ_ => ?_)
  refine sx_ti (y := nI 1) (by rw [show (LF_M_none _ r v0 tp ms rs kc).2 = true from hn]; rfl) ?_
  have hM0 : va_P D classes [(o, .inr (0, mo_fs r (mi th (nI tp) (nI ms) (nI rs) (nI kc))))] H := hM0
  refine lv_if_eq (tgt := 13) hx hb d_M_sign_6 (by decide) (fun q6_1 => absurd (show 1 = 0 by have q6_1 : 1 = 0 := (nI_eq (a := 1) (b := 0) (by omega) (by omega)).mp q6_1; exact q6_1) (by decide)) (fun _ => ?_)
  refine lv_iconst (v := nI 1) hx hb d_M_sign_9 (by decide +kernel) ?_
  refine lv_goto (tgt := 14) hx hb d_M_sign_10 (by decide) ?_
  have h0_ := hM0
  refine sx_put EE hM0 rfl i_M t_M tok_M n_M 0 (by decide) rfl fl_M_211 (ty := .int) (by decide +kernel) rfl rfl (Nat.le_of_ble_eq_true rfl) eM hS d_M_sign_14 (fun H locs hM0 hJ_ hs_ hS => ?_)
  have hM0 : va_P D classes [(o, .inr (0, mo_fs r (mi (nI 1) (nI tp) (nI ms) (nI rs) (nI kc))))] H := hM0
  have hV := (vx_obj hG hK.1 h0_ hM0 hs_).trans hV
  refine lv_aload_n hx hb d_M_sign_17 rfl (lv_at hl 0 rfl) ?_
  refine sx_get EE hM0 rfl i_M 0 (by decide) rfl fl_M_211 rfl d_M_sign_18 ?_
  refine W.eq (g2 := F0 m 21 ls [.int (nI (1))]) rfl ?_
  refine lv_if_le (tgt := 25) hx hb d_M_sign_21 (by decide) (fun q21_2 => absurd (show 1 ≤ 0 by have q21_2 : 1 ≤ 0 := (nI_leI (a := 1) (b := 0) (by omega) (by omega)).mp q21_2; exact q21_2) (by decide)) (fun _ => ?_)
  exact hret _ _ _ _ _ (by subst eX1; exact rfl) hM0 hS hV d_M_sign_24
