def LL_M_decode_2 (r : Nat → Nat) : Nat → vM → vM := fun i_0 s_1 => (let J_2 : Int32 := if i_0 = 15 then ((s_1.2 (r 35) 31) &&& (nI 127)) else ((s_1.2 (r 35) ((2 * i_0) + 1)) &&& (nI 255)); (let X_3 : vM := stL s_1 (r 21) i_0 ((((s_1.2 (r 35) (2 * i_0)) &&& (nI 255)) ||| (J_2 <<< ((nI 8) &&& 31))).toInt64); X_3))
def LL_M_decode_214 (r : Nat → Nat) : Nat → vM → vM := fun i_0 s_1 => (let J_2 : Int64 := if i_0 = 0 then (65534 : Int64) else (if i_0 = 15 then ((4095 : Int64)) else ((65535 : Int64))); (let X_3 : vM := stL s_1 (r 27) i_0 J_2; X_3))
def LF_M_decode (X : vM) (r : Nat → Nat) : vM × Bool := (let R3 : vM := lpU 1 (LL_M_decode_2 r) 16 0 X; if (LF_M_below R3 (r 21) (r 10)) = true then (let X9 : vM := (LF_M_times R3 r (r 24) (r 21) (r 21) (r 10) (r 11)); let X10 : vM := (LF_M_times X9 r (r 25) (r 24) (r 14) (r 10) (r 11)); let X11 : vM := (LF_M_minus X10 (r 24) (r 24) (r 30) (r 10)); let X12 : vM := (LF_M_plus X11 (r 25) (r 25) (r 30) (r 10)); let X13 : vM := (LF_M_inverse X12 r (r 26) (r 25) (r 10)); let X14 : vM := (LF_M_times X13 r (r 24) (r 24) (r 26) (r 10) (r 11)); let R17 : vM := lpU 1 (LL_M_decode_214 r) 16 0 X14; (let X24 : vM := (LF_M_power R17 r (r 20) (r 24) (r 27)); let X25 : vM := (LF_M_times X24 r (r 26) (r 20) (r 20) (r 10) (r 11)); let J28 : vM := if (LF_M_alike X25 (r 26) (r 24)) = true then X25 else (let X27 : vM := (LF_M_times X25 r (r 20) (r 20) (r 15) (r 10) (r 11)); X27); (let X30 : vM := (LF_M_times J28 r (r 26) (r 20) (r 20) (r 10) (r 11)); if (LF_M_alike X30 (r 26) (r 24)) = true then (let z32 : Int32 := (((X30.2 (r 35) 31) >>> ((nI 7) &&& 31)) &&& (nI 1)); if (LF_M_zero X30 (r 20)) = true then (if z32 = (nI 1) then (X30, false) else (let J45 : vM := if ((X30.1 (r 20) 0) &&& (1 : Int64)) = z32.toInt64 then X30 else (let X43 : vM := (LF_M_set X30 (r 26) (nI 0)); let X44 : vM := (LF_M_minus X43 (r 20) (r 26) (r 20) (r 10)); X44); (J45, true))) else (let J37 : vM := if ((X30.1 (r 20) 0) &&& (1 : Int64)) = z32.toInt64 then X30 else (let X35 : vM := (LF_M_set X30 (r 26) (nI 0)); let X36 : vM := (LF_M_minus X35 (r 20) (r 26) (r 20) (r 10)); X36); (J37, true))) else (X30, false)))) else (R3, false))
abbrev rm_M_decode : Room := { frames := 4, cells := 0, slots := 0, locals := 109 }
set_option maxHeartbeats 4000000 in
set_option maxRecDepth 100000 in
theorem v_M_decode {l : Launch} {D : va_G} {g : ClassId → FieldType → Prop} {E : Nat → Prop} {H0 : Heap} {X : vM} {o : Nat} {r : Nat → Nat} {i : Nat → Int32} (hM : mo_ D g H0 o r i) (hE : ¬ E o) (hW : ∀ q ∈ mo_wr, E (r q.1)) (hV : mm g H0 = X) : Met l y_M_decode (.code y_M_decode b_M_decode 2 (some .boolean) :: G_) rm_M_decode (sx_Pc [.ref o] H0 D g) (vx_Qi g E H0 (LF_M_decode X r).1 (nI ((LF_M_decode X r).2).toNat)) 0 0 E := by
  refine vx_mz (own := R_M) (by decide) rfl rfl rfl (Nat.le_of_ble_eq_true rfl) ?_
  intro p e s m args below meth c Q ls EE hl hret
  obtain ⟨hx, hb, hml, hown, hts, hG, hK⟩ := id EE
  have hS : sx_S g E E H0 H0 [] := sx_S.rf
  have hl : lv_has ls 2 [(0, .ref o)] := hl
  refine lv_iconst (v := nI 0) hx hb d_M_decode_0 (by decide +kernel) ?_
  refine lv_istore_n (lv' := [(1, .int (nI (0))), (0, .ref o)]) hx hb d_M_decode_1 rfl hl (by decide) rfl (fun ls hl => ?_)
  obtain ⟨R3, eR3⟩ : ∃ t : vM, lpU 1 (LL_M_decode_2 r) 16 0 X = t := ⟨_, rfl⟩
  refine lpU_go (σ := vM) (P := fun i1 s2 H locs ls => sx_S g E E H0 H locs ∧ mm g H = s2 ∧ lv_has ls 2 [(1, .int (nI (i1))), (0, .ref o)]) (Wd := fun H locs ls => W p l e rm_M_decode s m args below meth c H locs 0 0 Q (F0 m 2 ls [])) (N := 16) (d := 1) (by decide) ?_ ?_ 16 0 _ (by omega) eR3 _ _ _ ⟨hS, hV, lv_sub hl [0, 1] rfl⟩
  · intro i1 s2 H locs ls hii1 hP ihi1
    obtain ⟨hS, hV, hl⟩ := hP
    refine lv_iload_n hx hb d_M_decode_2 rfl (lv_at hl 0 rfl) ?_
    refine lv_bipush (v := nI 16) hx hb d_M_decode_3 (by decide +kernel) ?_
    refine lv_icmp_ge (tgt := 70) hx hb d_M_decode_5 (by decide) (fun q => absurd q (nI_ge (by omega) (by omega))) (fun _ => ?_)
    refine lv_aload_n hx hb d_M_decode_8 rfl (lv_at hl 1 rfl) ?_
    refine sx_get EE (hS.1.ob hE hM.1) rfl i_M 21 (by decide) rfl fl_M_61 rfl d_M_decode_9 ?_
    refine lv_iload_n hx hb d_M_decode_12 rfl (lv_at hl 0 rfl) ?_
    refine lv_aload_n hx hb d_M_decode_13 rfl (lv_at hl 1 rfl) ?_
    refine sx_get EE (hS.1.ob hE hM.1) rfl i_M 35 (by decide) rfl fl_M_103 rfl d_M_decode_14 ?_
    refine lv_iconst (v := nI 2) hx hb d_M_decode_17 (by decide +kernel) ?_
    refine lv_iload_n hx hb d_M_decode_18 rfl (lv_at hl 0 rfl) ?_
    refine lv_imul hx hb d_M_decode_19 ?_
    refine sx_ti (y := nI (2 * i1)) (pk_mul _ _) ?_
    refine vx_bald hx hb hG hS hV (mo_35 hM) (by omega) (by decide) d_M_decode_20 ?_
    refine lv_sipush (v := nI 255) hx hb d_M_decode_21 (by decide +kernel) ?_
    refine lv_iand hx hb d_M_decode_24 ?_
    refine lv_iload_n hx hb d_M_decode_25 rfl (lv_at hl 0 rfl) ?_
    refine lv_bipush (v := nI 15) hx hb d_M_decode_26 (by decide +kernel) ?_
    have jn58_5 : ∀ (J5 : Int32) (H : Heap) (locs : List Loc) (ls : Array Slot), (if i1 = 15 then ((s2.2 (r 35) 31) &&& (nI 127)) else ((s2.2 (r 35) ((2 * i1) + 1)) &&& (nI 255))) = J5 → sx_S g E E H0 H locs → mm g H = s2 → lv_has ls 2 [(1, .int (nI (i1))), (0, .ref o)] → W p l e rm_M_decode s m args below meth c H locs 0 0 Q (F0 m 58 ls [.int J5, .int ((s2.2 (r 35) (2 * i1)) &&& (nI 255)), .int (nI (i1)), .ref (r 21)]) := by
      intro J5 H locs ls eJ5 hS hV hl
      refine lv_bipush (v := nI 8) hx hb d_M_decode_58 (by decide +kernel) ?_
      refine lv_ishl hx hb d_M_decode_60 ?_
      refine lv_ior hx hb d_M_decode_61 ?_
      refine lv_i2l hx hb d_M_decode_62 rfl ?_
      refine vx_last hx hb hG hS hV (mo_21 hM) (mow_21 hW) (by omega) (by decide) d_M_decode_63 (fun H locs X7 eX7 hS hV => ?_)
      refine lv_iinc (v := nI (i1 + 1)) (lv' := [(1, .int (nI (i1 + 1))), (0, .ref o)]) hx hb d_M_decode_64 hl (k := 0) rfl (sx_inc _ _) (by decide) rfl (fun ls hl => ?_)
      refine lv_goto (tgt := 2) hx hb d_M_decode_67 (by decide) ?_
      exact ihi1 X7 _ _ _ (by subst eJ5 eX7; exact rfl) ⟨hS, hV, lv_sub hl [0, 1] rfl⟩
    refine lv_icmp_ne (tgt := 44) hx hb d_M_decode_28 (by decide) (fun q28_3 => ?_) (fun q28_3 => ?_)
    · skip
      have q28_3 : ¬ (i1 = 15) := fun z => q28_3 ((nI_eq (a := i1) (b := 15) (by omega) (by omega)).mpr z)
      refine lv_aload_n hx hb d_M_decode_44 rfl (lv_at hl 1 rfl) ?_
      refine sx_get EE (hS.1.ob hE hM.1) rfl i_M 35 (by decide) rfl fl_M_103 rfl d_M_decode_45 ?_
      refine lv_iconst (v := nI 2) hx hb d_M_decode_48 (by decide +kernel) ?_
      refine lv_iload_n hx hb d_M_decode_49 rfl (lv_at hl 0 rfl) ?_
      refine lv_imul hx hb d_M_decode_50 ?_
      refine sx_ti (y := nI (2 * i1)) (pk_mul _ _) ?_
      refine lv_iconst (v := nI 1) hx hb d_M_decode_51 (by decide +kernel) ?_
      refine lv_iadd hx hb d_M_decode_52 ?_
      refine sx_ti (y := nI ((2 * i1) + 1)) (nI_add _ _) ?_
      refine vx_bald hx hb hG hS hV (mo_35 hM) (by omega) (by decide) d_M_decode_53 ?_
      refine lv_sipush (v := nI 255) hx hb d_M_decode_54 (by decide +kernel) ?_
      refine lv_iand hx hb d_M_decode_57 ?_
      exact jn58_5 ((s2.2 (r 35) ((2 * i1) + 1)) &&& (nI 255)) _ _ _ (vx_n q28_3 rfl) hS hV (lv_sub hl [0, 1] rfl)
    · skip
      have q28_3 : i1 = 15 := (nI_eq (a := i1) (b := 15) (by omega) (by omega)).mp q28_3
      refine lv_aload_n hx hb d_M_decode_31 rfl (lv_at hl 1 rfl) ?_
      refine sx_get EE (hS.1.ob hE hM.1) rfl i_M 35 (by decide) rfl fl_M_103 rfl d_M_decode_32 ?_
      refine lv_bipush (v := nI 31) hx hb d_M_decode_35 (by decide +kernel) ?_
      refine vx_bald hx hb hG hS hV (mo_35 hM) (by omega) (by decide) d_M_decode_37 ?_
      refine lv_bipush (v := nI 127) hx hb d_M_decode_38 (by decide +kernel) ?_
      refine lv_iand hx hb d_M_decode_40 ?_
      refine lv_goto (tgt := 58) hx hb d_M_decode_41 (by decide) ?_
      exact jn58_5 ((s2.2 (r 35) 31) &&& (nI 127)) _ _ _ (vx_p q28_3 rfl) hS hV (lv_sub hl [0, 1] rfl)
  · intro H locs ls hP
    obtain ⟨hS, hV, hl⟩ := hP
    refine lv_iload_n hx hb d_M_decode_2 rfl (lv_at hl 0 rfl) ?_
    refine lv_bipush (v := nI 16) hx hb d_M_decode_3 (by decide +kernel) ?_
    refine lv_icmp_ge (tgt := 70) hx hb d_M_decode_5 (by decide) (fun _ => ?_) (fun q => absurd (nI_le (by omega) (by omega)) q)
    refine lv_aload_n hx hb d_M_decode_70 rfl (lv_at hl 1 rfl) ?_
    refine sx_get EE (hS.1.ob hE hM.1) rfl i_M 21 (by decide) rfl fl_M_61 rfl d_M_decode_71 ?_
    refine lv_aload_n hx hb d_M_decode_74 rfl (lv_at hl 1 rfl) ?_
    refine sx_get EE (hS.1.ob hE hM.1) rfl i_M 10 (by decide) rfl fl_M_27 rfl d_M_decode_75 ?_
    refine vx_gi (sx_runS (As := [.ref (r 21), .ref (r 10)]) (rest := []) EE (v_M_below (X := R3) (hS.a (mo_21 hM)) (hS.a (mo_10 hM)) hV) w_M_215 rfl ⟨rfl, rfl⟩ ⟨Nat.le_of_ble_eq_true rfl, Nat.le_of_ble_eq_true rfl⟩ ⟨Nat.zero_le _, Nat.zero_le _⟩ hl.1 rfl (Nat.le_of_ble_eq_true rfl) d_M_decode_78) hS (fun H locs X_ eX_ hS hV => ?_)
    subst eX_
    refine lv_if_ne (tgt := 86) hx hb d_M_decode_81 (by decide) (fun q81_7 => ?_) (fun q81_7 => ?_)
    · skip
      have q81_7 := vx_b1 q81_7
      refine lv_aload_n hx hb d_M_decode_86 rfl (lv_at hl 1 rfl) ?_
      refine lv_aload_n hx hb d_M_decode_87 rfl (lv_at hl 1 rfl) ?_
      refine sx_get EE (hS.1.ob hE hM.1) rfl i_M 24 (by decide) rfl fl_M_70 rfl d_M_decode_88 ?_
      refine lv_aload_n hx hb d_M_decode_91 rfl (lv_at hl 1 rfl) ?_
      refine sx_get EE (hS.1.ob hE hM.1) rfl i_M 21 (by decide) rfl fl_M_61 rfl d_M_decode_92 ?_
      refine lv_aload_n hx hb d_M_decode_95 rfl (lv_at hl 1 rfl) ?_
      refine sx_get EE (hS.1.ob hE hM.1) rfl i_M 21 (by decide) rfl fl_M_61 rfl d_M_decode_96 ?_
      refine lv_aload_n hx hb d_M_decode_99 rfl (lv_at hl 1 rfl) ?_
      refine sx_get EE (hS.1.ob hE hM.1) rfl i_M 10 (by decide) rfl fl_M_27 rfl d_M_decode_100 ?_
      refine lv_aload_n hx hb d_M_decode_103 rfl (lv_at hl 1 rfl) ?_
      refine sx_get EE (hS.1.ob hE hM.1) rfl i_M 11 (by decide) rfl fl_M_31 rfl d_M_decode_104 ?_
      refine vx_gv (sx_runV (As := [.ref (r 24), .ref (r 21), .ref (r 21), .ref (r 10), .ref (r 11)]) (rest := []) EE (hS.1.ob hE hM.1) rfl rfl (v_M_times (X := R3) (hM.kept hS.1 hE) hE hW (hS.a (mo_24 hM)) (mow_24 hW) (hS.a (mo_21 hM)) (hS.a (mo_21 hM)) (hS.a (mo_10 hM)) (hS.a (mo_11 hM)) hV) w_M_188 rfl ⟨rfl, rfl⟩ ⟨Nat.le_of_ble_eq_true rfl, Nat.le_of_ble_eq_true rfl⟩ ⟨Nat.zero_le _, Nat.zero_le _⟩ hl.1 rfl (Nat.le_of_ble_eq_true rfl) d_M_decode_107) hS (fun H locs X9 eX9 hS hV => ?_)
      refine lv_aload_n hx hb d_M_decode_110 rfl (lv_at hl 1 rfl) ?_
      refine lv_aload_n hx hb d_M_decode_111 rfl (lv_at hl 1 rfl) ?_
      refine sx_get EE (hS.1.ob hE hM.1) rfl i_M 25 (by decide) rfl fl_M_73 rfl d_M_decode_112 ?_
      refine lv_aload_n hx hb d_M_decode_115 rfl (lv_at hl 1 rfl) ?_
      refine sx_get EE (hS.1.ob hE hM.1) rfl i_M 24 (by decide) rfl fl_M_70 rfl d_M_decode_116 ?_
      refine lv_aload_n hx hb d_M_decode_119 rfl (lv_at hl 1 rfl) ?_
      refine sx_get EE (hS.1.ob hE hM.1) rfl i_M 14 (by decide) rfl fl_M_40 rfl d_M_decode_120 ?_
      refine lv_aload_n hx hb d_M_decode_123 rfl (lv_at hl 1 rfl) ?_
      refine sx_get EE (hS.1.ob hE hM.1) rfl i_M 10 (by decide) rfl fl_M_27 rfl d_M_decode_124 ?_
      refine lv_aload_n hx hb d_M_decode_127 rfl (lv_at hl 1 rfl) ?_
      refine sx_get EE (hS.1.ob hE hM.1) rfl i_M 11 (by decide) rfl fl_M_31 rfl d_M_decode_128 ?_
      refine vx_gv (sx_runV (As := [.ref (r 25), .ref (r 24), .ref (r 14), .ref (r 10), .ref (r 11)]) (rest := []) EE (hS.1.ob hE hM.1) rfl rfl (v_M_times (X := X9) (hM.kept hS.1 hE) hE hW (hS.a (mo_25 hM)) (mow_25 hW) (hS.a (mo_24 hM)) (hS.a (mo_14 hM)) (hS.a (mo_10 hM)) (hS.a (mo_11 hM)) hV) w_M_188 rfl ⟨rfl, rfl⟩ ⟨Nat.le_of_ble_eq_true rfl, Nat.le_of_ble_eq_true rfl⟩ ⟨Nat.zero_le _, Nat.zero_le _⟩ hl.1 rfl (Nat.le_of_ble_eq_true rfl) d_M_decode_131) hS (fun H locs X10 eX10 hS hV => ?_)
      refine lv_aload_n hx hb d_M_decode_134 rfl (lv_at hl 1 rfl) ?_
      refine sx_get EE (hS.1.ob hE hM.1) rfl i_M 24 (by decide) rfl fl_M_70 rfl d_M_decode_135 ?_
      refine lv_aload_n hx hb d_M_decode_138 rfl (lv_at hl 1 rfl) ?_
      refine sx_get EE (hS.1.ob hE hM.1) rfl i_M 24 (by decide) rfl fl_M_70 rfl d_M_decode_139 ?_
      refine lv_aload_n hx hb d_M_decode_142 rfl (lv_at hl 1 rfl) ?_
      refine sx_get EE (hS.1.ob hE hM.1) rfl i_M 30 (by decide) rfl fl_M_88 rfl d_M_decode_143 ?_
      refine lv_aload_n hx hb d_M_decode_146 rfl (lv_at hl 1 rfl) ?_
      refine sx_get EE (hS.1.ob hE hM.1) rfl i_M 10 (by decide) rfl fl_M_27 rfl d_M_decode_147 ?_
      refine vx_gv (sx_runS (As := [.ref (r 24), .ref (r 24), .ref (r 30), .ref (r 10)]) (rest := []) EE (v_M_minus (X := X10) (hS.a (mo_24 hM)) (mow_24 hW) (hS.a (mo_24 hM)) (hS.a (mo_30 hM)) (hS.a (mo_10 hM)) hV) w_M_192 rfl ⟨rfl, rfl⟩ ⟨Nat.le_of_ble_eq_true rfl, Nat.le_of_ble_eq_true rfl⟩ ⟨Nat.zero_le _, Nat.zero_le _⟩ hl.1 rfl (Nat.le_of_ble_eq_true rfl) d_M_decode_150) hS (fun H locs X11 eX11 hS hV => ?_)
      refine lv_aload_n hx hb d_M_decode_153 rfl (lv_at hl 1 rfl) ?_
      refine sx_get EE (hS.1.ob hE hM.1) rfl i_M 25 (by decide) rfl fl_M_73 rfl d_M_decode_154 ?_
      refine lv_aload_n hx hb d_M_decode_157 rfl (lv_at hl 1 rfl) ?_
      refine sx_get EE (hS.1.ob hE hM.1) rfl i_M 25 (by decide) rfl fl_M_73 rfl d_M_decode_158 ?_
      refine lv_aload_n hx hb d_M_decode_161 rfl (lv_at hl 1 rfl) ?_
      refine sx_get EE (hS.1.ob hE hM.1) rfl i_M 30 (by decide) rfl fl_M_88 rfl d_M_decode_162 ?_
      refine lv_aload_n hx hb d_M_decode_165 rfl (lv_at hl 1 rfl) ?_
      refine sx_get EE (hS.1.ob hE hM.1) rfl i_M 10 (by decide) rfl fl_M_27 rfl d_M_decode_166 ?_
      refine vx_gv (sx_runS (As := [.ref (r 25), .ref (r 25), .ref (r 30), .ref (r 10)]) (rest := []) EE (v_M_plus (X := X11) (hS.a (mo_25 hM)) (mow_25 hW) (hS.a (mo_25 hM)) (hS.a (mo_30 hM)) (hS.a (mo_10 hM)) hV) w_M_222 rfl ⟨rfl, rfl⟩ ⟨Nat.le_of_ble_eq_true rfl, Nat.le_of_ble_eq_true rfl⟩ ⟨Nat.zero_le _, Nat.zero_le _⟩ hl.1 rfl (Nat.le_of_ble_eq_true rfl) d_M_decode_169) hS (fun H locs X12 eX12 hS hV => ?_)
      refine lv_aload_n hx hb d_M_decode_172 rfl (lv_at hl 1 rfl) ?_
      refine lv_aload_n hx hb d_M_decode_173 rfl (lv_at hl 1 rfl) ?_
      refine sx_get EE (hS.1.ob hE hM.1) rfl i_M 26 (by decide) rfl fl_M_76 rfl d_M_decode_174 ?_
      refine lv_aload_n hx hb d_M_decode_177 rfl (lv_at hl 1 rfl) ?_
      refine sx_get EE (hS.1.ob hE hM.1) rfl i_M 25 (by decide) rfl fl_M_73 rfl d_M_decode_178 ?_
      refine lv_aload_n hx hb d_M_decode_181 rfl (lv_at hl 1 rfl) ?_
      refine sx_get EE (hS.1.ob hE hM.1) rfl i_M 10 (by decide) rfl fl_M_27 rfl d_M_decode_182 ?_
      refine vx_gv (sx_runV (As := [.ref (r 26), .ref (r 25), .ref (r 10)]) (rest := []) EE (hS.1.ob hE hM.1) rfl rfl (v_M_inverse (X := X12) (hM.kept hS.1 hE) hE hW (hS.a (mo_26 hM)) (mow_26 hW) (hS.a (mo_25 hM)) (hS.a (mo_10 hM)) hV) w_M_185 rfl ⟨rfl, rfl⟩ ⟨Nat.le_of_ble_eq_true rfl, Nat.le_of_ble_eq_true rfl⟩ ⟨Nat.zero_le _, Nat.zero_le _⟩ hl.1 rfl (Nat.le_of_ble_eq_true rfl) d_M_decode_185) hS (fun H locs X13 eX13 hS hV => ?_)
      refine lv_aload_n hx hb d_M_decode_188 rfl (lv_at hl 1 rfl) ?_
      refine lv_aload_n hx hb d_M_decode_189 rfl (lv_at hl 1 rfl) ?_
      refine sx_get EE (hS.1.ob hE hM.1) rfl i_M 24 (by decide) rfl fl_M_70 rfl d_M_decode_190 ?_
      refine lv_aload_n hx hb d_M_decode_193 rfl (lv_at hl 1 rfl) ?_
      refine sx_get EE (hS.1.ob hE hM.1) rfl i_M 24 (by decide) rfl fl_M_70 rfl d_M_decode_194 ?_
      refine lv_aload_n hx hb d_M_decode_197 rfl (lv_at hl 1 rfl) ?_
      refine sx_get EE (hS.1.ob hE hM.1) rfl i_M 26 (by decide) rfl fl_M_76 rfl d_M_decode_198 ?_
      refine lv_aload_n hx hb d_M_decode_201 rfl (lv_at hl 1 rfl) ?_
      refine sx_get EE (hS.1.ob hE hM.1) rfl i_M 10 (by decide) rfl fl_M_27 rfl d_M_decode_202 ?_
      refine lv_aload_n hx hb d_M_decode_205 rfl (lv_at hl 1 rfl) ?_
      refine sx_get EE (hS.1.ob hE hM.1) rfl i_M 11 (by decide) rfl fl_M_31 rfl d_M_decode_206 ?_
      refine vx_gv (sx_runV (As := [.ref (r 24), .ref (r 24), .ref (r 26), .ref (r 10), .ref (r 11)]) (rest := []) EE (hS.1.ob hE hM.1) rfl rfl (v_M_times (X := X13) (hM.kept hS.1 hE) hE hW (hS.a (mo_24 hM)) (mow_24 hW) (hS.a (mo_24 hM)) (hS.a (mo_26 hM)) (hS.a (mo_10 hM)) (hS.a (mo_11 hM)) hV) w_M_188 rfl ⟨rfl, rfl⟩ ⟨Nat.le_of_ble_eq_true rfl, Nat.le_of_ble_eq_true rfl⟩ ⟨Nat.zero_le _, Nat.zero_le _⟩ hl.1 rfl (Nat.le_of_ble_eq_true rfl) d_M_decode_209) hS (fun H locs X14 eX14 hS hV => ?_)
      refine lv_iconst (v := nI 0) hx hb d_M_decode_212 (by decide +kernel) ?_
      refine lv_istore_n (lv' := [(1, .int (nI (0))), (0, .ref o)]) hx hb d_M_decode_213 rfl hl (by decide) rfl (fun ls hl => ?_)
      obtain ⟨R17, eR17⟩ : ∃ t : vM, lpU 1 (LL_M_decode_214 r) 16 0 X14 = t := ⟨_, rfl⟩
      refine lpU_go (σ := vM) (P := fun i15 s16 H locs ls => sx_S g E E H0 H locs ∧ mm g H = s16 ∧ lv_has ls 2 [(1, .int (nI (i15))), (0, .ref o)]) (Wd := fun H locs ls => W p l e rm_M_decode s m args below meth c H locs 0 0 Q (F0 m 214 ls [])) (N := 16) (d := 1) (by decide) ?_ ?_ 16 0 _ (by omega) eR17 _ _ _ ⟨hS, hV, lv_sub hl [0, 1] rfl⟩
      · intro i15 s16 H locs ls hii15 hP ihi15
        obtain ⟨hS, hV, hl⟩ := hP
        refine lv_iload_n hx hb d_M_decode_214 rfl (lv_at hl 0 rfl) ?_
        refine lv_bipush (v := nI 16) hx hb d_M_decode_215 (by decide +kernel) ?_
        refine lv_icmp_ge (tgt := 257) hx hb d_M_decode_217 (by decide) (fun q => absurd q (nI_ge (by omega) (by omega))) (fun _ => ?_)
        refine lv_aload_n hx hb d_M_decode_220 rfl (lv_at hl 1 rfl) ?_
        refine sx_get EE (hS.1.ob hE hM.1) rfl i_M 27 (by decide) rfl fl_M_79 rfl d_M_decode_221 ?_
        refine lv_iload_n hx hb d_M_decode_224 rfl (lv_at hl 0 rfl) ?_
        refine lv_iload_n hx hb d_M_decode_225 rfl (lv_at hl 0 rfl) ?_
        have jn250_20 : ∀ (J20 : Int64) (H : Heap) (locs : List Loc) (ls : Array Slot), (if i15 = 0 then (65534 : Int64) else (if i15 = 15 then ((4095 : Int64)) else ((65535 : Int64)))) = J20 → sx_S g E E H0 H locs → mm g H = s16 → lv_has ls 2 [(1, .int (nI (i15))), (0, .ref o)] → W p l e rm_M_decode s m args below meth c H locs 0 0 Q (F0 m 250 ls [.long J20, .int (nI (i15)), .ref (r 27)]) := by
          intro J20 H locs ls eJ20 hS hV hl
          refine vx_last hx hb hG hS hV (mo_27 hM) (mow_27 hW) (by omega) (by decide) d_M_decode_250 (fun H locs X22 eX22 hS hV => ?_)
          refine lv_iinc (v := nI (i15 + 1)) (lv' := [(1, .int (nI (i15 + 1))), (0, .ref o)]) hx hb d_M_decode_251 hl (k := 0) rfl (sx_inc _ _) (by decide) rfl (fun ls hl => ?_)
          refine lv_goto (tgt := 214) hx hb d_M_decode_254 (by decide) ?_
          exact ihi15 X22 _ _ _ (by subst eJ20 eX22; exact rfl) ⟨hS, hV, lv_sub hl [0, 1] rfl⟩
        refine lv_if_ne (tgt := 235) hx hb d_M_decode_226 (by decide) (fun q226_17 => ?_) (fun q226_17 => ?_)
        · skip
          have q226_17 : ¬ (i15 = 0) := fun z => q226_17 ((nI_eq (a := i15) (b := 0) (by omega) (by omega)).mpr z)
          refine lv_iload_n hx hb d_M_decode_235 rfl (lv_at hl 0 rfl) ?_
          refine lv_bipush (v := nI 15) hx hb d_M_decode_236 (by decide +kernel) ?_
          refine lv_icmp_ne (tgt := 247) hx hb d_M_decode_238 (by decide) (fun q238_22 => ?_) (fun q238_22 => ?_)
          · skip
            have q238_22 : ¬ (i15 = 15) := fun z => q238_22 ((nI_eq (a := i15) (b := 15) (by omega) (by omega)).mpr z)
            refine lv_ldc2 (v := (65535)) hx hb hown (hts (.constantLong R_M 169 (65535)) (by decide +kernel)) d_M_decode_247 ?_
            exact jn250_20 (65535 : Int64) _ _ _ (vx_n q226_17 (vx_n q238_22 rfl)) hS hV (lv_sub hl [0, 1] rfl)
          · skip
            have q238_22 : i15 = 15 := (nI_eq (a := i15) (b := 15) (by omega) (by omega)).mp q238_22
            refine lv_ldc2 (v := (4095)) hx hb hown (hts (.constantLong R_M 279 (4095)) (by decide +kernel)) d_M_decode_241 ?_
            refine lv_goto (tgt := 250) hx hb d_M_decode_244 (by decide) ?_
            exact jn250_20 (4095 : Int64) _ _ _ (vx_n q226_17 (vx_p q238_22 rfl)) hS hV (lv_sub hl [0, 1] rfl)
        · skip
          have q226_17 : i15 = 0 := (nI_eq (a := i15) (b := 0) (by omega) (by omega)).mp q226_17
          refine lv_ldc2 (v := (65534)) hx hb hown (hts (.constantLong R_M 277 (65534)) (by decide +kernel)) d_M_decode_229 ?_
          refine lv_goto (tgt := 250) hx hb d_M_decode_232 (by decide) ?_
          exact jn250_20 (65534 : Int64) _ _ _ (vx_p q226_17 rfl) hS hV (lv_sub hl [0, 1] rfl)
      · intro H locs ls hP
        obtain ⟨hS, hV, hl⟩ := hP
        refine lv_iload_n hx hb d_M_decode_214 rfl (lv_at hl 0 rfl) ?_
        refine lv_bipush (v := nI 16) hx hb d_M_decode_215 (by decide +kernel) ?_
        refine lv_icmp_ge (tgt := 257) hx hb d_M_decode_217 (by decide) (fun _ => ?_) (fun q => absurd (nI_le (by omega) (by omega)) q)
        refine lv_aload_n hx hb d_M_decode_257 rfl (lv_at hl 1 rfl) ?_
        refine lv_aload_n hx hb d_M_decode_258 rfl (lv_at hl 1 rfl) ?_
        refine sx_get EE (hS.1.ob hE hM.1) rfl i_M 20 (by decide) rfl fl_M_58 rfl d_M_decode_259 ?_
        refine lv_aload_n hx hb d_M_decode_262 rfl (lv_at hl 1 rfl) ?_
        refine sx_get EE (hS.1.ob hE hM.1) rfl i_M 24 (by decide) rfl fl_M_70 rfl d_M_decode_263 ?_
        refine lv_aload_n hx hb d_M_decode_266 rfl (lv_at hl 1 rfl) ?_
        refine sx_get EE (hS.1.ob hE hM.1) rfl i_M 27 (by decide) rfl fl_M_79 rfl d_M_decode_267 ?_
        refine vx_gv (sx_runV (As := [.ref (r 20), .ref (r 24), .ref (r 27)]) (rest := []) EE (hS.1.ob hE hM.1) rfl rfl (v_M_power (X := R17) (hM.kept hS.1 hE) hE hW (hS.a (mo_20 hM)) (mow_20 hW) (hS.a (mo_24 hM)) (hS.a (mo_27 hM)) hV) w_M_200 rfl ⟨rfl, rfl⟩ ⟨Nat.le_of_ble_eq_true rfl, Nat.le_of_ble_eq_true rfl⟩ ⟨Nat.zero_le _, Nat.zero_le _⟩ hl.1 rfl (Nat.le_of_ble_eq_true rfl) d_M_decode_270) hS (fun H locs X24 eX24 hS hV => ?_)
        refine lv_aload_n hx hb d_M_decode_273 rfl (lv_at hl 1 rfl) ?_
        refine lv_aload_n hx hb d_M_decode_274 rfl (lv_at hl 1 rfl) ?_
        refine sx_get EE (hS.1.ob hE hM.1) rfl i_M 26 (by decide) rfl fl_M_76 rfl d_M_decode_275 ?_
        refine lv_aload_n hx hb d_M_decode_278 rfl (lv_at hl 1 rfl) ?_
        refine sx_get EE (hS.1.ob hE hM.1) rfl i_M 20 (by decide) rfl fl_M_58 rfl d_M_decode_279 ?_
        refine lv_aload_n hx hb d_M_decode_282 rfl (lv_at hl 1 rfl) ?_
        refine sx_get EE (hS.1.ob hE hM.1) rfl i_M 20 (by decide) rfl fl_M_58 rfl d_M_decode_283 ?_
        refine lv_aload_n hx hb d_M_decode_286 rfl (lv_at hl 1 rfl) ?_
        refine sx_get EE (hS.1.ob hE hM.1) rfl i_M 10 (by decide) rfl fl_M_27 rfl d_M_decode_287 ?_
        refine lv_aload_n hx hb d_M_decode_290 rfl (lv_at hl 1 rfl) ?_
        refine sx_get EE (hS.1.ob hE hM.1) rfl i_M 11 (by decide) rfl fl_M_31 rfl d_M_decode_291 ?_
        refine vx_gv (sx_runV (As := [.ref (r 26), .ref (r 20), .ref (r 20), .ref (r 10), .ref (r 11)]) (rest := []) EE (hS.1.ob hE hM.1) rfl rfl (v_M_times (X := X24) (hM.kept hS.1 hE) hE hW (hS.a (mo_26 hM)) (mow_26 hW) (hS.a (mo_20 hM)) (hS.a (mo_20 hM)) (hS.a (mo_10 hM)) (hS.a (mo_11 hM)) hV) w_M_188 rfl ⟨rfl, rfl⟩ ⟨Nat.le_of_ble_eq_true rfl, Nat.le_of_ble_eq_true rfl⟩ ⟨Nat.zero_le _, Nat.zero_le _⟩ hl.1 rfl (Nat.le_of_ble_eq_true rfl) d_M_decode_294) hS (fun H locs X25 eX25 hS hV => ?_)
        refine lv_aload_n hx hb d_M_decode_297 rfl (lv_at hl 1 rfl) ?_
        refine sx_get EE (hS.1.ob hE hM.1) rfl i_M 26 (by decide) rfl fl_M_76 rfl d_M_decode_298 ?_
        refine lv_aload_n hx hb d_M_decode_301 rfl (lv_at hl 1 rfl) ?_
        refine sx_get EE (hS.1.ob hE hM.1) rfl i_M 24 (by decide) rfl fl_M_70 rfl d_M_decode_302 ?_
        refine vx_gi (sx_runS (As := [.ref (r 26), .ref (r 24)]) (rest := []) EE (v_M_alike (X := X25) (hS.a (mo_26 hM)) (hS.a (mo_24 hM)) hV) w_M_281 rfl ⟨rfl, rfl⟩ ⟨Nat.le_of_ble_eq_true rfl, Nat.le_of_ble_eq_true rfl⟩ ⟨Nat.zero_le _, Nat.zero_le _⟩ hl.1 rfl (Nat.le_of_ble_eq_true rfl) d_M_decode_305) hS (fun H locs X_ eX_ hS hV => ?_)
        subst eX_
        have jn335_28 : ∀ (J28 : vM) (H : Heap) (locs : List Loc) (ls : Array Slot), (if (LF_M_alike X25 (r 26) (r 24)) = true then X25 else (let X27 : vM := (LF_M_times X25 r (r 20) (r 20) (r 15) (r 10) (r 11)); X27)) = J28 → sx_S g E E H0 H locs → mm g H = J28 → lv_has ls 2 [(1, .int (nI (16))), (0, .ref o)] → W p l e rm_M_decode s m args below meth c H locs 0 0 Q (F0 m 335 ls []) := by
          intro J28 H locs ls eJ28 hS hV hl
          refine lv_aload_n hx hb d_M_decode_335 rfl (lv_at hl 1 rfl) ?_
          refine lv_aload_n hx hb d_M_decode_336 rfl (lv_at hl 1 rfl) ?_
          refine sx_get EE (hS.1.ob hE hM.1) rfl i_M 26 (by decide) rfl fl_M_76 rfl d_M_decode_337 ?_
          refine lv_aload_n hx hb d_M_decode_340 rfl (lv_at hl 1 rfl) ?_
          refine sx_get EE (hS.1.ob hE hM.1) rfl i_M 20 (by decide) rfl fl_M_58 rfl d_M_decode_341 ?_
          refine lv_aload_n hx hb d_M_decode_344 rfl (lv_at hl 1 rfl) ?_
          refine sx_get EE (hS.1.ob hE hM.1) rfl i_M 20 (by decide) rfl fl_M_58 rfl d_M_decode_345 ?_
          refine lv_aload_n hx hb d_M_decode_348 rfl (lv_at hl 1 rfl) ?_
          refine sx_get EE (hS.1.ob hE hM.1) rfl i_M 10 (by decide) rfl fl_M_27 rfl d_M_decode_349 ?_
          refine lv_aload_n hx hb d_M_decode_352 rfl (lv_at hl 1 rfl) ?_
          refine sx_get EE (hS.1.ob hE hM.1) rfl i_M 11 (by decide) rfl fl_M_31 rfl d_M_decode_353 ?_
          refine vx_gv (sx_runV (As := [.ref (r 26), .ref (r 20), .ref (r 20), .ref (r 10), .ref (r 11)]) (rest := []) EE (hS.1.ob hE hM.1) rfl rfl (v_M_times (X := J28) (hM.kept hS.1 hE) hE hW (hS.a (mo_26 hM)) (mow_26 hW) (hS.a (mo_20 hM)) (hS.a (mo_20 hM)) (hS.a (mo_10 hM)) (hS.a (mo_11 hM)) hV) w_M_188 rfl ⟨rfl, rfl⟩ ⟨Nat.le_of_ble_eq_true rfl, Nat.le_of_ble_eq_true rfl⟩ ⟨Nat.zero_le _, Nat.zero_le _⟩ hl.1 rfl (Nat.le_of_ble_eq_true rfl) d_M_decode_356) hS (fun H locs X30 eX30 hS hV => ?_)
          refine lv_aload_n hx hb d_M_decode_359 rfl (lv_at hl 1 rfl) ?_
          refine sx_get EE (hS.1.ob hE hM.1) rfl i_M 26 (by decide) rfl fl_M_76 rfl d_M_decode_360 ?_
          refine lv_aload_n hx hb d_M_decode_363 rfl (lv_at hl 1 rfl) ?_
          refine sx_get EE (hS.1.ob hE hM.1) rfl i_M 24 (by decide) rfl fl_M_70 rfl d_M_decode_364 ?_
          refine vx_gi (sx_runS (As := [.ref (r 26), .ref (r 24)]) (rest := []) EE (v_M_alike (X := X30) (hS.a (mo_26 hM)) (hS.a (mo_24 hM)) hV) w_M_281 rfl ⟨rfl, rfl⟩ ⟨Nat.le_of_ble_eq_true rfl, Nat.le_of_ble_eq_true rfl⟩ ⟨Nat.zero_le _, Nat.zero_le _⟩ hl.1 rfl (Nat.le_of_ble_eq_true rfl) d_M_decode_367) hS (fun H locs X_ eX_ hS hV => ?_)
          subst eX_
          refine lv_if_ne (tgt := 375) hx hb d_M_decode_370 (by decide) (fun q370_30 => ?_) (fun q370_30 => ?_)
          · skip
            have q370_30 := vx_b1 q370_30
            refine lv_aload_n hx hb d_M_decode_375 rfl (lv_at hl 1 rfl) ?_
            refine sx_get EE (hS.1.ob hE hM.1) rfl i_M 35 (by decide) rfl fl_M_103 rfl d_M_decode_376 ?_
            refine lv_bipush (v := nI 31) hx hb d_M_decode_379 (by decide +kernel) ?_
            refine vx_bald hx hb hG hS hV (mo_35 hM) (by omega) (by decide) d_M_decode_381 ?_
            refine lv_bipush (v := nI 7) hx hb d_M_decode_382 (by decide +kernel) ?_
            refine lv_ishr hx hb d_M_decode_384 ?_
            refine lv_iconst (v := nI 1) hx hb d_M_decode_385 (by decide +kernel) ?_
            refine lv_iand hx hb d_M_decode_386 ?_
            refine vx_nmI (fun z32 ez32 => ?_)
            refine lv_istore_n (lv' := [(1, .int z32), (0, .ref o)]) hx hb d_M_decode_387 rfl hl (by decide) rfl (fun ls hl => ?_)
            refine lv_aload_n hx hb d_M_decode_388 rfl (lv_at hl 1 rfl) ?_
            refine sx_get EE (hS.1.ob hE hM.1) rfl i_M 20 (by decide) rfl fl_M_58 rfl d_M_decode_389 ?_
            refine vx_gi (sx_runS (As := [.ref (r 20)]) (rest := []) EE (v_M_zero (X := X30) (hS.a (mo_20 hM)) hV) w_M_228 rfl ⟨rfl, rfl⟩ ⟨Nat.le_of_ble_eq_true rfl, Nat.le_of_ble_eq_true rfl⟩ ⟨Nat.zero_le _, Nat.zero_le _⟩ hl.1 rfl (Nat.le_of_ble_eq_true rfl) d_M_decode_392) hS (fun H locs X_ eX_ hS hV => ?_)
            subst eX_
            refine lv_if_eq (tgt := 405) hx hb d_M_decode_395 (by decide) (fun q395_32 => ?_) (fun q395_32 => ?_)
            · skip
              have q395_32 := vx_bf (vx_b0 q395_32)
              refine lv_aload_n hx hb d_M_decode_405 rfl (lv_at hl 1 rfl) ?_
              refine sx_get EE (hS.1.ob hE hM.1) rfl i_M 20 (by decide) rfl fl_M_58 rfl d_M_decode_406 ?_
              refine lv_iconst (v := nI 0) hx hb d_M_decode_409 (by decide +kernel) ?_
              refine vx_lald hx hb hG hS hV (mo_20 hM) (by omega) (by decide) d_M_decode_410 ?_
              refine lv_lconst (v := 1) hx hb d_M_decode_411 (by decide +kernel) ?_
              refine lv_land hx hb d_M_decode_412 ?_
              refine lv_iload_n hx hb d_M_decode_413 rfl (lv_at hl 0 rfl) ?_
              refine lv_i2l hx hb d_M_decode_414 rfl ?_
              refine W.lcmp hx hb d_M_decode_415 ?_
              have jn446_37 : ∀ (J37 : vM) (H : Heap) (locs : List Loc) (ls : Array Slot), (if ((X30.1 (r 20) 0) &&& (1 : Int64)) = z32.toInt64 then X30 else (let X35 : vM := (LF_M_set X30 (r 26) (nI 0)); let X36 : vM := (LF_M_minus X35 (r 20) (r 26) (r 20) (r 10)); X36)) = J37 → sx_S g E E H0 H locs → mm g H = J37 → lv_has ls 2 [(1, .int z32), (0, .ref o)] → W p l e rm_M_decode s m args below meth c H locs 0 0 Q (F0 m 446 ls []) := by
                intro J37 H locs ls eJ37 hS hV hl
                refine lv_iconst (v := nI 1) hx hb d_M_decode_446 (by decide +kernel) ?_
                have hp : LF_M_decode X r = (J37, true) := (by subst eR3 eX9 eX10 eX11 eX12 eX13 eX14 eR17 eX24 eX25 eJ28 eX30 ez32 eJ37; exact (vx_p q81_7 (vx_p q370_30 (vx_n q395_32 rfl))))
                exact hret _ _ _ _ _ true _ (congrArg Prod.fst hp :) (congrArg Prod.snd hp :) rfl hS hV d_M_decode_447
              refine lv_if_eq (tgt := 446) hx hb d_M_decode_416 (by decide) (fun q416_33 => ?_) (fun q416_33 => ?_)
              · skip
                have q416_33 := (lg_cmp_eq _ _).mp q416_33
                exact jn446_37 X30 _ _ _ (vx_p q416_33 rfl) hS hV (lv_sub hl [0, 1] rfl)
              · skip
                have q416_33 : ¬ (((X30.1 (r 20) 0) &&& (1 : Int64)) = z32.toInt64) := fun z => q416_33 ((lg_cmp_eq _ _).mpr z)
                refine lv_aload_n hx hb d_M_decode_419 rfl (lv_at hl 1 rfl) ?_
                refine sx_get EE (hS.1.ob hE hM.1) rfl i_M 26 (by decide) rfl fl_M_76 rfl d_M_decode_420 ?_
                refine lv_iconst (v := nI 0) hx hb d_M_decode_423 (by decide +kernel) ?_
                refine vx_gv (sx_runS (As := [.ref (r 26), .int (nI (0))]) (rest := []) EE (v_M_set (X := X30) (hS.a (mo_26 hM)) (mow_26 hW) hV) w_M_177 rfl ⟨rfl, rfl⟩ ⟨Nat.le_of_ble_eq_true rfl, Nat.le_of_ble_eq_true rfl⟩ ⟨Nat.zero_le _, Nat.zero_le _⟩ hl.1 rfl (Nat.le_of_ble_eq_true rfl) d_M_decode_424) hS (fun H locs X39 eX39 hS hV => ?_)
                refine lv_aload_n hx hb d_M_decode_427 rfl (lv_at hl 1 rfl) ?_
                refine sx_get EE (hS.1.ob hE hM.1) rfl i_M 20 (by decide) rfl fl_M_58 rfl d_M_decode_428 ?_
                refine lv_aload_n hx hb d_M_decode_431 rfl (lv_at hl 1 rfl) ?_
                refine sx_get EE (hS.1.ob hE hM.1) rfl i_M 26 (by decide) rfl fl_M_76 rfl d_M_decode_432 ?_
                refine lv_aload_n hx hb d_M_decode_435 rfl (lv_at hl 1 rfl) ?_
                refine sx_get EE (hS.1.ob hE hM.1) rfl i_M 20 (by decide) rfl fl_M_58 rfl d_M_decode_436 ?_
                refine lv_aload_n hx hb d_M_decode_439 rfl (lv_at hl 1 rfl) ?_
                refine sx_get EE (hS.1.ob hE hM.1) rfl i_M 10 (by decide) rfl fl_M_27 rfl d_M_decode_440 ?_
                refine vx_gv (sx_runS (As := [.ref (r 20), .ref (r 26), .ref (r 20), .ref (r 10)]) (rest := []) EE (v_M_minus (X := X39) (hS.a (mo_20 hM)) (mow_20 hW) (hS.a (mo_26 hM)) (hS.a (mo_20 hM)) (hS.a (mo_10 hM)) hV) w_M_192 rfl ⟨rfl, rfl⟩ ⟨Nat.le_of_ble_eq_true rfl, Nat.le_of_ble_eq_true rfl⟩ ⟨Nat.zero_le _, Nat.zero_le _⟩ hl.1 rfl (Nat.le_of_ble_eq_true rfl) d_M_decode_443) hS (fun H locs X40 eX40 hS hV => ?_)
                exact jn446_37 X40 _ _ _ (by subst eX39 eX40; exact (vx_n q416_33 rfl)) hS hV (lv_sub hl [0, 1] rfl)
            · skip
              have q395_32 := vx_b1 q395_32
              refine lv_iload_n hx hb d_M_decode_398 rfl (lv_at hl 0 rfl) ?_
              refine lv_iconst (v := nI 1) hx hb d_M_decode_399 (by decide +kernel) ?_
              refine lv_icmp_ne (tgt := 405) hx hb d_M_decode_400 (by decide) (fun q400_40 => ?_) (fun q400_40 => ?_)
              · skip
                refine lv_aload_n hx hb d_M_decode_405 rfl (lv_at hl 1 rfl) ?_
                refine sx_get EE (hS.1.ob hE hM.1) rfl i_M 20 (by decide) rfl fl_M_58 rfl d_M_decode_406 ?_
                refine lv_iconst (v := nI 0) hx hb d_M_decode_409 (by decide +kernel) ?_
                refine vx_lald hx hb hG hS hV (mo_20 hM) (by omega) (by decide) d_M_decode_410 ?_
                refine lv_lconst (v := 1) hx hb d_M_decode_411 (by decide +kernel) ?_
                refine lv_land hx hb d_M_decode_412 ?_
                refine lv_iload_n hx hb d_M_decode_413 rfl (lv_at hl 0 rfl) ?_
                refine lv_i2l hx hb d_M_decode_414 rfl ?_
                refine W.lcmp hx hb d_M_decode_415 ?_
                have jn446_45 : ∀ (J45 : vM) (H : Heap) (locs : List Loc) (ls : Array Slot), (if ((X30.1 (r 20) 0) &&& (1 : Int64)) = z32.toInt64 then X30 else (let X43 : vM := (LF_M_set X30 (r 26) (nI 0)); let X44 : vM := (LF_M_minus X43 (r 20) (r 26) (r 20) (r 10)); X44)) = J45 → sx_S g E E H0 H locs → mm g H = J45 → lv_has ls 2 [(1, .int z32), (0, .ref o)] → W p l e rm_M_decode s m args below meth c H locs 0 0 Q (F0 m 446 ls []) := by
                  intro J45 H locs ls eJ45 hS hV hl
                  refine lv_iconst (v := nI 1) hx hb d_M_decode_446 (by decide +kernel) ?_
                  have hp : LF_M_decode X r = (J45, true) := (by subst eR3 eX9 eX10 eX11 eX12 eX13 eX14 eR17 eX24 eX25 eJ28 eX30 ez32 eJ45; exact (vx_p q81_7 (vx_p q370_30 (vx_p q395_32 (vx_n q400_40 rfl)))))
                  exact hret _ _ _ _ _ true _ (congrArg Prod.fst hp :) (congrArg Prod.snd hp :) rfl hS hV d_M_decode_447
                refine lv_if_eq (tgt := 446) hx hb d_M_decode_416 (by decide) (fun q416_41 => ?_) (fun q416_41 => ?_)
                · skip
                  have q416_41 := (lg_cmp_eq _ _).mp q416_41
                  exact jn446_45 X30 _ _ _ (vx_p q416_41 rfl) hS hV (lv_sub hl [0, 1] rfl)
                · skip
                  have q416_41 : ¬ (((X30.1 (r 20) 0) &&& (1 : Int64)) = z32.toInt64) := fun z => q416_41 ((lg_cmp_eq _ _).mpr z)
                  refine lv_aload_n hx hb d_M_decode_419 rfl (lv_at hl 1 rfl) ?_
                  refine sx_get EE (hS.1.ob hE hM.1) rfl i_M 26 (by decide) rfl fl_M_76 rfl d_M_decode_420 ?_
                  refine lv_iconst (v := nI 0) hx hb d_M_decode_423 (by decide +kernel) ?_
                  refine vx_gv (sx_runS (As := [.ref (r 26), .int (nI (0))]) (rest := []) EE (v_M_set (X := X30) (hS.a (mo_26 hM)) (mow_26 hW) hV) w_M_177 rfl ⟨rfl, rfl⟩ ⟨Nat.le_of_ble_eq_true rfl, Nat.le_of_ble_eq_true rfl⟩ ⟨Nat.zero_le _, Nat.zero_le _⟩ hl.1 rfl (Nat.le_of_ble_eq_true rfl) d_M_decode_424) hS (fun H locs X47 eX47 hS hV => ?_)
                  refine lv_aload_n hx hb d_M_decode_427 rfl (lv_at hl 1 rfl) ?_
                  refine sx_get EE (hS.1.ob hE hM.1) rfl i_M 20 (by decide) rfl fl_M_58 rfl d_M_decode_428 ?_
                  refine lv_aload_n hx hb d_M_decode_431 rfl (lv_at hl 1 rfl) ?_
                  refine sx_get EE (hS.1.ob hE hM.1) rfl i_M 26 (by decide) rfl fl_M_76 rfl d_M_decode_432 ?_
                  refine lv_aload_n hx hb d_M_decode_435 rfl (lv_at hl 1 rfl) ?_
                  refine sx_get EE (hS.1.ob hE hM.1) rfl i_M 20 (by decide) rfl fl_M_58 rfl d_M_decode_436 ?_
                  refine lv_aload_n hx hb d_M_decode_439 rfl (lv_at hl 1 rfl) ?_
                  refine sx_get EE (hS.1.ob hE hM.1) rfl i_M 10 (by decide) rfl fl_M_27 rfl d_M_decode_440 ?_
                  refine vx_gv (sx_runS (As := [.ref (r 20), .ref (r 26), .ref (r 20), .ref (r 10)]) (rest := []) EE (v_M_minus (X := X47) (hS.a (mo_20 hM)) (mow_20 hW) (hS.a (mo_26 hM)) (hS.a (mo_20 hM)) (hS.a (mo_10 hM)) hV) w_M_192 rfl ⟨rfl, rfl⟩ ⟨Nat.le_of_ble_eq_true rfl, Nat.le_of_ble_eq_true rfl⟩ ⟨Nat.zero_le _, Nat.zero_le _⟩ hl.1 rfl (Nat.le_of_ble_eq_true rfl) d_M_decode_443) hS (fun H locs X48 eX48 hS hV => ?_)
                  exact jn446_45 X48 _ _ _ (by subst eX47 eX48; exact (vx_n q416_41 rfl)) hS hV (lv_sub hl [0, 1] rfl)
              · skip
                refine lv_iconst (v := nI 0) hx hb d_M_decode_403 (by decide +kernel) ?_
                have hp : LF_M_decode X r = (X30, false) := (by subst eR3 eX9 eX10 eX11 eX12 eX13 eX14 eR17 eX24 eX25 eJ28 eX30 ez32; exact (vx_p q81_7 (vx_p q370_30 (vx_p q395_32 (vx_p q400_40 rfl)))))
                exact hret _ _ _ _ _ false _ (congrArg Prod.fst hp :) (congrArg Prod.snd hp :) rfl hS hV d_M_decode_404
          · skip
            have q370_30 := vx_bf (vx_b0 q370_30)
            refine lv_iconst (v := nI 0) hx hb d_M_decode_373 (by decide +kernel) ?_
            have hp : LF_M_decode X r = (X30, false) := (by subst eR3 eX9 eX10 eX11 eX12 eX13 eX14 eR17 eX24 eX25 eJ28 eX30; exact (vx_p q81_7 (vx_n q370_30 rfl)))
            exact hret _ _ _ _ _ false _ (congrArg Prod.fst hp :) (congrArg Prod.snd hp :) rfl hS hV d_M_decode_374
        refine lv_if_ne (tgt := 335) hx hb d_M_decode_308 (by decide) (fun q308_25 => ?_) (fun q308_25 => ?_)
        · skip
          have q308_25 := vx_b1 q308_25
          exact jn335_28 X25 _ _ _ (vx_p q308_25 rfl) hS hV (lv_sub hl [0, 1] rfl)
        · skip
          have q308_25 := vx_bf (vx_b0 q308_25)
          refine lv_aload_n hx hb d_M_decode_311 rfl (lv_at hl 1 rfl) ?_
          refine lv_aload_n hx hb d_M_decode_312 rfl (lv_at hl 1 rfl) ?_
          refine sx_get EE (hS.1.ob hE hM.1) rfl i_M 20 (by decide) rfl fl_M_58 rfl d_M_decode_313 ?_
          refine lv_aload_n hx hb d_M_decode_316 rfl (lv_at hl 1 rfl) ?_
          refine sx_get EE (hS.1.ob hE hM.1) rfl i_M 20 (by decide) rfl fl_M_58 rfl d_M_decode_317 ?_
          refine lv_aload_n hx hb d_M_decode_320 rfl (lv_at hl 1 rfl) ?_
          refine sx_get EE (hS.1.ob hE hM.1) rfl i_M 15 (by decide) rfl fl_M_43 rfl d_M_decode_321 ?_
          refine lv_aload_n hx hb d_M_decode_324 rfl (lv_at hl 1 rfl) ?_
          refine sx_get EE (hS.1.ob hE hM.1) rfl i_M 10 (by decide) rfl fl_M_27 rfl d_M_decode_325 ?_
          refine lv_aload_n hx hb d_M_decode_328 rfl (lv_at hl 1 rfl) ?_
          refine sx_get EE (hS.1.ob hE hM.1) rfl i_M 11 (by decide) rfl fl_M_31 rfl d_M_decode_329 ?_
          refine vx_gv (sx_runV (As := [.ref (r 20), .ref (r 20), .ref (r 15), .ref (r 10), .ref (r 11)]) (rest := []) EE (hS.1.ob hE hM.1) rfl rfl (v_M_times (X := X25) (hM.kept hS.1 hE) hE hW (hS.a (mo_20 hM)) (mow_20 hW) (hS.a (mo_20 hM)) (hS.a (mo_15 hM)) (hS.a (mo_10 hM)) (hS.a (mo_11 hM)) hV) w_M_188 rfl ⟨rfl, rfl⟩ ⟨Nat.le_of_ble_eq_true rfl, Nat.le_of_ble_eq_true rfl⟩ ⟨Nat.zero_le _, Nat.zero_le _⟩ hl.1 rfl (Nat.le_of_ble_eq_true rfl) d_M_decode_332) hS (fun H locs X49 eX49 hS hV => ?_)
          exact jn335_28 X49 _ _ _ (by subst eX49; exact (vx_n q308_25 rfl)) hS hV (lv_sub hl [0, 1] rfl)
    · skip
      have q81_7 := vx_bf (vx_b0 q81_7)
      refine lv_iconst (v := nI 0) hx hb d_M_decode_84 (by decide +kernel) ?_
      have hp : LF_M_decode X r = (R3, false) := (by subst eR3; exact (vx_n q81_7 rfl))
      exact hret _ _ _ _ _ false _ (congrArg Prod.fst hp :) (congrArg Prod.snd hp :) rfl hS hV d_M_decode_85
def LL_M_encode_3 (a0 : Nat) (a2 : Nat) : Nat → vM → vM := fun i_0 s_1 => (let X_2 : vM := stI s_1 a0 i_0 (((((s_1.1 a2 (i_0 / 2)) >>> ((nI (8 * (i_0 % 2))).toInt64 &&& 63)).toInt32).toInt8.toInt32).toInt8.toInt32); X_2)
def LF_M_encode (X : vM) (r : Nat → Nat) (a0 : Nat) (a1 : Nat) (a2 : Nat) : vM := (let R3 : vM := lpU 1 (LL_M_encode_3 a0 a2) 32 0 X; (let X5 : vM := stI R3 a0 31 ((((R3.2 a0 31) ||| (((((R3.1 a1 0) &&& (1 : Int64)) <<< ((nI 7).toInt64 &&& 63)).toInt32).toInt8.toInt32)).toInt8.toInt32).toInt8.toInt32); X5))
abbrev rm_M_encode : Room := { frames := 0, cells := 0, slots := 0, locals := 0 }
set_option maxHeartbeats 4000000 in
set_option maxRecDepth 100000 in
theorem v_M_encode {l : Launch} {D : va_G} {g : ClassId → FieldType → Prop} {E : Nat → Prop} {H0 : Heap} {X : vM} {o : Nat} {r : Nat → Nat} {i : Nat → Int32} {a0 : Nat} {a1 : Nat} {a2 : Nat} (hM : mo_ D g H0 o r i) (hE : ¬ E o) (hW : ∀ q ∈ mo_wr, E (r q.1)) (f0 : sx_A g .byte H0 a0 32) (o0 : E a0) (f1 : sx_A g .long H0 a1 16) (f2 : sx_A g .long H0 a2 16) (hV : mm g H0 = X) : Met l y_M_encode (.code y_M_encode b_M_encode 5 none :: G_) rm_M_encode (sx_Pc [.ref o, .ref a0, .ref a1, .ref a2] H0 D g) (vx_Qv g E H0 (LF_M_encode X r a0 a1 a2)) 0 0 E := by
  refine vx_mv (own := R_M) (by decide) rfl rfl rfl (Nat.le_of_ble_eq_true rfl) ?_
  intro p e s m args below meth c Q ls EE hl hret
  obtain ⟨hx, hb, hml, hown, hts, hG, hK⟩ := id EE
  have hS : sx_S g E E H0 H0 [] := sx_S.rf
  have hl : lv_has ls 5 [(0, .ref o), (1, .ref a0), (2, .ref a1), (3, .ref a2)] := hl
  refine lv_iconst (v := nI 0) hx hb d_M_encode_0 (by decide +kernel) ?_
  refine lv_istore (lv' := [(4, .int (nI (0))), (0, .ref o), (1, .ref a0), (2, .ref a1), (3, .ref a2)]) hx hb d_M_encode_1 hl (by decide) rfl (fun ls hl => ?_)
  obtain ⟨R3, eR3⟩ : ∃ t : vM, lpU 1 (LL_M_encode_3 a0 a2) 32 0 X = t := ⟨_, rfl⟩
  refine lpU_go (σ := vM) (P := fun i1 s2 H locs ls => sx_S g E E H0 H locs ∧ mm g H = s2 ∧ lv_has ls 5 [(4, .int (nI (i1))), (1, .ref a0), (2, .ref a1), (3, .ref a2)]) (Wd := fun H locs ls => W p l e rm_M_encode s m args below meth c H locs 0 0 Q (F0 m 3 ls [])) (N := 32) (d := 1) (by decide) ?_ ?_ 32 0 _ (by omega) eR3 _ _ _ ⟨hS, hV, lv_sub hl [0, 2, 3, 4] rfl⟩
  · intro i1 s2 H locs ls hii1 hP ihi1
    obtain ⟨hS, hV, hl⟩ := hP
    refine lv_iload hx hb d_M_encode_3 (lv_at hl 0 rfl) ?_
    refine lv_bipush (v := nI 32) hx hb d_M_encode_5 (by decide +kernel) ?_
    refine lv_icmp_ge (tgt := 36) hx hb d_M_encode_7 (by decide) (fun q => absurd q (nI_ge (by omega) (by omega))) (fun _ => ?_)
    refine lv_aload_n hx hb d_M_encode_10 rfl (lv_at hl 1 rfl) ?_
    refine lv_iload hx hb d_M_encode_11 (lv_at hl 0 rfl) ?_
    refine lv_aload_n hx hb d_M_encode_13 rfl (lv_at hl 3 rfl) ?_
    refine lv_iload hx hb d_M_encode_14 (lv_at hl 0 rfl) ?_
    refine lv_iconst (v := nI 2) hx hb d_M_encode_16 (by decide +kernel) ?_
    refine lv_idiv hx hb d_M_encode_17 (nI_ne0 (by omega) (by omega)) ?_
    refine sx_ti (y := nI (i1 / 2)) (pk_div (by omega) (by omega) (by omega)) ?_
    refine vx_lald hx hb hG hS hV f2 (by omega) (by decide) d_M_encode_18 ?_
    refine lv_bipush (v := nI 8) hx hb d_M_encode_19 (by decide +kernel) ?_
    refine lv_iload hx hb d_M_encode_21 (lv_at hl 0 rfl) ?_
    refine lv_iconst (v := nI 2) hx hb d_M_encode_23 (by decide +kernel) ?_
    refine lv_irem hx hb d_M_encode_24 (nI_ne0 (by omega) (by omega)) ?_
    refine sx_ti (y := nI (i1 % 2)) (pk_rem (by omega) (by omega) (by omega)) ?_
    refine lv_imul hx hb d_M_encode_25 ?_
    refine sx_ti (y := nI (8 * (i1 % 2))) (pk_mul _ _) ?_
    refine lv_lshr hx hb d_M_encode_26 rfl ?_
    refine lv_l2i hx hb d_M_encode_27 rfl ?_
    refine lv_i2b hx hb d_M_encode_28 rfl ?_
    refine vx_bast hx hb hG hS hV f0 o0 (by omega) (by decide) d_M_encode_29 (fun H locs X4 eX4 hS hV => ?_)
    refine lv_iinc (v := nI (i1 + 1)) (lv' := [(4, .int (nI (i1 + 1))), (1, .ref a0), (2, .ref a1), (3, .ref a2)]) hx hb d_M_encode_30 hl (k := 0) rfl (sx_inc _ _) (by decide) rfl (fun ls hl => ?_)
    refine lv_goto (tgt := 3) hx hb d_M_encode_33 (by decide) ?_
    exact ihi1 X4 _ _ _ (by subst eX4; exact rfl) ⟨hS, hV, lv_sub hl [0, 1, 2, 3] rfl⟩
  · intro H locs ls hP
    obtain ⟨hS, hV, hl⟩ := hP
    refine lv_iload hx hb d_M_encode_3 (lv_at hl 0 rfl) ?_
    refine lv_bipush (v := nI 32) hx hb d_M_encode_5 (by decide +kernel) ?_
    refine lv_icmp_ge (tgt := 36) hx hb d_M_encode_7 (by decide) (fun _ => ?_) (fun q => absurd (nI_le (by omega) (by omega)) q)
    refine lv_aload_n hx hb d_M_encode_36 rfl (lv_at hl 1 rfl) ?_
    refine lv_bipush (v := nI 31) hx hb d_M_encode_37 (by decide +kernel) ?_
    refine lv_dup2_11 hx hb d_M_encode_39 rfl rfl ?_
    refine vx_bald hx hb hG hS hV f0 (by omega) (by decide) d_M_encode_40 ?_
    refine lv_aload_n hx hb d_M_encode_41 rfl (lv_at hl 2 rfl) ?_
    refine lv_iconst (v := nI 0) hx hb d_M_encode_42 (by decide +kernel) ?_
    refine vx_lald hx hb hG hS hV f1 (by omega) (by decide) d_M_encode_43 ?_
    refine lv_lconst (v := 1) hx hb d_M_encode_44 (by decide +kernel) ?_
    refine lv_land hx hb d_M_encode_45 ?_
    refine lv_bipush (v := nI 7) hx hb d_M_encode_46 (by decide +kernel) ?_
    refine lv_lshl hx hb d_M_encode_48 rfl ?_
    refine lv_l2i hx hb d_M_encode_49 rfl ?_
    refine lv_i2b hx hb d_M_encode_50 rfl ?_
    refine lv_ior hx hb d_M_encode_51 ?_
    refine lv_i2b hx hb d_M_encode_52 rfl ?_
    refine vx_bast hx hb hG hS hV f0 o0 (by omega) (by decide) d_M_encode_53 (fun H locs X5 eX5 hS hV => ?_)
    exact hret _ _ _ _ _ (by subst eR3 eX5; exact rfl) hS hV d_M_encode_54
def LF_M_add (X : vM) (r : Nat → Nat) (a0 : Nat) (a1 : Nat) (a2 : Nat) (a3 : Nat) : vM := (let X1 : vM := (LF_M_times X r (r 24) a0 a3 (r 10) (r 11)); let X2 : vM := (LF_M_times X1 r (r 25) a1 a2 (r 10) (r 11)); let X3 : vM := (LF_M_plus X2 (r 24) (r 24) (r 25) (r 10)); let X4 : vM := (LF_M_times X3 r (r 25) a1 a3 (r 10) (r 11)); let X5 : vM := (LF_M_times X4 r (r 26) a0 a2 (r 10) (r 11)); let X6 : vM := (LF_M_times X5 r (r 27) (r 25) (r 26) (r 10) (r 11)); let X7 : vM := (LF_M_plus X6 (r 25) (r 25) (r 26) (r 10)); let X8 : vM := (LF_M_times X7 r (r 27) (r 27) (r 14) (r 10) (r 11)); let X9 : vM := (LF_M_plus X8 (r 28) (r 30) (r 27) (r 10)); let X10 : vM := (LF_M_minus X9 (r 29) (r 30) (r 27) (r 10)); let X11 : vM := (LF_M_times X10 r (r 26) (r 28) (r 29) (r 10) (r 11)); let X12 : vM := (LF_M_inverse X11 r (r 26) (r 26) (r 10)); let X13 : vM := (LF_M_times X12 r (r 24) (r 24) (r 29) (r 10) (r 11)); let X14 : vM := (LF_M_times X13 r a0 (r 24) (r 26) (r 10) (r 11)); let X15 : vM := (LF_M_times X14 r (r 25) (r 25) (r 28) (r 10) (r 11)); let X16 : vM := (LF_M_times X15 r a1 (r 25) (r 26) (r 10) (r 11)); X16)
abbrev rm_M_add : Room := { frames := 3, cells := 0, slots := 0, locals := 85 }
set_option maxHeartbeats 4000000 in
set_option maxRecDepth 100000 in
theorem v_M_add {l : Launch} {D : va_G} {g : ClassId → FieldType → Prop} {E : Nat → Prop} {H0 : Heap} {X : vM} {o : Nat} {r : Nat → Nat} {i : Nat → Int32} {a0 : Nat} {a1 : Nat} {a2 : Nat} {a3 : Nat} (hM : mo_ D g H0 o r i) (hE : ¬ E o) (hW : ∀ q ∈ mo_wr, E (r q.1)) (f0 : sx_A g .long H0 a0 16) (o0 : E a0) (f1 : sx_A g .long H0 a1 16) (o1 : E a1) (f2 : sx_A g .long H0 a2 16) (f3 : sx_A g .long H0 a3 16) (hV : mm g H0 = X) : Met l y_M_add (.code y_M_add b_M_add 5 none :: G_) rm_M_add (sx_Pc [.ref o, .ref a0, .ref a1, .ref a2, .ref a3] H0 D g) (vx_Qv g E H0 (LF_M_add X r a0 a1 a2 a3)) 0 0 E := by
  refine vx_mv (own := R_M) (by decide) rfl rfl rfl (Nat.le_of_ble_eq_true rfl) ?_
  intro p e s m args below meth c Q ls EE hl hret
  obtain ⟨hx, hb, hml, hown, hts, hG, hK⟩ := id EE
  have hS : sx_S g E E H0 H0 [] := sx_S.rf
  have hl : lv_has ls 5 [(0, .ref o), (1, .ref a0), (2, .ref a1), (3, .ref a2), (4, .ref a3)] := hl
  refine lv_aload_n hx hb d_M_add_0 rfl (lv_at hl 0 rfl) ?_
  refine lv_aload_n hx hb d_M_add_1 rfl (lv_at hl 0 rfl) ?_
  refine sx_get EE (hS.1.ob hE hM.1) rfl i_M 24 (by decide) rfl fl_M_70 rfl d_M_add_2 ?_
  refine lv_aload_n hx hb d_M_add_5 rfl (lv_at hl 1 rfl) ?_
  refine lv_aload hx hb d_M_add_6 (lv_at hl 4 rfl) ?_
  refine lv_aload_n hx hb d_M_add_8 rfl (lv_at hl 0 rfl) ?_
  refine sx_get EE (hS.1.ob hE hM.1) rfl i_M 10 (by decide) rfl fl_M_27 rfl d_M_add_9 ?_
  refine lv_aload_n hx hb d_M_add_12 rfl (lv_at hl 0 rfl) ?_
  refine sx_get EE (hS.1.ob hE hM.1) rfl i_M 11 (by decide) rfl fl_M_31 rfl d_M_add_13 ?_
  refine vx_gv (sx_runV (As := [.ref (r 24), .ref a0, .ref a3, .ref (r 10), .ref (r 11)]) (rest := []) EE (hS.1.ob hE hM.1) rfl rfl (v_M_times (X := X) (hM.kept hS.1 hE) hE hW (hS.a (mo_24 hM)) (mow_24 hW) (hS.a f0) (hS.a f3) (hS.a (mo_10 hM)) (hS.a (mo_11 hM)) hV) w_M_188 rfl ⟨rfl, rfl⟩ ⟨Nat.le_of_ble_eq_true rfl, Nat.le_of_ble_eq_true rfl⟩ ⟨Nat.zero_le _, Nat.zero_le _⟩ hl.1 rfl (Nat.le_of_ble_eq_true rfl) d_M_add_16) hS (fun H locs X1 eX1 hS hV => ?_)
  refine lv_aload_n hx hb d_M_add_19 rfl (lv_at hl 0 rfl) ?_
  refine lv_aload_n hx hb d_M_add_20 rfl (lv_at hl 0 rfl) ?_
  refine sx_get EE (hS.1.ob hE hM.1) rfl i_M 25 (by decide) rfl fl_M_73 rfl d_M_add_21 ?_
  refine lv_aload_n hx hb d_M_add_24 rfl (lv_at hl 2 rfl) ?_
  refine lv_aload_n hx hb d_M_add_25 rfl (lv_at hl 3 rfl) ?_
  refine lv_aload_n hx hb d_M_add_26 rfl (lv_at hl 0 rfl) ?_
  refine sx_get EE (hS.1.ob hE hM.1) rfl i_M 10 (by decide) rfl fl_M_27 rfl d_M_add_27 ?_
  refine lv_aload_n hx hb d_M_add_30 rfl (lv_at hl 0 rfl) ?_
  refine sx_get EE (hS.1.ob hE hM.1) rfl i_M 11 (by decide) rfl fl_M_31 rfl d_M_add_31 ?_
  refine vx_gv (sx_runV (As := [.ref (r 25), .ref a1, .ref a2, .ref (r 10), .ref (r 11)]) (rest := []) EE (hS.1.ob hE hM.1) rfl rfl (v_M_times (X := X1) (hM.kept hS.1 hE) hE hW (hS.a (mo_25 hM)) (mow_25 hW) (hS.a f1) (hS.a f2) (hS.a (mo_10 hM)) (hS.a (mo_11 hM)) hV) w_M_188 rfl ⟨rfl, rfl⟩ ⟨Nat.le_of_ble_eq_true rfl, Nat.le_of_ble_eq_true rfl⟩ ⟨Nat.zero_le _, Nat.zero_le _⟩ hl.1 rfl (Nat.le_of_ble_eq_true rfl) d_M_add_34) hS (fun H locs X2 eX2 hS hV => ?_)
  refine lv_aload_n hx hb d_M_add_37 rfl (lv_at hl 0 rfl) ?_
  refine sx_get EE (hS.1.ob hE hM.1) rfl i_M 24 (by decide) rfl fl_M_70 rfl d_M_add_38 ?_
  refine lv_aload_n hx hb d_M_add_41 rfl (lv_at hl 0 rfl) ?_
  refine sx_get EE (hS.1.ob hE hM.1) rfl i_M 24 (by decide) rfl fl_M_70 rfl d_M_add_42 ?_
  refine lv_aload_n hx hb d_M_add_45 rfl (lv_at hl 0 rfl) ?_
  refine sx_get EE (hS.1.ob hE hM.1) rfl i_M 25 (by decide) rfl fl_M_73 rfl d_M_add_46 ?_
  refine lv_aload_n hx hb d_M_add_49 rfl (lv_at hl 0 rfl) ?_
  refine sx_get EE (hS.1.ob hE hM.1) rfl i_M 10 (by decide) rfl fl_M_27 rfl d_M_add_50 ?_
  refine vx_gv (sx_runS (As := [.ref (r 24), .ref (r 24), .ref (r 25), .ref (r 10)]) (rest := []) EE (v_M_plus (X := X2) (hS.a (mo_24 hM)) (mow_24 hW) (hS.a (mo_24 hM)) (hS.a (mo_25 hM)) (hS.a (mo_10 hM)) hV) w_M_222 rfl ⟨rfl, rfl⟩ ⟨Nat.le_of_ble_eq_true rfl, Nat.le_of_ble_eq_true rfl⟩ ⟨Nat.zero_le _, Nat.zero_le _⟩ hl.1 rfl (Nat.le_of_ble_eq_true rfl) d_M_add_53) hS (fun H locs X3 eX3 hS hV => ?_)
  refine lv_aload_n hx hb d_M_add_56 rfl (lv_at hl 0 rfl) ?_
  refine lv_aload_n hx hb d_M_add_57 rfl (lv_at hl 0 rfl) ?_
  refine sx_get EE (hS.1.ob hE hM.1) rfl i_M 25 (by decide) rfl fl_M_73 rfl d_M_add_58 ?_
  refine lv_aload_n hx hb d_M_add_61 rfl (lv_at hl 2 rfl) ?_
  refine lv_aload hx hb d_M_add_62 (lv_at hl 4 rfl) ?_
  refine lv_aload_n hx hb d_M_add_64 rfl (lv_at hl 0 rfl) ?_
  refine sx_get EE (hS.1.ob hE hM.1) rfl i_M 10 (by decide) rfl fl_M_27 rfl d_M_add_65 ?_
  refine lv_aload_n hx hb d_M_add_68 rfl (lv_at hl 0 rfl) ?_
  refine sx_get EE (hS.1.ob hE hM.1) rfl i_M 11 (by decide) rfl fl_M_31 rfl d_M_add_69 ?_
  refine vx_gv (sx_runV (As := [.ref (r 25), .ref a1, .ref a3, .ref (r 10), .ref (r 11)]) (rest := []) EE (hS.1.ob hE hM.1) rfl rfl (v_M_times (X := X3) (hM.kept hS.1 hE) hE hW (hS.a (mo_25 hM)) (mow_25 hW) (hS.a f1) (hS.a f3) (hS.a (mo_10 hM)) (hS.a (mo_11 hM)) hV) w_M_188 rfl ⟨rfl, rfl⟩ ⟨Nat.le_of_ble_eq_true rfl, Nat.le_of_ble_eq_true rfl⟩ ⟨Nat.zero_le _, Nat.zero_le _⟩ hl.1 rfl (Nat.le_of_ble_eq_true rfl) d_M_add_72) hS (fun H locs X4 eX4 hS hV => ?_)
  refine lv_aload_n hx hb d_M_add_75 rfl (lv_at hl 0 rfl) ?_
  refine lv_aload_n hx hb d_M_add_76 rfl (lv_at hl 0 rfl) ?_
  refine sx_get EE (hS.1.ob hE hM.1) rfl i_M 26 (by decide) rfl fl_M_76 rfl d_M_add_77 ?_
  refine lv_aload_n hx hb d_M_add_80 rfl (lv_at hl 1 rfl) ?_
  refine lv_aload_n hx hb d_M_add_81 rfl (lv_at hl 3 rfl) ?_
  refine lv_aload_n hx hb d_M_add_82 rfl (lv_at hl 0 rfl) ?_
  refine sx_get EE (hS.1.ob hE hM.1) rfl i_M 10 (by decide) rfl fl_M_27 rfl d_M_add_83 ?_
  refine lv_aload_n hx hb d_M_add_86 rfl (lv_at hl 0 rfl) ?_
  refine sx_get EE (hS.1.ob hE hM.1) rfl i_M 11 (by decide) rfl fl_M_31 rfl d_M_add_87 ?_
  refine vx_gv (sx_runV (As := [.ref (r 26), .ref a0, .ref a2, .ref (r 10), .ref (r 11)]) (rest := []) EE (hS.1.ob hE hM.1) rfl rfl (v_M_times (X := X4) (hM.kept hS.1 hE) hE hW (hS.a (mo_26 hM)) (mow_26 hW) (hS.a f0) (hS.a f2) (hS.a (mo_10 hM)) (hS.a (mo_11 hM)) hV) w_M_188 rfl ⟨rfl, rfl⟩ ⟨Nat.le_of_ble_eq_true rfl, Nat.le_of_ble_eq_true rfl⟩ ⟨Nat.zero_le _, Nat.zero_le _⟩ hl.1 rfl (Nat.le_of_ble_eq_true rfl) d_M_add_90) hS (fun H locs X5 eX5 hS hV => ?_)
  refine lv_aload_n hx hb d_M_add_93 rfl (lv_at hl 0 rfl) ?_
  refine lv_aload_n hx hb d_M_add_94 rfl (lv_at hl 0 rfl) ?_
  refine sx_get EE (hS.1.ob hE hM.1) rfl i_M 27 (by decide) rfl fl_M_79 rfl d_M_add_95 ?_
  refine lv_aload_n hx hb d_M_add_98 rfl (lv_at hl 0 rfl) ?_
  refine sx_get EE (hS.1.ob hE hM.1) rfl i_M 25 (by decide) rfl fl_M_73 rfl d_M_add_99 ?_
  refine lv_aload_n hx hb d_M_add_102 rfl (lv_at hl 0 rfl) ?_
  refine sx_get EE (hS.1.ob hE hM.1) rfl i_M 26 (by decide) rfl fl_M_76 rfl d_M_add_103 ?_
  refine lv_aload_n hx hb d_M_add_106 rfl (lv_at hl 0 rfl) ?_
  refine sx_get EE (hS.1.ob hE hM.1) rfl i_M 10 (by decide) rfl fl_M_27 rfl d_M_add_107 ?_
  refine lv_aload_n hx hb d_M_add_110 rfl (lv_at hl 0 rfl) ?_
  refine sx_get EE (hS.1.ob hE hM.1) rfl i_M 11 (by decide) rfl fl_M_31 rfl d_M_add_111 ?_
  refine vx_gv (sx_runV (As := [.ref (r 27), .ref (r 25), .ref (r 26), .ref (r 10), .ref (r 11)]) (rest := []) EE (hS.1.ob hE hM.1) rfl rfl (v_M_times (X := X5) (hM.kept hS.1 hE) hE hW (hS.a (mo_27 hM)) (mow_27 hW) (hS.a (mo_25 hM)) (hS.a (mo_26 hM)) (hS.a (mo_10 hM)) (hS.a (mo_11 hM)) hV) w_M_188 rfl ⟨rfl, rfl⟩ ⟨Nat.le_of_ble_eq_true rfl, Nat.le_of_ble_eq_true rfl⟩ ⟨Nat.zero_le _, Nat.zero_le _⟩ hl.1 rfl (Nat.le_of_ble_eq_true rfl) d_M_add_114) hS (fun H locs X6 eX6 hS hV => ?_)
  refine lv_aload_n hx hb d_M_add_117 rfl (lv_at hl 0 rfl) ?_
  refine sx_get EE (hS.1.ob hE hM.1) rfl i_M 25 (by decide) rfl fl_M_73 rfl d_M_add_118 ?_
  refine lv_aload_n hx hb d_M_add_121 rfl (lv_at hl 0 rfl) ?_
  refine sx_get EE (hS.1.ob hE hM.1) rfl i_M 25 (by decide) rfl fl_M_73 rfl d_M_add_122 ?_
  refine lv_aload_n hx hb d_M_add_125 rfl (lv_at hl 0 rfl) ?_
  refine sx_get EE (hS.1.ob hE hM.1) rfl i_M 26 (by decide) rfl fl_M_76 rfl d_M_add_126 ?_
  refine lv_aload_n hx hb d_M_add_129 rfl (lv_at hl 0 rfl) ?_
  refine sx_get EE (hS.1.ob hE hM.1) rfl i_M 10 (by decide) rfl fl_M_27 rfl d_M_add_130 ?_
  refine vx_gv (sx_runS (As := [.ref (r 25), .ref (r 25), .ref (r 26), .ref (r 10)]) (rest := []) EE (v_M_plus (X := X6) (hS.a (mo_25 hM)) (mow_25 hW) (hS.a (mo_25 hM)) (hS.a (mo_26 hM)) (hS.a (mo_10 hM)) hV) w_M_222 rfl ⟨rfl, rfl⟩ ⟨Nat.le_of_ble_eq_true rfl, Nat.le_of_ble_eq_true rfl⟩ ⟨Nat.zero_le _, Nat.zero_le _⟩ hl.1 rfl (Nat.le_of_ble_eq_true rfl) d_M_add_133) hS (fun H locs X7 eX7 hS hV => ?_)
  refine lv_aload_n hx hb d_M_add_136 rfl (lv_at hl 0 rfl) ?_
  refine lv_aload_n hx hb d_M_add_137 rfl (lv_at hl 0 rfl) ?_
  refine sx_get EE (hS.1.ob hE hM.1) rfl i_M 27 (by decide) rfl fl_M_79 rfl d_M_add_138 ?_
  refine lv_aload_n hx hb d_M_add_141 rfl (lv_at hl 0 rfl) ?_
  refine sx_get EE (hS.1.ob hE hM.1) rfl i_M 27 (by decide) rfl fl_M_79 rfl d_M_add_142 ?_
  refine lv_aload_n hx hb d_M_add_145 rfl (lv_at hl 0 rfl) ?_
  refine sx_get EE (hS.1.ob hE hM.1) rfl i_M 14 (by decide) rfl fl_M_40 rfl d_M_add_146 ?_
  refine lv_aload_n hx hb d_M_add_149 rfl (lv_at hl 0 rfl) ?_
  refine sx_get EE (hS.1.ob hE hM.1) rfl i_M 10 (by decide) rfl fl_M_27 rfl d_M_add_150 ?_
  refine lv_aload_n hx hb d_M_add_153 rfl (lv_at hl 0 rfl) ?_
  refine sx_get EE (hS.1.ob hE hM.1) rfl i_M 11 (by decide) rfl fl_M_31 rfl d_M_add_154 ?_
  refine vx_gv (sx_runV (As := [.ref (r 27), .ref (r 27), .ref (r 14), .ref (r 10), .ref (r 11)]) (rest := []) EE (hS.1.ob hE hM.1) rfl rfl (v_M_times (X := X7) (hM.kept hS.1 hE) hE hW (hS.a (mo_27 hM)) (mow_27 hW) (hS.a (mo_27 hM)) (hS.a (mo_14 hM)) (hS.a (mo_10 hM)) (hS.a (mo_11 hM)) hV) w_M_188 rfl ⟨rfl, rfl⟩ ⟨Nat.le_of_ble_eq_true rfl, Nat.le_of_ble_eq_true rfl⟩ ⟨Nat.zero_le _, Nat.zero_le _⟩ hl.1 rfl (Nat.le_of_ble_eq_true rfl) d_M_add_157) hS (fun H locs X8 eX8 hS hV => ?_)
  refine lv_aload_n hx hb d_M_add_160 rfl (lv_at hl 0 rfl) ?_
  refine sx_get EE (hS.1.ob hE hM.1) rfl i_M 28 (by decide) rfl fl_M_82 rfl d_M_add_161 ?_
  refine lv_aload_n hx hb d_M_add_164 rfl (lv_at hl 0 rfl) ?_
  refine sx_get EE (hS.1.ob hE hM.1) rfl i_M 30 (by decide) rfl fl_M_88 rfl d_M_add_165 ?_
  refine lv_aload_n hx hb d_M_add_168 rfl (lv_at hl 0 rfl) ?_
  refine sx_get EE (hS.1.ob hE hM.1) rfl i_M 27 (by decide) rfl fl_M_79 rfl d_M_add_169 ?_
  refine lv_aload_n hx hb d_M_add_172 rfl (lv_at hl 0 rfl) ?_
  refine sx_get EE (hS.1.ob hE hM.1) rfl i_M 10 (by decide) rfl fl_M_27 rfl d_M_add_173 ?_
  refine vx_gv (sx_runS (As := [.ref (r 28), .ref (r 30), .ref (r 27), .ref (r 10)]) (rest := []) EE (v_M_plus (X := X8) (hS.a (mo_28 hM)) (mow_28 hW) (hS.a (mo_30 hM)) (hS.a (mo_27 hM)) (hS.a (mo_10 hM)) hV) w_M_222 rfl ⟨rfl, rfl⟩ ⟨Nat.le_of_ble_eq_true rfl, Nat.le_of_ble_eq_true rfl⟩ ⟨Nat.zero_le _, Nat.zero_le _⟩ hl.1 rfl (Nat.le_of_ble_eq_true rfl) d_M_add_176) hS (fun H locs X9 eX9 hS hV => ?_)
  refine lv_aload_n hx hb d_M_add_179 rfl (lv_at hl 0 rfl) ?_
  refine sx_get EE (hS.1.ob hE hM.1) rfl i_M 29 (by decide) rfl fl_M_85 rfl d_M_add_180 ?_
  refine lv_aload_n hx hb d_M_add_183 rfl (lv_at hl 0 rfl) ?_
  refine sx_get EE (hS.1.ob hE hM.1) rfl i_M 30 (by decide) rfl fl_M_88 rfl d_M_add_184 ?_
  refine lv_aload_n hx hb d_M_add_187 rfl (lv_at hl 0 rfl) ?_
  refine sx_get EE (hS.1.ob hE hM.1) rfl i_M 27 (by decide) rfl fl_M_79 rfl d_M_add_188 ?_
  refine lv_aload_n hx hb d_M_add_191 rfl (lv_at hl 0 rfl) ?_
  refine sx_get EE (hS.1.ob hE hM.1) rfl i_M 10 (by decide) rfl fl_M_27 rfl d_M_add_192 ?_
  refine vx_gv (sx_runS (As := [.ref (r 29), .ref (r 30), .ref (r 27), .ref (r 10)]) (rest := []) EE (v_M_minus (X := X9) (hS.a (mo_29 hM)) (mow_29 hW) (hS.a (mo_30 hM)) (hS.a (mo_27 hM)) (hS.a (mo_10 hM)) hV) w_M_192 rfl ⟨rfl, rfl⟩ ⟨Nat.le_of_ble_eq_true rfl, Nat.le_of_ble_eq_true rfl⟩ ⟨Nat.zero_le _, Nat.zero_le _⟩ hl.1 rfl (Nat.le_of_ble_eq_true rfl) d_M_add_195) hS (fun H locs X10 eX10 hS hV => ?_)
  refine lv_aload_n hx hb d_M_add_198 rfl (lv_at hl 0 rfl) ?_
  refine lv_aload_n hx hb d_M_add_199 rfl (lv_at hl 0 rfl) ?_
  refine sx_get EE (hS.1.ob hE hM.1) rfl i_M 26 (by decide) rfl fl_M_76 rfl d_M_add_200 ?_
  refine lv_aload_n hx hb d_M_add_203 rfl (lv_at hl 0 rfl) ?_
  refine sx_get EE (hS.1.ob hE hM.1) rfl i_M 28 (by decide) rfl fl_M_82 rfl d_M_add_204 ?_
  refine lv_aload_n hx hb d_M_add_207 rfl (lv_at hl 0 rfl) ?_
  refine sx_get EE (hS.1.ob hE hM.1) rfl i_M 29 (by decide) rfl fl_M_85 rfl d_M_add_208 ?_
  refine lv_aload_n hx hb d_M_add_211 rfl (lv_at hl 0 rfl) ?_
  refine sx_get EE (hS.1.ob hE hM.1) rfl i_M 10 (by decide) rfl fl_M_27 rfl d_M_add_212 ?_
  refine lv_aload_n hx hb d_M_add_215 rfl (lv_at hl 0 rfl) ?_
  refine sx_get EE (hS.1.ob hE hM.1) rfl i_M 11 (by decide) rfl fl_M_31 rfl d_M_add_216 ?_
  refine vx_gv (sx_runV (As := [.ref (r 26), .ref (r 28), .ref (r 29), .ref (r 10), .ref (r 11)]) (rest := []) EE (hS.1.ob hE hM.1) rfl rfl (v_M_times (X := X10) (hM.kept hS.1 hE) hE hW (hS.a (mo_26 hM)) (mow_26 hW) (hS.a (mo_28 hM)) (hS.a (mo_29 hM)) (hS.a (mo_10 hM)) (hS.a (mo_11 hM)) hV) w_M_188 rfl ⟨rfl, rfl⟩ ⟨Nat.le_of_ble_eq_true rfl, Nat.le_of_ble_eq_true rfl⟩ ⟨Nat.zero_le _, Nat.zero_le _⟩ hl.1 rfl (Nat.le_of_ble_eq_true rfl) d_M_add_219) hS (fun H locs X11 eX11 hS hV => ?_)
  refine lv_aload_n hx hb d_M_add_222 rfl (lv_at hl 0 rfl) ?_
  refine lv_aload_n hx hb d_M_add_223 rfl (lv_at hl 0 rfl) ?_
  refine sx_get EE (hS.1.ob hE hM.1) rfl i_M 26 (by decide) rfl fl_M_76 rfl d_M_add_224 ?_
  refine lv_aload_n hx hb d_M_add_227 rfl (lv_at hl 0 rfl) ?_
  refine sx_get EE (hS.1.ob hE hM.1) rfl i_M 26 (by decide) rfl fl_M_76 rfl d_M_add_228 ?_
  refine lv_aload_n hx hb d_M_add_231 rfl (lv_at hl 0 rfl) ?_
  refine sx_get EE (hS.1.ob hE hM.1) rfl i_M 10 (by decide) rfl fl_M_27 rfl d_M_add_232 ?_
  refine vx_gv (sx_runV (As := [.ref (r 26), .ref (r 26), .ref (r 10)]) (rest := []) EE (hS.1.ob hE hM.1) rfl rfl (v_M_inverse (X := X11) (hM.kept hS.1 hE) hE hW (hS.a (mo_26 hM)) (mow_26 hW) (hS.a (mo_26 hM)) (hS.a (mo_10 hM)) hV) w_M_185 rfl ⟨rfl, rfl⟩ ⟨Nat.le_of_ble_eq_true rfl, Nat.le_of_ble_eq_true rfl⟩ ⟨Nat.zero_le _, Nat.zero_le _⟩ hl.1 rfl (Nat.le_of_ble_eq_true rfl) d_M_add_235) hS (fun H locs X12 eX12 hS hV => ?_)
  refine lv_aload_n hx hb d_M_add_238 rfl (lv_at hl 0 rfl) ?_
  refine lv_aload_n hx hb d_M_add_239 rfl (lv_at hl 0 rfl) ?_
  refine sx_get EE (hS.1.ob hE hM.1) rfl i_M 24 (by decide) rfl fl_M_70 rfl d_M_add_240 ?_
  refine lv_aload_n hx hb d_M_add_243 rfl (lv_at hl 0 rfl) ?_
  refine sx_get EE (hS.1.ob hE hM.1) rfl i_M 24 (by decide) rfl fl_M_70 rfl d_M_add_244 ?_
  refine lv_aload_n hx hb d_M_add_247 rfl (lv_at hl 0 rfl) ?_
  refine sx_get EE (hS.1.ob hE hM.1) rfl i_M 29 (by decide) rfl fl_M_85 rfl d_M_add_248 ?_
  refine lv_aload_n hx hb d_M_add_251 rfl (lv_at hl 0 rfl) ?_
  refine sx_get EE (hS.1.ob hE hM.1) rfl i_M 10 (by decide) rfl fl_M_27 rfl d_M_add_252 ?_
  refine lv_aload_n hx hb d_M_add_255 rfl (lv_at hl 0 rfl) ?_
  refine sx_get EE (hS.1.ob hE hM.1) rfl i_M 11 (by decide) rfl fl_M_31 rfl d_M_add_256 ?_
  refine vx_gv (sx_runV (As := [.ref (r 24), .ref (r 24), .ref (r 29), .ref (r 10), .ref (r 11)]) (rest := []) EE (hS.1.ob hE hM.1) rfl rfl (v_M_times (X := X12) (hM.kept hS.1 hE) hE hW (hS.a (mo_24 hM)) (mow_24 hW) (hS.a (mo_24 hM)) (hS.a (mo_29 hM)) (hS.a (mo_10 hM)) (hS.a (mo_11 hM)) hV) w_M_188 rfl ⟨rfl, rfl⟩ ⟨Nat.le_of_ble_eq_true rfl, Nat.le_of_ble_eq_true rfl⟩ ⟨Nat.zero_le _, Nat.zero_le _⟩ hl.1 rfl (Nat.le_of_ble_eq_true rfl) d_M_add_259) hS (fun H locs X13 eX13 hS hV => ?_)
  refine lv_aload_n hx hb d_M_add_262 rfl (lv_at hl 0 rfl) ?_
  refine lv_aload_n hx hb d_M_add_263 rfl (lv_at hl 1 rfl) ?_
  refine lv_aload_n hx hb d_M_add_264 rfl (lv_at hl 0 rfl) ?_
  refine sx_get EE (hS.1.ob hE hM.1) rfl i_M 24 (by decide) rfl fl_M_70 rfl d_M_add_265 ?_
  refine lv_aload_n hx hb d_M_add_268 rfl (lv_at hl 0 rfl) ?_
  refine sx_get EE (hS.1.ob hE hM.1) rfl i_M 26 (by decide) rfl fl_M_76 rfl d_M_add_269 ?_
  refine lv_aload_n hx hb d_M_add_272 rfl (lv_at hl 0 rfl) ?_
  refine sx_get EE (hS.1.ob hE hM.1) rfl i_M 10 (by decide) rfl fl_M_27 rfl d_M_add_273 ?_
  refine lv_aload_n hx hb d_M_add_276 rfl (lv_at hl 0 rfl) ?_
  refine sx_get EE (hS.1.ob hE hM.1) rfl i_M 11 (by decide) rfl fl_M_31 rfl d_M_add_277 ?_
  refine vx_gv (sx_runV (As := [.ref a0, .ref (r 24), .ref (r 26), .ref (r 10), .ref (r 11)]) (rest := []) EE (hS.1.ob hE hM.1) rfl rfl (v_M_times (X := X13) (hM.kept hS.1 hE) hE hW (hS.a f0) o0 (hS.a (mo_24 hM)) (hS.a (mo_26 hM)) (hS.a (mo_10 hM)) (hS.a (mo_11 hM)) hV) w_M_188 rfl ⟨rfl, rfl⟩ ⟨Nat.le_of_ble_eq_true rfl, Nat.le_of_ble_eq_true rfl⟩ ⟨Nat.zero_le _, Nat.zero_le _⟩ hl.1 rfl (Nat.le_of_ble_eq_true rfl) d_M_add_280) hS (fun H locs X14 eX14 hS hV => ?_)
  refine lv_aload_n hx hb d_M_add_283 rfl (lv_at hl 0 rfl) ?_
  refine lv_aload_n hx hb d_M_add_284 rfl (lv_at hl 0 rfl) ?_
  refine sx_get EE (hS.1.ob hE hM.1) rfl i_M 25 (by decide) rfl fl_M_73 rfl d_M_add_285 ?_
  refine lv_aload_n hx hb d_M_add_288 rfl (lv_at hl 0 rfl) ?_
  refine sx_get EE (hS.1.ob hE hM.1) rfl i_M 25 (by decide) rfl fl_M_73 rfl d_M_add_289 ?_
  refine lv_aload_n hx hb d_M_add_292 rfl (lv_at hl 0 rfl) ?_
  refine sx_get EE (hS.1.ob hE hM.1) rfl i_M 28 (by decide) rfl fl_M_82 rfl d_M_add_293 ?_
  refine lv_aload_n hx hb d_M_add_296 rfl (lv_at hl 0 rfl) ?_
  refine sx_get EE (hS.1.ob hE hM.1) rfl i_M 10 (by decide) rfl fl_M_27 rfl d_M_add_297 ?_
  refine lv_aload_n hx hb d_M_add_300 rfl (lv_at hl 0 rfl) ?_
  refine sx_get EE (hS.1.ob hE hM.1) rfl i_M 11 (by decide) rfl fl_M_31 rfl d_M_add_301 ?_
  refine vx_gv (sx_runV (As := [.ref (r 25), .ref (r 25), .ref (r 28), .ref (r 10), .ref (r 11)]) (rest := []) EE (hS.1.ob hE hM.1) rfl rfl (v_M_times (X := X14) (hM.kept hS.1 hE) hE hW (hS.a (mo_25 hM)) (mow_25 hW) (hS.a (mo_25 hM)) (hS.a (mo_28 hM)) (hS.a (mo_10 hM)) (hS.a (mo_11 hM)) hV) w_M_188 rfl ⟨rfl, rfl⟩ ⟨Nat.le_of_ble_eq_true rfl, Nat.le_of_ble_eq_true rfl⟩ ⟨Nat.zero_le _, Nat.zero_le _⟩ hl.1 rfl (Nat.le_of_ble_eq_true rfl) d_M_add_304) hS (fun H locs X15 eX15 hS hV => ?_)
  refine lv_aload_n hx hb d_M_add_307 rfl (lv_at hl 0 rfl) ?_
  refine lv_aload_n hx hb d_M_add_308 rfl (lv_at hl 2 rfl) ?_
  refine lv_aload_n hx hb d_M_add_309 rfl (lv_at hl 0 rfl) ?_
  refine sx_get EE (hS.1.ob hE hM.1) rfl i_M 25 (by decide) rfl fl_M_73 rfl d_M_add_310 ?_
  refine lv_aload_n hx hb d_M_add_313 rfl (lv_at hl 0 rfl) ?_
  refine sx_get EE (hS.1.ob hE hM.1) rfl i_M 26 (by decide) rfl fl_M_76 rfl d_M_add_314 ?_
  refine lv_aload_n hx hb d_M_add_317 rfl (lv_at hl 0 rfl) ?_
  refine sx_get EE (hS.1.ob hE hM.1) rfl i_M 10 (by decide) rfl fl_M_27 rfl d_M_add_318 ?_
  refine lv_aload_n hx hb d_M_add_321 rfl (lv_at hl 0 rfl) ?_
  refine sx_get EE (hS.1.ob hE hM.1) rfl i_M 11 (by decide) rfl fl_M_31 rfl d_M_add_322 ?_
  refine vx_gv (sx_runV (As := [.ref a1, .ref (r 25), .ref (r 26), .ref (r 10), .ref (r 11)]) (rest := []) EE (hS.1.ob hE hM.1) rfl rfl (v_M_times (X := X15) (hM.kept hS.1 hE) hE hW (hS.a f1) o1 (hS.a (mo_25 hM)) (hS.a (mo_26 hM)) (hS.a (mo_10 hM)) (hS.a (mo_11 hM)) hV) w_M_188 rfl ⟨rfl, rfl⟩ ⟨Nat.le_of_ble_eq_true rfl, Nat.le_of_ble_eq_true rfl⟩ ⟨Nat.zero_le _, Nat.zero_le _⟩ hl.1 rfl (Nat.le_of_ble_eq_true rfl) d_M_add_325) hS (fun H locs X16 eX16 hS hV => ?_)
  exact hret _ _ _ _ _ (by subst eX1 eX2 eX3 eX4 eX5 eX6 eX7 eX8 eX9 eX10 eX11 eX12 eX13 eX14 eX15 eX16; exact rfl) hS hV d_M_add_328
def LL_M_multiply_20 (r : Nat → Nat) (a0 : Nat) : Nat → vM → vM := fun i_0 s_1 => (let J_2 : vM := if (LF_M_zero s_1 (r 18)) = true then (if (LF_M_one s_1 (r 19)) = true then (s_1) else (let X_3 : vM := (LF_M_add s_1 r (r 18) (r 19) (r 18) (r 19)); X_3)) else (let X_4 : vM := (LF_M_add s_1 r (r 18) (r 19) (r 18) (r 19)); X_4); (let J_5 : vM := if (LF_M_bit J_2 a0 i_0) = (nI 1) then (let X_6 : vM := (LF_M_add J_2 r (r 18) (r 19) (r 20) (r 21)); X_6) else J_2; J_5))
def LF_M_multiply (X : vM) (r : Nat → Nat) (a0 : Nat) : vM := (let X1 : vM := (LF_M_set X (r 18) (nI 0)); let X2 : vM := (LF_M_set X1 (r 19) (nI 1)); let R5 : vM := lpD (LL_M_multiply_20 r a0) 256 X2; R5)
abbrev rm_M_multiply : Room := { frames := 4, cells := 0, slots := 0, locals := 109 }
set_option maxHeartbeats 4000000 in
set_option maxRecDepth 100000 in
theorem v_M_multiply {l : Launch} {D : va_G} {g : ClassId → FieldType → Prop} {E : Nat → Prop} {H0 : Heap} {X : vM} {o : Nat} {r : Nat → Nat} {i : Nat → Int32} {a0 : Nat} (hM : mo_ D g H0 o r i) (hE : ¬ E o) (hW : ∀ q ∈ mo_wr, E (r q.1)) (f0 : sx_A g .long H0 a0 16) (hV : mm g H0 = X) : Met l y_M_multiply (.code y_M_multiply b_M_multiply 3 none :: G_) rm_M_multiply (sx_Pc [.ref o, .ref a0] H0 D g) (vx_Qv g E H0 (LF_M_multiply X r a0)) 0 0 E := by
  refine vx_mv (own := R_M) (by decide) rfl rfl rfl (Nat.le_of_ble_eq_true rfl) ?_
  intro p e s m args below meth c Q ls EE hl hret
  obtain ⟨hx, hb, hml, hown, hts, hG, hK⟩ := id EE
  have hS : sx_S g E E H0 H0 [] := sx_S.rf
  have hl : lv_has ls 3 [(0, .ref o), (1, .ref a0)] := hl
  refine lv_aload_n hx hb d_M_multiply_0 rfl (lv_at hl 0 rfl) ?_
  refine sx_get EE (hS.1.ob hE hM.1) rfl i_M 18 (by decide) rfl fl_M_52 rfl d_M_multiply_1 ?_
  refine lv_iconst (v := nI 0) hx hb d_M_multiply_4 (by decide +kernel) ?_
  refine vx_gv (sx_runS (As := [.ref (r 18), .int (nI (0))]) (rest := []) EE (v_M_set (X := X) (hS.a (mo_18 hM)) (mow_18 hW) hV) w_M_177 rfl ⟨rfl, rfl⟩ ⟨Nat.le_of_ble_eq_true rfl, Nat.le_of_ble_eq_true rfl⟩ ⟨Nat.zero_le _, Nat.zero_le _⟩ hl.1 rfl (Nat.le_of_ble_eq_true rfl) d_M_multiply_5) hS (fun H locs X1 eX1 hS hV => ?_)
  refine lv_aload_n hx hb d_M_multiply_8 rfl (lv_at hl 0 rfl) ?_
  refine sx_get EE (hS.1.ob hE hM.1) rfl i_M 19 (by decide) rfl fl_M_55 rfl d_M_multiply_9 ?_
  refine lv_iconst (v := nI 1) hx hb d_M_multiply_12 (by decide +kernel) ?_
  refine vx_gv (sx_runS (As := [.ref (r 19), .int (nI (1))]) (rest := []) EE (v_M_set (X := X1) (hS.a (mo_19 hM)) (mow_19 hW) hV) w_M_177 rfl ⟨rfl, rfl⟩ ⟨Nat.le_of_ble_eq_true rfl, Nat.le_of_ble_eq_true rfl⟩ ⟨Nat.zero_le _, Nat.zero_le _⟩ hl.1 rfl (Nat.le_of_ble_eq_true rfl) d_M_multiply_13) hS (fun H locs X2 eX2 hS hV => ?_)
  refine lv_sipush (v := nI 255) hx hb d_M_multiply_16 (by decide +kernel) ?_
  refine lv_istore_n (lv' := [(2, .int (nI (255))), (0, .ref o), (1, .ref a0)]) hx hb d_M_multiply_19 rfl hl (by decide) rfl (fun ls hl => ?_)
  obtain ⟨R5, eR5⟩ : ∃ t : vM, lpD (LL_M_multiply_20 r a0) 256 X2 = t := ⟨_, rfl⟩
  rw [show (nI (255)) = nI 256 - 1 from (nI_pred _).symm] at hl
  refine lpD_go (σ := vM) (P := fun i3 s4 H locs ls => sx_S g E E H0 H locs ∧ mm g H = s4 ∧ lv_has ls 3 [(2, .int (nI i3 - 1)), (0, .ref o), (1, .ref a0)]) (Wd := fun H locs ls => W p l e rm_M_multiply s m args below meth c H locs 0 0 Q (F0 m 20 ls [])) (N := 256) ?_ ?_ 256 _ (by omega) eR5 _ _ _ ⟨hS, hV, lv_sub hl [0, 1, 2] rfl⟩
  · intro i3 s4 H locs ls hii3 hP ihi3
    obtain ⟨hS, hV, hl⟩ := hP
    rw [nI_pred] at hl
    refine lv_iload_n hx hb d_M_multiply_20 rfl (lv_at hl 0 rfl) ?_
    refine lv_if_lt (tgt := 99) hx hb d_M_multiply_21 (by decide) (fun q => absurd q (nI_pos (by omega))) (fun _ => ?_)
    refine lv_aload_n hx hb d_M_multiply_24 rfl (lv_at hl 1 rfl) ?_
    refine sx_get EE (hS.1.ob hE hM.1) rfl i_M 18 (by decide) rfl fl_M_52 rfl d_M_multiply_25 ?_
    refine vx_gi (sx_runS (As := [.ref (r 18)]) (rest := []) EE (v_M_zero (X := s4) (hS.a (mo_18 hM)) hV) w_M_228 rfl ⟨rfl, rfl⟩ ⟨Nat.le_of_ble_eq_true rfl, Nat.le_of_ble_eq_true rfl⟩ ⟨Nat.zero_le _, Nat.zero_le _⟩ hl.1 rfl (Nat.le_of_ble_eq_true rfl) d_M_multiply_28) hS (fun H locs X_ eX_ hS hV => ?_)
    subst eX_
    have jn64_10 : ∀ (J10 : vM) (H : Heap) (locs : List Loc) (ls : Array Slot), (if (LF_M_zero s4 (r 18)) = true then (if (LF_M_one s4 (r 19)) = true then (s4) else (let X9 : vM := (LF_M_add s4 r (r 18) (r 19) (r 18) (r 19)); X9)) else (let X7 : vM := (LF_M_add s4 r (r 18) (r 19) (r 18) (r 19)); X7)) = J10 → sx_S g E E H0 H locs → mm g H = J10 → lv_has ls 3 [(2, .int (nI (i3))), (0, .ref o), (1, .ref a0)] → W p l e rm_M_multiply s m args below meth c H locs 0 0 Q (F0 m 64 ls []) := by
      intro J10 H locs ls eJ10 hS hV hl
      refine lv_aload_n hx hb d_M_multiply_64 rfl (lv_at hl 2 rfl) ?_
      refine lv_iload_n hx hb d_M_multiply_65 rfl (lv_at hl 0 rfl) ?_
      refine vx_gi (sx_runS (As := [.ref a0, .int (nI (i3))]) (rest := []) EE (v_M_bit (X := J10) (hS.a f0) (by omega) hV) w_M_273 rfl ⟨rfl, rfl⟩ ⟨Nat.le_of_ble_eq_true rfl, Nat.le_of_ble_eq_true rfl⟩ ⟨Nat.zero_le _, Nat.zero_le _⟩ hl.1 rfl (Nat.le_of_ble_eq_true rfl) d_M_multiply_66) hS (fun H locs X_ eX_ hS hV => ?_)
      subst eX_
      refine lv_iconst (v := nI 1) hx hb d_M_multiply_69 (by decide +kernel) ?_
      have jn93_14 : ∀ (J14 : vM) (H : Heap) (locs : List Loc) (ls : Array Slot), (if (LF_M_bit J10 a0 i3) = (nI 1) then (let X13 : vM := (LF_M_add J10 r (r 18) (r 19) (r 20) (r 21)); X13) else J10) = J14 → sx_S g E E H0 H locs → mm g H = J14 → lv_has ls 3 [(2, .int (nI (i3))), (0, .ref o), (1, .ref a0)] → W p l e rm_M_multiply s m args below meth c H locs 0 0 Q (F0 m 93 ls []) := by
        intro J14 H locs ls eJ14 hS hV hl
        refine lv_iinc (v := nI i3 - 1) (lv' := [(2, .int (nI i3 - 1)), (0, .ref o), (1, .ref a0)]) hx hb d_M_multiply_93 hl (k := 0) rfl (sx_dn _) (by decide) rfl (fun ls hl => ?_)
        refine lv_goto (tgt := 20) hx hb d_M_multiply_96 (by decide) ?_
        exact ihi3 J14 _ _ _ (by subst eJ10 eJ14; exact rfl) ⟨hS, hV, lv_sub hl [0, 1, 2] rfl⟩
      refine lv_icmp_ne (tgt := 93) hx hb d_M_multiply_70 (by decide) (fun q70_11 => ?_) (fun q70_11 => ?_)
      · skip
        exact jn93_14 J10 _ _ _ (vx_n q70_11 rfl) hS hV (lv_sub hl [0, 1, 2] rfl)
      · skip
        refine lv_aload_n hx hb d_M_multiply_73 rfl (lv_at hl 1 rfl) ?_
        refine lv_aload_n hx hb d_M_multiply_74 rfl (lv_at hl 1 rfl) ?_
        refine sx_get EE (hS.1.ob hE hM.1) rfl i_M 18 (by decide) rfl fl_M_52 rfl d_M_multiply_75 ?_
        refine lv_aload_n hx hb d_M_multiply_78 rfl (lv_at hl 1 rfl) ?_
        refine sx_get EE (hS.1.ob hE hM.1) rfl i_M 19 (by decide) rfl fl_M_55 rfl d_M_multiply_79 ?_
        refine lv_aload_n hx hb d_M_multiply_82 rfl (lv_at hl 1 rfl) ?_
        refine sx_get EE (hS.1.ob hE hM.1) rfl i_M 20 (by decide) rfl fl_M_58 rfl d_M_multiply_83 ?_
        refine lv_aload_n hx hb d_M_multiply_86 rfl (lv_at hl 1 rfl) ?_
        refine sx_get EE (hS.1.ob hE hM.1) rfl i_M 21 (by decide) rfl fl_M_61 rfl d_M_multiply_87 ?_
        refine vx_gv (sx_runV (As := [.ref (r 18), .ref (r 19), .ref (r 20), .ref (r 21)]) (rest := []) EE (hS.1.ob hE hM.1) rfl rfl (v_M_add (X := J10) (hM.kept hS.1 hE) hE hW (hS.a (mo_18 hM)) (mow_18 hW) (hS.a (mo_19 hM)) (mow_19 hW) (hS.a (mo_20 hM)) (hS.a (mo_21 hM)) hV) w_M_284 rfl ⟨rfl, rfl⟩ ⟨Nat.le_of_ble_eq_true rfl, Nat.le_of_ble_eq_true rfl⟩ ⟨Nat.zero_le _, Nat.zero_le _⟩ hl.1 rfl (Nat.le_of_ble_eq_true rfl) d_M_multiply_90) hS (fun H locs X16 eX16 hS hV => ?_)
        exact jn93_14 X16 _ _ _ (by subst eX16; exact (vx_p q70_11 rfl)) hS hV (lv_sub hl [0, 1, 2] rfl)
    refine lv_if_eq (tgt := 44) hx hb d_M_multiply_31 (by decide) (fun q31_5 => ?_) (fun q31_5 => ?_)
    · skip
      have q31_5 := vx_bf (vx_b0 q31_5)
      refine lv_aload_n hx hb d_M_multiply_44 rfl (lv_at hl 1 rfl) ?_
      refine lv_aload_n hx hb d_M_multiply_45 rfl (lv_at hl 1 rfl) ?_
      refine sx_get EE (hS.1.ob hE hM.1) rfl i_M 18 (by decide) rfl fl_M_52 rfl d_M_multiply_46 ?_
      refine lv_aload_n hx hb d_M_multiply_49 rfl (lv_at hl 1 rfl) ?_
      refine sx_get EE (hS.1.ob hE hM.1) rfl i_M 19 (by decide) rfl fl_M_55 rfl d_M_multiply_50 ?_
      refine lv_aload_n hx hb d_M_multiply_53 rfl (lv_at hl 1 rfl) ?_
      refine sx_get EE (hS.1.ob hE hM.1) rfl i_M 18 (by decide) rfl fl_M_52 rfl d_M_multiply_54 ?_
      refine lv_aload_n hx hb d_M_multiply_57 rfl (lv_at hl 1 rfl) ?_
      refine sx_get EE (hS.1.ob hE hM.1) rfl i_M 19 (by decide) rfl fl_M_55 rfl d_M_multiply_58 ?_
      refine vx_gv (sx_runV (As := [.ref (r 18), .ref (r 19), .ref (r 18), .ref (r 19)]) (rest := []) EE (hS.1.ob hE hM.1) rfl rfl (v_M_add (X := s4) (hM.kept hS.1 hE) hE hW (hS.a (mo_18 hM)) (mow_18 hW) (hS.a (mo_19 hM)) (mow_19 hW) (hS.a (mo_18 hM)) (hS.a (mo_19 hM)) hV) w_M_284 rfl ⟨rfl, rfl⟩ ⟨Nat.le_of_ble_eq_true rfl, Nat.le_of_ble_eq_true rfl⟩ ⟨Nat.zero_le _, Nat.zero_le _⟩ hl.1 rfl (Nat.le_of_ble_eq_true rfl) d_M_multiply_61) hS (fun H locs X17 eX17 hS hV => ?_)
      exact jn64_10 X17 _ _ _ (by subst eX17; exact (vx_n q31_5 rfl)) hS hV (lv_sub hl [0, 1, 2] rfl)
    · skip
      have q31_5 := vx_b1 q31_5
      refine lv_aload_n hx hb d_M_multiply_34 rfl (lv_at hl 1 rfl) ?_
      refine sx_get EE (hS.1.ob hE hM.1) rfl i_M 19 (by decide) rfl fl_M_55 rfl d_M_multiply_35 ?_
      refine vx_gi (sx_runS (As := [.ref (r 19)]) (rest := []) EE (v_M_one (X := s4) (hS.a (mo_19 hM)) hV) w_M_232 rfl ⟨rfl, rfl⟩ ⟨Nat.le_of_ble_eq_true rfl, Nat.le_of_ble_eq_true rfl⟩ ⟨Nat.zero_le _, Nat.zero_le _⟩ hl.1 rfl (Nat.le_of_ble_eq_true rfl) d_M_multiply_38) hS (fun H locs X_ eX_ hS hV => ?_)
      subst eX_
      refine lv_if_ne (tgt := 64) hx hb d_M_multiply_41 (by decide) (fun q41_17 => ?_) (fun q41_17 => ?_)
      · skip
        have q41_17 := vx_b1 q41_17
        exact jn64_10 s4 _ _ _ (vx_p q31_5 (vx_p q41_17 rfl)) hS hV (lv_sub hl [0, 1, 2] rfl)
      · skip
        have q41_17 := vx_bf (vx_b0 q41_17)
        refine lv_aload_n hx hb d_M_multiply_44 rfl (lv_at hl 1 rfl) ?_
        refine lv_aload_n hx hb d_M_multiply_45 rfl (lv_at hl 1 rfl) ?_
        refine sx_get EE (hS.1.ob hE hM.1) rfl i_M 18 (by decide) rfl fl_M_52 rfl d_M_multiply_46 ?_
        refine lv_aload_n hx hb d_M_multiply_49 rfl (lv_at hl 1 rfl) ?_
        refine sx_get EE (hS.1.ob hE hM.1) rfl i_M 19 (by decide) rfl fl_M_55 rfl d_M_multiply_50 ?_
        refine lv_aload_n hx hb d_M_multiply_53 rfl (lv_at hl 1 rfl) ?_
        refine sx_get EE (hS.1.ob hE hM.1) rfl i_M 18 (by decide) rfl fl_M_52 rfl d_M_multiply_54 ?_
        refine lv_aload_n hx hb d_M_multiply_57 rfl (lv_at hl 1 rfl) ?_
        refine sx_get EE (hS.1.ob hE hM.1) rfl i_M 19 (by decide) rfl fl_M_55 rfl d_M_multiply_58 ?_
        refine vx_gv (sx_runV (As := [.ref (r 18), .ref (r 19), .ref (r 18), .ref (r 19)]) (rest := []) EE (hS.1.ob hE hM.1) rfl rfl (v_M_add (X := s4) (hM.kept hS.1 hE) hE hW (hS.a (mo_18 hM)) (mow_18 hW) (hS.a (mo_19 hM)) (mow_19 hW) (hS.a (mo_18 hM)) (hS.a (mo_19 hM)) hV) w_M_284 rfl ⟨rfl, rfl⟩ ⟨Nat.le_of_ble_eq_true rfl, Nat.le_of_ble_eq_true rfl⟩ ⟨Nat.zero_le _, Nat.zero_le _⟩ hl.1 rfl (Nat.le_of_ble_eq_true rfl) d_M_multiply_61) hS (fun H locs X19 eX19 hS hV => ?_)
        exact jn64_10 X19 _ _ _ (by subst eX19; exact (vx_p q31_5 (vx_n q41_17 rfl))) hS hV (lv_sub hl [0, 1, 2] rfl)
  · intro H locs ls hP
    obtain ⟨hS, hV, hl⟩ := hP
    refine lv_iload_n hx hb d_M_multiply_20 rfl (lv_at hl 0 rfl) ?_
    refine lv_if_lt (tgt := 99) hx hb d_M_multiply_21 (by decide) (fun _ => ?_) (fun q => absurd (by decide +kernel) q)
    exact hret _ _ _ _ _ (by subst eX1 eX2 eR5; exact rfl) hS hV d_M_multiply_99
def LF_M_fromBase (X : vM) (r : Nat → Nat) (a0 : Nat) : vM := (let X1 : vM := (LF_M_copy X (r 20) (r 16)); let X2 : vM := (LF_M_copy X1 (r 21) (r 17)); let X3 : vM := (LF_M_multiply X2 r a0); X3)
abbrev rm_M_fromBase : Room := { frames := 5, cells := 0, slots := 0, locals := 131 }
set_option maxHeartbeats 4000000 in
set_option maxRecDepth 100000 in
theorem v_M_fromBase {l : Launch} {D : va_G} {g : ClassId → FieldType → Prop} {E : Nat → Prop} {H0 : Heap} {X : vM} {o : Nat} {r : Nat → Nat} {i : Nat → Int32} {a0 : Nat} (hM : mo_ D g H0 o r i) (hE : ¬ E o) (hW : ∀ q ∈ mo_wr, E (r q.1)) (f0 : sx_A g .long H0 a0 16) (hV : mm g H0 = X) : Met l y_M_fromBase (.code y_M_fromBase b_M_fromBase 2 none :: G_) rm_M_fromBase (sx_Pc [.ref o, .ref a0] H0 D g) (vx_Qv g E H0 (LF_M_fromBase X r a0)) 0 0 E := by
  refine vx_mv (own := R_M) (by decide) rfl rfl rfl (Nat.le_of_ble_eq_true rfl) ?_
  intro p e s m args below meth c Q ls EE hl hret
  obtain ⟨hx, hb, hml, hown, hts, hG, hK⟩ := id EE
  have hS : sx_S g E E H0 H0 [] := sx_S.rf
  have hl : lv_has ls 2 [(0, .ref o), (1, .ref a0)] := hl
  refine lv_aload_n hx hb d_M_fromBase_0 rfl (lv_at hl 0 rfl) ?_
  refine sx_get EE (hS.1.ob hE hM.1) rfl i_M 20 (by decide) rfl fl_M_58 rfl d_M_fromBase_1 ?_
  refine lv_aload_n hx hb d_M_fromBase_4 rfl (lv_at hl 0 rfl) ?_
  refine sx_get EE (hS.1.ob hE hM.1) rfl i_M 16 (by decide) rfl fl_M_46 rfl d_M_fromBase_5 ?_
  refine vx_gv (sx_runS (As := [.ref (r 20), .ref (r 16)]) (rest := []) EE (v_M_copy (X := X) (hS.a (mo_20 hM)) (mow_20 hW) (hS.a (mo_16 hM)) hV) w_M_207 rfl ⟨rfl, rfl⟩ ⟨Nat.le_of_ble_eq_true rfl, Nat.le_of_ble_eq_true rfl⟩ ⟨Nat.zero_le _, Nat.zero_le _⟩ hl.1 rfl (Nat.le_of_ble_eq_true rfl) d_M_fromBase_8) hS (fun H locs X1 eX1 hS hV => ?_)
  refine lv_aload_n hx hb d_M_fromBase_11 rfl (lv_at hl 0 rfl) ?_
  refine sx_get EE (hS.1.ob hE hM.1) rfl i_M 21 (by decide) rfl fl_M_61 rfl d_M_fromBase_12 ?_
  refine lv_aload_n hx hb d_M_fromBase_15 rfl (lv_at hl 0 rfl) ?_
  refine sx_get EE (hS.1.ob hE hM.1) rfl i_M 17 (by decide) rfl fl_M_49 rfl d_M_fromBase_16 ?_
  refine vx_gv (sx_runS (As := [.ref (r 21), .ref (r 17)]) (rest := []) EE (v_M_copy (X := X1) (hS.a (mo_21 hM)) (mow_21 hW) (hS.a (mo_17 hM)) hV) w_M_207 rfl ⟨rfl, rfl⟩ ⟨Nat.le_of_ble_eq_true rfl, Nat.le_of_ble_eq_true rfl⟩ ⟨Nat.zero_le _, Nat.zero_le _⟩ hl.1 rfl (Nat.le_of_ble_eq_true rfl) d_M_fromBase_19) hS (fun H locs X2 eX2 hS hV => ?_)
  refine lv_aload_n hx hb d_M_fromBase_22 rfl (lv_at hl 0 rfl) ?_
  refine lv_aload_n hx hb d_M_fromBase_23 rfl (lv_at hl 1 rfl) ?_
  refine vx_gv (sx_runV (As := [.ref a0]) (rest := []) EE (hS.1.ob hE hM.1) rfl rfl (v_M_multiply (X := X2) (hM.kept hS.1 hE) hE hW (hS.a f0) hV) w_M_287 rfl ⟨rfl, rfl⟩ ⟨Nat.le_of_ble_eq_true rfl, Nat.le_of_ble_eq_true rfl⟩ ⟨Nat.zero_le _, Nat.zero_le _⟩ hl.1 rfl (Nat.le_of_ble_eq_true rfl) d_M_fromBase_24) hS (fun H locs X3 eX3 hS hV => ?_)
  exact hret _ _ _ _ _ (by subst eX1 eX2 eX3; exact rfl) hS hV d_M_fromBase_27
