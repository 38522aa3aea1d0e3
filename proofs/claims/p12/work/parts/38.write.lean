def LF_F_settle (X : vM) (kq : Nat → Nat → Nat) (ts : Nat → Nat) (a0 : Nat) : vM := (let X1 : vM := cpL X a0 0 (kq 0 6) 0 10; let X2 : vM := (LF_F_carry X1 (kq 0 6)); let z4 : Int64 := (((X2.1 (kq 0 6) 0) + (0 : Int64)) >>> ((nI 26).toInt64 &&& 63)); let z6 : Int64 := (((X2.1 (kq 0 6) 1) + z4) >>> ((nI 25).toInt64 &&& 63)); let z8 : Int64 := (((X2.1 (kq 0 6) 2) + z6) >>> ((nI 26).toInt64 &&& 63)); let z10 : Int64 := (((X2.1 (kq 0 6) 3) + z8) >>> ((nI 25).toInt64 &&& 63)); let z12 : Int64 := (((X2.1 (kq 0 6) 4) + z10) >>> ((nI 26).toInt64 &&& 63)); let z14 : Int64 := (((X2.1 (kq 0 6) 5) + z12) >>> ((nI 25).toInt64 &&& 63)); let z16 : Int64 := (((X2.1 (kq 0 6) 6) + z14) >>> ((nI 26).toInt64 &&& 63)); let z18 : Int64 := (((X2.1 (kq 0 6) 7) + z16) >>> ((nI 25).toInt64 &&& 63)); let z20 : Int64 := (((X2.1 (kq 0 6) 8) + z18) >>> ((nI 26).toInt64 &&& 63)); let z22 : Int64 := (((X2.1 (kq 0 6) 9) + z20) >>> ((nI 25).toInt64 &&& 63)); let z24 : Int64 := ((19 : Int64) * z22); let z26 : Int64 := ((X2.1 (kq 0 6) 0) + z24); let z27 : Int64 := (z26 >>> ((nI 26).toInt64 &&& 63)); let X28 : vM := stL X2 (kq 0 6) 0 (z26 - (z27 <<< ((nI 26).toInt64 &&& 63))); let z30 : Int64 := ((X28.1 (kq 0 6) 1) + z27); let z31 : Int64 := (z30 >>> ((nI 25).toInt64 &&& 63)); let X32 : vM := stL X28 (kq 0 6) 1 (z30 - (z31 <<< ((nI 25).toInt64 &&& 63))); let z34 : Int64 := ((X32.1 (kq 0 6) 2) + z31); let z35 : Int64 := (z34 >>> ((nI 26).toInt64 &&& 63)); let X36 : vM := stL X32 (kq 0 6) 2 (z34 - (z35 <<< ((nI 26).toInt64 &&& 63))); let z38 : Int64 := ((X36.1 (kq 0 6) 3) + z35); let z39 : Int64 := (z38 >>> ((nI 25).toInt64 &&& 63)); let X40 : vM := stL X36 (kq 0 6) 3 (z38 - (z39 <<< ((nI 25).toInt64 &&& 63))); let z42 : Int64 := ((X40.1 (kq 0 6) 4) + z39); let z43 : Int64 := (z42 >>> ((nI 26).toInt64 &&& 63)); let X44 : vM := stL X40 (kq 0 6) 4 (z42 - (z43 <<< ((nI 26).toInt64 &&& 63))); let z46 : Int64 := ((X44.1 (kq 0 6) 5) + z43); let z47 : Int64 := (z46 >>> ((nI 25).toInt64 &&& 63)); let X48 : vM := stL X44 (kq 0 6) 5 (z46 - (z47 <<< ((nI 25).toInt64 &&& 63))); let z50 : Int64 := ((X48.1 (kq 0 6) 6) + z47); let z51 : Int64 := (z50 >>> ((nI 26).toInt64 &&& 63)); let X52 : vM := stL X48 (kq 0 6) 6 (z50 - (z51 <<< ((nI 26).toInt64 &&& 63))); let z54 : Int64 := ((X52.1 (kq 0 6) 7) + z51); let z55 : Int64 := (z54 >>> ((nI 25).toInt64 &&& 63)); let X56 : vM := stL X52 (kq 0 6) 7 (z54 - (z55 <<< ((nI 25).toInt64 &&& 63))); let z58 : Int64 := ((X56.1 (kq 0 6) 8) + z55); let z59 : Int64 := (z58 >>> ((nI 26).toInt64 &&& 63)); let X60 : vM := stL X56 (kq 0 6) 8 (z58 - (z59 <<< ((nI 26).toInt64 &&& 63))); let z62 : Int64 := ((X60.1 (kq 0 6) 9) + z59); let z63 : Int64 := (z62 >>> ((nI 25).toInt64 &&& 63)); let X64 : vM := stL X60 (kq 0 6) 9 (z62 - (z63 <<< ((nI 25).toInt64 &&& 63))); X64)
abbrev rm_F_settle : Room := { frames := 1, cells := 0, slots := 0, locals := 100 }
set_option maxHeartbeats 4000000 in
set_option maxRecDepth 100000 in
theorem v_F_settle {l : Launch} {D : va_G} {g : ClassId → FieldType → Prop} {E : Nat → Prop} {H0 : Heap} {X : vM} {kq : Nat → Nat → Nat} {ts : Nat → Nat} {a0 : Nat} (hC : kc_ D g E H0 kq ts) (f0 : sx_A g .long H0 a0 10) (hV : mm g H0 = X) : Met l y_F_settle (.code y_F_settle b_F_settle 9 none :: G_) rm_F_settle (sx_Pc [.ref (kq 0 99), .ref a0] H0 D g) (vx_Qv g E H0 (LF_F_settle X kq ts a0)) 0 0 E := by
  refine vx_mv (own := R_F) (by decide) rfl rfl rfl (Nat.le_of_ble_eq_true rfl) ?_
  intro p e s m args below meth c Q ls EE hl hret
  obtain ⟨hx, hb, hml, hown, hts, hG, hK⟩ := id EE
  have hS : sx_S g E E H0 H0 [] := sx_S.rf
  have hz := hC.2.2.2.2
  have hl : lv_has ls 9 [(0, .ref (kq 0 99)), (1, .ref a0)] := hl
  refine lv_aload_n hx hb d_F_settle_0 rfl (lv_at hl 1 rfl) ?_
  refine lv_iconst (v := nI 0) hx hb d_F_settle_1 (by decide +kernel) ?_
  refine lv_aload_n hx hb d_F_settle_2 rfl (lv_at hl 0 rfl) ?_
  refine sx_get EE (hS.1.ob (kc_n0 hC) (kc_o0 hC)) rfl i_F 6 (by decide) rfl fl_F_30 rfl d_F_settle_3 ?_
  refine lv_iconst (v := nI 0) hx hb d_F_settle_6 (by decide +kernel) ?_
  refine lv_bipush (v := nI 10) hx hb d_F_settle_7 (by decide +kernel) ?_
  refine vx_cpyL hx hb (by rw [hml]; exact hl.1.symm) hown (hts (.methodLink R_F 39 arraycopyName) (by decide +kernel)) (hts (.native arraycopyName) (by decide +kernel)) (hts (.static arraycopyName) (by decide +kernel)) (hts (.initialized "java/lang/System") (by decide +kernel)) hG hS hV f0 (kc_a0_6 hC) (kc_e0_6 hC) (by omega) (by omega) (by omega) (by omega) (Nat.le_of_ble_eq_true rfl) (Nat.le_of_ble_eq_true rfl) d_F_settle_9 (fun H locs X1 eX1 hS hV => ?_)
  refine lv_aload_n hx hb d_F_settle_12 rfl (lv_at hl 0 rfl) ?_
  refine sx_get EE (hS.1.ob (kc_n0 hC) (kc_o0 hC)) rfl i_F 6 (by decide) rfl fl_F_30 rfl d_F_settle_13 ?_
  refine vx_gv (sx_runS (As := [.ref (kq 0 6)]) (rest := []) EE (v_F_carry (X := X1) (hS.a (kc_a0_6 hC)) (kc_e0_6 hC) hV) w_F_45 rfl ⟨rfl, rfl⟩ ⟨Nat.le_of_ble_eq_true rfl, Nat.le_of_ble_eq_true rfl⟩ ⟨Nat.zero_le _, Nat.zero_le _⟩ hl.1 rfl (Nat.le_of_ble_eq_true rfl) d_F_settle_16) hS (fun H locs X2 eX2 hS hV => ?_)
  refine lv_lconst (v := 0) hx hb d_F_settle_19 (by decide +kernel) ?_
  refine lv_lstore_n (lv' := [(2, .long (0 : Int64)), (0, .ref (kq 0 99)), (1, .ref a0)]) hx hb d_F_settle_20 rfl hl (by decide) rfl (fun ls hl => ?_)
  refine lv_iconst (v := nI 0) hx hb d_F_settle_21 (by decide +kernel) ?_
  refine lv_istore (lv' := [(4, .int (nI (0))), (2, .long (0 : Int64)), (0, .ref (kq 0 99)), (1, .ref a0)]) hx hb d_F_settle_22 hl (by decide) rfl (fun ls hl => ?_)
  refine lv_iload hx hb d_F_settle_24 (lv_at hl 0 rfl) ?_
  refine lv_bipush (v := nI 10) hx hb d_F_settle_26 (by decide +kernel) ?_
  refine lv_icmp_ge (tgt := 53) hx hb d_F_settle_28 (by decide) (fun q28_2 => absurd (show 10 ≤ 0 by have q28_2 : 10 ≤ 0 := (nI_leI (a := 10) (b := 0) (by omega) (by omega)).mp q28_2; exact q28_2) (by decide)) (fun _ => ?_)
  refine lv_aload_n hx hb d_F_settle_31 rfl (lv_at hl 2 rfl) ?_
  refine sx_get EE (hS.1.ob (kc_n0 hC) (kc_o0 hC)) rfl i_F 6 (by decide) rfl fl_F_30 rfl d_F_settle_32 ?_
  refine lv_iload hx hb d_F_settle_35 (lv_at hl 0 rfl) ?_
  refine vx_lald hx hb hG hS hV (kc_a0_6 hC) (by omega) (by decide) d_F_settle_37 ?_
  refine lv_lload_n hx hb d_F_settle_38 rfl (lv_at hl 1 rfl) ?_
  refine lv_ladd hx hb d_F_settle_39 ?_
  refine lv_iload hx hb d_F_settle_40 (lv_at hl 0 rfl) ?_
  refine vx_gi (sx_runS (As := [.int (nI (0))]) (rest := [.long ((X2.1 (kq 0 6) 0) + (0 : Int64))]) EE (v_F_widthOf (X := X2) (by omega) hV) w_F_67 rfl ⟨rfl, rfl⟩ ⟨Nat.le_of_ble_eq_true rfl, Nat.le_of_ble_eq_true rfl⟩ ⟨Nat.zero_le _, Nat.zero_le _⟩ hl.1 rfl (Nat.le_of_ble_eq_true rfl) d_F_settle_42) hS (fun H locs X_ eX_ hS hV => ?_)
  subst eX_
  refine sx_ti (y := nI 26) rfl ?_
  refine lv_lshr hx hb d_F_settle_45 rfl ?_
  refine vx_nmL (fun z4 ez4 => ?_)
  refine lv_lstore_n (lv' := [(2, .long z4), (4, .int (nI (0))), (0, .ref (kq 0 99)), (1, .ref a0)]) hx hb d_F_settle_46 rfl hl (by decide) rfl (fun ls hl => ?_)
  refine lv_iinc (v := nI (1)) (lv' := [(4, .int (nI (1))), (2, .long z4), (0, .ref (kq 0 99)), (1, .ref a0)]) hx hb d_F_settle_47 hl (k := 1) rfl (sx_inc _ _) (by decide) rfl (fun ls hl => ?_)
  refine lv_goto (tgt := 24) hx hb d_F_settle_50 (by decide) ?_
  refine lv_iload hx hb d_F_settle_24 (lv_at hl 0 rfl) ?_
  refine lv_bipush (v := nI 10) hx hb d_F_settle_26 (by decide +kernel) ?_
  refine lv_icmp_ge (tgt := 53) hx hb d_F_settle_28 (by decide) (fun q28_4 => absurd (show 10 ≤ 1 by have q28_4 : 10 ≤ 1 := (nI_leI (a := 10) (b := 1) (by omega) (by omega)).mp q28_4; exact q28_4) (by decide)) (fun _ => ?_)
  refine lv_aload_n hx hb d_F_settle_31 rfl (lv_at hl 2 rfl) ?_
  refine sx_get EE (hS.1.ob (kc_n0 hC) (kc_o0 hC)) rfl i_F 6 (by decide) rfl fl_F_30 rfl d_F_settle_32 ?_
  refine lv_iload hx hb d_F_settle_35 (lv_at hl 0 rfl) ?_
  refine vx_lald hx hb hG hS hV (kc_a0_6 hC) (by omega) (by decide) d_F_settle_37 ?_
  refine lv_lload_n hx hb d_F_settle_38 rfl (lv_at hl 1 rfl) ?_
  refine lv_ladd hx hb d_F_settle_39 ?_
  refine lv_iload hx hb d_F_settle_40 (lv_at hl 0 rfl) ?_
  refine vx_gi (sx_runS (As := [.int (nI (1))]) (rest := [.long ((X2.1 (kq 0 6) 1) + z4)]) EE (v_F_widthOf (X := X2) (by omega) hV) w_F_67 rfl ⟨rfl, rfl⟩ ⟨Nat.le_of_ble_eq_true rfl, Nat.le_of_ble_eq_true rfl⟩ ⟨Nat.zero_le _, Nat.zero_le _⟩ hl.1 rfl (Nat.le_of_ble_eq_true rfl) d_F_settle_42) hS (fun H locs X_ eX_ hS hV => ?_)
  subst eX_
  refine sx_ti (y := nI 25) rfl ?_
  refine lv_lshr hx hb d_F_settle_45 rfl ?_
  refine vx_nmL (fun z6 ez6 => ?_)
  refine lv_lstore_n (lv' := [(2, .long z6), (4, .int (nI (1))), (0, .ref (kq 0 99)), (1, .ref a0)]) hx hb d_F_settle_46 rfl hl (by decide) rfl (fun ls hl => ?_)
  refine lv_iinc (v := nI (2)) (lv' := [(4, .int (nI (2))), (2, .long z6), (0, .ref (kq 0 99)), (1, .ref a0)]) hx hb d_F_settle_47 hl (k := 1) rfl (sx_inc _ _) (by decide) rfl (fun ls hl => ?_)
  refine lv_goto (tgt := 24) hx hb d_F_settle_50 (by decide) ?_
  refine lv_iload hx hb d_F_settle_24 (lv_at hl 0 rfl) ?_
  refine lv_bipush (v := nI 10) hx hb d_F_settle_26 (by decide +kernel) ?_
  refine lv_icmp_ge (tgt := 53) hx hb d_F_settle_28 (by decide) (fun q28_6 => absurd (show 10 ≤ 2 by have q28_6 : 10 ≤ 2 := (nI_leI (a := 10) (b := 2) (by omega) (by omega)).mp q28_6; exact q28_6) (by decide)) (fun _ => ?_)
  refine lv_aload_n hx hb d_F_settle_31 rfl (lv_at hl 2 rfl) ?_
  refine sx_get EE (hS.1.ob (kc_n0 hC) (kc_o0 hC)) rfl i_F 6 (by decide) rfl fl_F_30 rfl d_F_settle_32 ?_
  refine lv_iload hx hb d_F_settle_35 (lv_at hl 0 rfl) ?_
  refine vx_lald hx hb hG hS hV (kc_a0_6 hC) (by omega) (by decide) d_F_settle_37 ?_
  refine lv_lload_n hx hb d_F_settle_38 rfl (lv_at hl 1 rfl) ?_
  refine lv_ladd hx hb d_F_settle_39 ?_
  refine lv_iload hx hb d_F_settle_40 (lv_at hl 0 rfl) ?_
  refine vx_gi (sx_runS (As := [.int (nI (2))]) (rest := [.long ((X2.1 (kq 0 6) 2) + z6)]) EE (v_F_widthOf (X := X2) (by omega) hV) w_F_67 rfl ⟨rfl, rfl⟩ ⟨Nat.le_of_ble_eq_true rfl, Nat.le_of_ble_eq_true rfl⟩ ⟨Nat.zero_le _, Nat.zero_le _⟩ hl.1 rfl (Nat.le_of_ble_eq_true rfl) d_F_settle_42) hS (fun H locs X_ eX_ hS hV => ?_)
  subst eX_
  refine sx_ti (y := nI 26) rfl ?_
  refine lv_lshr hx hb d_F_settle_45 rfl ?_
  refine vx_nmL (fun z8 ez8 => ?_)
  refine lv_lstore_n (lv' := [(2, .long z8), (4, .int (nI (2))), (0, .ref (kq 0 99)), (1, .ref a0)]) hx hb d_F_settle_46 rfl hl (by decide) rfl (fun ls hl => ?_)
  refine lv_iinc (v := nI (3)) (lv' := [(4, .int (nI (3))), (2, .long z8), (0, .ref (kq 0 99)), (1, .ref a0)]) hx hb d_F_settle_47 hl (k := 1) rfl (sx_inc _ _) (by decide) rfl (fun ls hl => ?_)
  refine lv_goto (tgt := 24) hx hb d_F_settle_50 (by decide) ?_
  refine lv_iload hx hb d_F_settle_24 (lv_at hl 0 rfl) ?_
  refine lv_bipush (v := nI 10) hx hb d_F_settle_26 (by decide +kernel) ?_
  refine lv_icmp_ge (tgt := 53) hx hb d_F_settle_28 (by decide) (fun q28_8 => absurd (show 10 ≤ 3 by have q28_8 : 10 ≤ 3 := (nI_leI (a := 10) (b := 3) (by omega) (by omega)).mp q28_8; exact q28_8) (by decide)) (fun _ => ?_)
  refine lv_aload_n hx hb d_F_settle_31 rfl (lv_at hl 2 rfl) ?_
  refine sx_get EE (hS.1.ob (kc_n0 hC) (kc_o0 hC)) rfl i_F 6 (by decide) rfl fl_F_30 rfl d_F_settle_32 ?_
  refine lv_iload hx hb d_F_settle_35 (lv_at hl 0 rfl) ?_
  refine vx_lald hx hb hG hS hV (kc_a0_6 hC) (by omega) (by decide) d_F_settle_37 ?_
  refine lv_lload_n hx hb d_F_settle_38 rfl (lv_at hl 1 rfl) ?_
  refine lv_ladd hx hb d_F_settle_39 ?_
  refine lv_iload hx hb d_F_settle_40 (lv_at hl 0 rfl) ?_
  refine vx_gi (sx_runS (As := [.int (nI (3))]) (rest := [.long ((X2.1 (kq 0 6) 3) + z8)]) EE (v_F_widthOf (X := X2) (by omega) hV) w_F_67 rfl ⟨rfl, rfl⟩ ⟨Nat.le_of_ble_eq_true rfl, Nat.le_of_ble_eq_true rfl⟩ ⟨Nat.zero_le _, Nat.zero_le _⟩ hl.1 rfl (Nat.le_of_ble_eq_true rfl) d_F_settle_42) hS (fun H locs X_ eX_ hS hV => ?_)
  subst eX_
  refine sx_ti (y := nI 25) rfl ?_
  refine lv_lshr hx hb d_F_settle_45 rfl ?_
  refine vx_nmL (fun z10 ez10 => ?_)
  refine lv_lstore_n (lv' := [(2, .long z10), (4, .int (nI (3))), (0, .ref (kq 0 99)), (1, .ref a0)]) hx hb d_F_settle_46 rfl hl (by decide) rfl (fun ls hl => ?_)
  refine lv_iinc (v := nI (4)) (lv' := [(4, .int (nI (4))), (2, .long z10), (0, .ref (kq 0 99)), (1, .ref a0)]) hx hb d_F_settle_47 hl (k := 1) rfl (sx_inc _ _) (by decide) rfl (fun ls hl => ?_)
  refine lv_goto (tgt := 24) hx hb d_F_settle_50 (by decide) ?_
  refine lv_iload hx hb d_F_settle_24 (lv_at hl 0 rfl) ?_
  refine lv_bipush (v := nI 10) hx hb d_F_settle_26 (by decide +kernel) ?_
  refine lv_icmp_ge (tgt := 53) hx hb d_F_settle_28 (by decide) (fun q28_10 => absurd (show 10 ≤ 4 by have q28_10 : 10 ≤ 4 := (nI_leI (a := 10) (b := 4) (by omega) (by omega)).mp q28_10; exact q28_10) (by decide)) (fun _ => ?_)
  refine lv_aload_n hx hb d_F_settle_31 rfl (lv_at hl 2 rfl) ?_
  refine sx_get EE (hS.1.ob (kc_n0 hC) (kc_o0 hC)) rfl i_F 6 (by decide) rfl fl_F_30 rfl d_F_settle_32 ?_
  refine lv_iload hx hb d_F_settle_35 (lv_at hl 0 rfl) ?_
  refine vx_lald hx hb hG hS hV (kc_a0_6 hC) (by omega) (by decide) d_F_settle_37 ?_
  refine lv_lload_n hx hb d_F_settle_38 rfl (lv_at hl 1 rfl) ?_
  refine lv_ladd hx hb d_F_settle_39 ?_
  refine lv_iload hx hb d_F_settle_40 (lv_at hl 0 rfl) ?_
  refine vx_gi (sx_runS (As := [.int (nI (4))]) (rest := [.long ((X2.1 (kq 0 6) 4) + z10)]) EE (v_F_widthOf (X := X2) (by omega) hV) w_F_67 rfl ⟨rfl, rfl⟩ ⟨Nat.le_of_ble_eq_true rfl, Nat.le_of_ble_eq_true rfl⟩ ⟨Nat.zero_le _, Nat.zero_le _⟩ hl.1 rfl (Nat.le_of_ble_eq_true rfl) d_F_settle_42) hS (fun H locs X_ eX_ hS hV => ?_)
  subst eX_
  refine sx_ti (y := nI 26) rfl ?_
  refine lv_lshr hx hb d_F_settle_45 rfl ?_
  refine vx_nmL (fun z12 ez12 => ?_)
  refine lv_lstore_n (lv' := [(2, .long z12), (4, .int (nI (4))), (0, .ref (kq 0 99)), (1, .ref a0)]) hx hb d_F_settle_46 rfl hl (by decide) rfl (fun ls hl => ?_)
  refine lv_iinc (v := nI (5)) (lv' := [(4, .int (nI (5))), (2, .long z12), (0, .ref (kq 0 99)), (1, .ref a0)]) hx hb d_F_settle_47 hl (k := 1) rfl (sx_inc _ _) (by decide) rfl (fun ls hl => ?_)
  refine lv_goto (tgt := 24) hx hb d_F_settle_50 (by decide) ?_
  refine lv_iload hx hb d_F_settle_24 (lv_at hl 0 rfl) ?_
  refine lv_bipush (v := nI 10) hx hb d_F_settle_26 (by decide +kernel) ?_
  refine lv_icmp_ge (tgt := 53) hx hb d_F_settle_28 (by decide) (fun q28_12 => absurd (show 10 ≤ 5 by have q28_12 : 10 ≤ 5 := (nI_leI (a := 10) (b := 5) (by omega) (by omega)).mp q28_12; exact q28_12) (by decide)) (fun _ => ?_)
  refine lv_aload_n hx hb d_F_settle_31 rfl (lv_at hl 2 rfl) ?_
  refine sx_get EE (hS.1.ob (kc_n0 hC) (kc_o0 hC)) rfl i_F 6 (by decide) rfl fl_F_30 rfl d_F_settle_32 ?_
  refine lv_iload hx hb d_F_settle_35 (lv_at hl 0 rfl) ?_
  refine vx_lald hx hb hG hS hV (kc_a0_6 hC) (by omega) (by decide) d_F_settle_37 ?_
  refine lv_lload_n hx hb d_F_settle_38 rfl (lv_at hl 1 rfl) ?_
  refine lv_ladd hx hb d_F_settle_39 ?_
  refine lv_iload hx hb d_F_settle_40 (lv_at hl 0 rfl) ?_
  refine vx_gi (sx_runS (As := [.int (nI (5))]) (rest := [.long ((X2.1 (kq 0 6) 5) + z12)]) EE (v_F_widthOf (X := X2) (by omega) hV) w_F_67 rfl ⟨rfl, rfl⟩ ⟨Nat.le_of_ble_eq_true rfl, Nat.le_of_ble_eq_true rfl⟩ ⟨Nat.zero_le _, Nat.zero_le _⟩ hl.1 rfl (Nat.le_of_ble_eq_true rfl) d_F_settle_42) hS (fun H locs X_ eX_ hS hV => ?_)
  subst eX_
  refine sx_ti (y := nI 25) rfl ?_
  refine lv_lshr hx hb d_F_settle_45 rfl ?_
  refine vx_nmL (fun z14 ez14 => ?_)
  refine lv_lstore_n (lv' := [(2, .long z14), (4, .int (nI (5))), (0, .ref (kq 0 99)), (1, .ref a0)]) hx hb d_F_settle_46 rfl hl (by decide) rfl (fun ls hl => ?_)
  refine lv_iinc (v := nI (6)) (lv' := [(4, .int (nI (6))), (2, .long z14), (0, .ref (kq 0 99)), (1, .ref a0)]) hx hb d_F_settle_47 hl (k := 1) rfl (sx_inc _ _) (by decide) rfl (fun ls hl => ?_)
  refine lv_goto (tgt := 24) hx hb d_F_settle_50 (by decide) ?_
  refine lv_iload hx hb d_F_settle_24 (lv_at hl 0 rfl) ?_
  refine lv_bipush (v := nI 10) hx hb d_F_settle_26 (by decide +kernel) ?_
  refine lv_icmp_ge (tgt := 53) hx hb d_F_settle_28 (by decide) (fun q28_14 => absurd (show 10 ≤ 6 by have q28_14 : 10 ≤ 6 := (nI_leI (a := 10) (b := 6) (by omega) (by omega)).mp q28_14; exact q28_14) (by decide)) (fun _ => ?_)
  refine lv_aload_n hx hb d_F_settle_31 rfl (lv_at hl 2 rfl) ?_
  refine sx_get EE (hS.1.ob (kc_n0 hC) (kc_o0 hC)) rfl i_F 6 (by decide) rfl fl_F_30 rfl d_F_settle_32 ?_
  refine lv_iload hx hb d_F_settle_35 (lv_at hl 0 rfl) ?_
  refine vx_lald hx hb hG hS hV (kc_a0_6 hC) (by omega) (by decide) d_F_settle_37 ?_
  refine lv_lload_n hx hb d_F_settle_38 rfl (lv_at hl 1 rfl) ?_
  refine lv_ladd hx hb d_F_settle_39 ?_
  refine lv_iload hx hb d_F_settle_40 (lv_at hl 0 rfl) ?_
  refine vx_gi (sx_runS (As := [.int (nI (6))]) (rest := [.long ((X2.1 (kq 0 6) 6) + z14)]) EE (v_F_widthOf (X := X2) (by omega) hV) w_F_67 rfl ⟨rfl, rfl⟩ ⟨Nat.le_of_ble_eq_true rfl, Nat.le_of_ble_eq_true rfl⟩ ⟨Nat.zero_le _, Nat.zero_le _⟩ hl.1 rfl (Nat.le_of_ble_eq_true rfl) d_F_settle_42) hS (fun H locs X_ eX_ hS hV => ?_)
  subst eX_
  refine sx_ti (y := nI 26) rfl ?_
  refine lv_lshr hx hb d_F_settle_45 rfl ?_
  refine vx_nmL (fun z16 ez16 => ?_)
  refine lv_lstore_n (lv' := [(2, .long z16), (4, .int (nI (6))), (0, .ref (kq 0 99)), (1, .ref a0)]) hx hb d_F_settle_46 rfl hl (by decide) rfl (fun ls hl => ?_)
  refine lv_iinc (v := nI (7)) (lv' := [(4, .int (nI (7))), (2, .long z16), (0, .ref (kq 0 99)), (1, .ref a0)]) hx hb d_F_settle_47 hl (k := 1) rfl (sx_inc _ _) (by decide) rfl (fun ls hl => ?_)
  refine lv_goto (tgt := 24) hx hb d_F_settle_50 (by decide) ?_
  refine lv_iload hx hb d_F_settle_24 (lv_at hl 0 rfl) ?_
  refine lv_bipush (v := nI 10) hx hb d_F_settle_26 (by decide +kernel) ?_
  refine lv_icmp_ge (tgt := 53) hx hb d_F_settle_28 (by decide) (fun q28_16 => absurd (show 10 ≤ 7 by have q28_16 : 10 ≤ 7 := (nI_leI (a := 10) (b := 7) (by omega) (by omega)).mp q28_16; exact q28_16) (by decide)) (fun _ => ?_)
  refine lv_aload_n hx hb d_F_settle_31 rfl (lv_at hl 2 rfl) ?_
  refine sx_get EE (hS.1.ob (kc_n0 hC) (kc_o0 hC)) rfl i_F 6 (by decide) rfl fl_F_30 rfl d_F_settle_32 ?_
  refine lv_iload hx hb d_F_settle_35 (lv_at hl 0 rfl) ?_
  refine vx_lald hx hb hG hS hV (kc_a0_6 hC) (by omega) (by decide) d_F_settle_37 ?_
  refine lv_lload_n hx hb d_F_settle_38 rfl (lv_at hl 1 rfl) ?_
  refine lv_ladd hx hb d_F_settle_39 ?_
  refine lv_iload hx hb d_F_settle_40 (lv_at hl 0 rfl) ?_
  refine vx_gi (sx_runS (As := [.int (nI (7))]) (rest := [.long ((X2.1 (kq 0 6) 7) + z16)]) EE (v_F_widthOf (X := X2) (by omega) hV) w_F_67 rfl ⟨rfl, rfl⟩ ⟨Nat.le_of_ble_eq_true rfl, Nat.le_of_ble_eq_true rfl⟩ ⟨Nat.zero_le _, Nat.zero_le _⟩ hl.1 rfl (Nat.le_of_ble_eq_true rfl) d_F_settle_42) hS (fun H locs X_ eX_ hS hV => ?_)
  subst eX_
  refine sx_ti (y := nI 25) rfl ?_
  refine lv_lshr hx hb d_F_settle_45 rfl ?_
  refine vx_nmL (fun z18 ez18 => ?_)
  refine lv_lstore_n (lv' := [(2, .long z18), (4, .int (nI (7))), (0, .ref (kq 0 99)), (1, .ref a0)]) hx hb d_F_settle_46 rfl hl (by decide) rfl (fun ls hl => ?_)
  refine lv_iinc (v := nI (8)) (lv' := [(4, .int (nI (8))), (2, .long z18), (0, .ref (kq 0 99)), (1, .ref a0)]) hx hb d_F_settle_47 hl (k := 1) rfl (sx_inc _ _) (by decide) rfl (fun ls hl => ?_)
  refine lv_goto (tgt := 24) hx hb d_F_settle_50 (by decide) ?_
  refine lv_iload hx hb d_F_settle_24 (lv_at hl 0 rfl) ?_
  refine lv_bipush (v := nI 10) hx hb d_F_settle_26 (by decide +kernel) ?_
  refine lv_icmp_ge (tgt := 53) hx hb d_F_settle_28 (by decide) (fun q28_18 => absurd (show 10 ≤ 8 by have q28_18 : 10 ≤ 8 := (nI_leI (a := 10) (b := 8) (by omega) (by omega)).mp q28_18; exact q28_18) (by decide)) (fun _ => ?_)
  refine lv_aload_n hx hb d_F_settle_31 rfl (lv_at hl 2 rfl) ?_
  refine sx_get EE (hS.1.ob (kc_n0 hC) (kc_o0 hC)) rfl i_F 6 (by decide) rfl fl_F_30 rfl d_F_settle_32 ?_
  refine lv_iload hx hb d_F_settle_35 (lv_at hl 0 rfl) ?_
  refine vx_lald hx hb hG hS hV (kc_a0_6 hC) (by omega) (by decide) d_F_settle_37 ?_
  refine lv_lload_n hx hb d_F_settle_38 rfl (lv_at hl 1 rfl) ?_
  refine lv_ladd hx hb d_F_settle_39 ?_
  refine lv_iload hx hb d_F_settle_40 (lv_at hl 0 rfl) ?_
  refine vx_gi (sx_runS (As := [.int (nI (8))]) (rest := [.long ((X2.1 (kq 0 6) 8) + z18)]) EE (v_F_widthOf (X := X2) (by omega) hV) w_F_67 rfl ⟨rfl, rfl⟩ ⟨Nat.le_of_ble_eq_true rfl, Nat.le_of_ble_eq_true rfl⟩ ⟨Nat.zero_le _, Nat.zero_le _⟩ hl.1 rfl (Nat.le_of_ble_eq_true rfl) d_F_settle_42) hS (fun H locs X_ eX_ hS hV => ?_)
  subst eX_
  refine sx_ti (y := nI 26) rfl ?_
  refine lv_lshr hx hb d_F_settle_45 rfl ?_
  refine vx_nmL (fun z20 ez20 => ?_)
  refine lv_lstore_n (lv' := [(2, .long z20), (4, .int (nI (8))), (0, .ref (kq 0 99)), (1, .ref a0)]) hx hb d_F_settle_46 rfl hl (by decide) rfl (fun ls hl => ?_)
  refine lv_iinc (v := nI (9)) (lv' := [(4, .int (nI (9))), (2, .long z20), (0, .ref (kq 0 99)), (1, .ref a0)]) hx hb d_F_settle_47 hl (k := 1) rfl (sx_inc _ _) (by decide) rfl (fun ls hl => ?_)
  refine lv_goto (tgt := 24) hx hb d_F_settle_50 (by decide) ?_
  refine lv_iload hx hb d_F_settle_24 (lv_at hl 0 rfl) ?_
  refine lv_bipush (v := nI 10) hx hb d_F_settle_26 (by decide +kernel) ?_
  refine lv_icmp_ge (tgt := 53) hx hb d_F_settle_28 (by decide) (fun q28_20 => absurd (show 10 ≤ 9 by have q28_20 : 10 ≤ 9 := (nI_leI (a := 10) (b := 9) (by omega) (by omega)).mp q28_20; exact q28_20) (by decide)) (fun _ => ?_)
  refine lv_aload_n hx hb d_F_settle_31 rfl (lv_at hl 2 rfl) ?_
  refine sx_get EE (hS.1.ob (kc_n0 hC) (kc_o0 hC)) rfl i_F 6 (by decide) rfl fl_F_30 rfl d_F_settle_32 ?_
  refine lv_iload hx hb d_F_settle_35 (lv_at hl 0 rfl) ?_
  refine vx_lald hx hb hG hS hV (kc_a0_6 hC) (by omega) (by decide) d_F_settle_37 ?_
  refine lv_lload_n hx hb d_F_settle_38 rfl (lv_at hl 1 rfl) ?_
  refine lv_ladd hx hb d_F_settle_39 ?_
  refine lv_iload hx hb d_F_settle_40 (lv_at hl 0 rfl) ?_
  refine vx_gi (sx_runS (As := [.int (nI (9))]) (rest := [.long ((X2.1 (kq 0 6) 9) + z20)]) EE (v_F_widthOf (X := X2) (by omega) hV) w_F_67 rfl ⟨rfl, rfl⟩ ⟨Nat.le_of_ble_eq_true rfl, Nat.le_of_ble_eq_true rfl⟩ ⟨Nat.zero_le _, Nat.zero_le _⟩ hl.1 rfl (Nat.le_of_ble_eq_true rfl) d_F_settle_42) hS (fun H locs X_ eX_ hS hV => ?_)
  subst eX_
  refine sx_ti (y := nI 25) rfl ?_
  refine lv_lshr hx hb d_F_settle_45 rfl ?_
  refine vx_nmL (fun z22 ez22 => ?_)
  refine lv_lstore_n (lv' := [(2, .long z22), (4, .int (nI (9))), (0, .ref (kq 0 99)), (1, .ref a0)]) hx hb d_F_settle_46 rfl hl (by decide) rfl (fun ls hl => ?_)
  refine lv_iinc (v := nI (10)) (lv' := [(4, .int (nI (10))), (2, .long z22), (0, .ref (kq 0 99)), (1, .ref a0)]) hx hb d_F_settle_47 hl (k := 1) rfl (sx_inc _ _) (by decide) rfl (fun ls hl => ?_)
  refine lv_goto (tgt := 24) hx hb d_F_settle_50 (by decide) ?_
  refine lv_iload hx hb d_F_settle_24 (lv_at hl 0 rfl) ?_
  refine lv_bipush (v := nI 10) hx hb d_F_settle_26 (by decide +kernel) ?_
  refine lv_icmp_ge (tgt := 53) hx hb d_F_settle_28 (by decide) (fun _ => ?_) (fun q28_22 => absurd (show 10 ≤ 10 by decide) (by have q28_22 : ¬ (10 ≤ 10) := fun z => q28_22 ((nI_leI (a := 10) (b := 10) (by omega) (by omega)).mpr z); exact q28_22))
  refine lv_ldc2 (v := (19)) hx hb hown (hts (.constantLong R_F 51 (19)) (by decide +kernel)) d_F_settle_53 ?_
  refine lv_lload_n hx hb d_F_settle_56 rfl (lv_at hl 1 rfl) ?_
  refine lv_lmul hx hb d_F_settle_57 ?_
  refine vx_nmL (fun z24 ez24 => ?_)
  refine lv_lstore (lv' := [(4, .long z24), (2, .long z22), (0, .ref (kq 0 99)), (1, .ref a0)]) hx hb d_F_settle_58 hl (by decide) rfl (fun ls hl => ?_)
  refine lv_iconst (v := nI 0) hx hb d_F_settle_60 (by decide +kernel) ?_
  refine lv_istore (lv' := [(6, .int (nI (0))), (4, .long z24), (2, .long z22), (0, .ref (kq 0 99)), (1, .ref a0)]) hx hb d_F_settle_61 hl (by decide) rfl (fun ls hl => ?_)
  refine lv_iload hx hb d_F_settle_63 (lv_at hl 0 rfl) ?_
  refine lv_bipush (v := nI 10) hx hb d_F_settle_65 (by decide +kernel) ?_
  refine lv_icmp_ge (tgt := 116) hx hb d_F_settle_67 (by decide) (fun q67_24 => absurd (show 10 ≤ 0 by have q67_24 : 10 ≤ 0 := (nI_leI (a := 10) (b := 0) (by omega) (by omega)).mp q67_24; exact q67_24) (by decide)) (fun _ => ?_)
  refine lv_aload_n hx hb d_F_settle_70 rfl (lv_at hl 3 rfl) ?_
  refine sx_get EE (hS.1.ob (kc_n0 hC) (kc_o0 hC)) rfl i_F 6 (by decide) rfl fl_F_30 rfl d_F_settle_71 ?_
  refine lv_iload hx hb d_F_settle_74 (lv_at hl 0 rfl) ?_
  refine vx_lald hx hb hG hS hV (kc_a0_6 hC) (by omega) (by decide) d_F_settle_76 ?_
  refine lv_lload hx hb d_F_settle_77 (lv_at hl 1 rfl) ?_
  refine lv_ladd hx hb d_F_settle_79 ?_
  refine vx_nmL (fun z26 ez26 => ?_)
  refine lv_lstore (lv' := [(7, .long z26), (6, .int (nI (0))), (4, .long z24), (2, .long z22), (0, .ref (kq 0 99)), (1, .ref a0)]) hx hb d_F_settle_80 hl (by decide) rfl (fun ls hl => ?_)
  refine lv_lload hx hb d_F_settle_82 (lv_at hl 0 rfl) ?_
  refine lv_iload hx hb d_F_settle_84 (lv_at hl 1 rfl) ?_
  refine vx_gi (sx_runS (As := [.int (nI (0))]) (rest := [.long z26]) EE (v_F_widthOf (X := X2) (by omega) hV) w_F_67 rfl ⟨rfl, rfl⟩ ⟨Nat.le_of_ble_eq_true rfl, Nat.le_of_ble_eq_true rfl⟩ ⟨Nat.zero_le _, Nat.zero_le _⟩ hl.1 rfl (Nat.le_of_ble_eq_true rfl) d_F_settle_86) hS (fun H locs X_ eX_ hS hV => ?_)
  subst eX_
  refine sx_ti (y := nI 26) rfl ?_
  refine lv_lshr hx hb d_F_settle_89 rfl ?_
  refine vx_nmL (fun z27 ez27 => ?_)
  refine lv_lstore (lv' := [(4, .long z27), (7, .long z26), (6, .int (nI (0))), (2, .long z22), (0, .ref (kq 0 99)), (1, .ref a0)]) hx hb d_F_settle_90 hl (by decide) rfl (fun ls hl => ?_)
  refine lv_aload_n hx hb d_F_settle_92 rfl (lv_at hl 4 rfl) ?_
  refine sx_get EE (hS.1.ob (kc_n0 hC) (kc_o0 hC)) rfl i_F 6 (by decide) rfl fl_F_30 rfl d_F_settle_93 ?_
  refine lv_iload hx hb d_F_settle_96 (lv_at hl 2 rfl) ?_
  refine lv_lload hx hb d_F_settle_98 (lv_at hl 1 rfl) ?_
  refine lv_lload hx hb d_F_settle_100 (lv_at hl 0 rfl) ?_
  refine lv_iload hx hb d_F_settle_102 (lv_at hl 2 rfl) ?_
  refine vx_gi (sx_runS (As := [.int (nI (0))]) (rest := [.long z27, .long z26, .int (nI (0)), .ref (kq 0 6)]) EE (v_F_widthOf (X := X2) (by omega) hV) w_F_67 rfl ⟨rfl, rfl⟩ ⟨Nat.le_of_ble_eq_true rfl, Nat.le_of_ble_eq_true rfl⟩ ⟨Nat.zero_le _, Nat.zero_le _⟩ hl.1 rfl (Nat.le_of_ble_eq_true rfl) d_F_settle_104) hS (fun H locs X_ eX_ hS hV => ?_)
  subst eX_
  refine sx_ti (y := nI 26) rfl ?_
  refine lv_lshl hx hb d_F_settle_107 rfl ?_
  refine lv_lsub hx hb d_F_settle_108 ?_
  refine vx_last hx hb hG hS hV (kc_a0_6 hC) (kc_e0_6 hC) (by omega) (by decide) d_F_settle_109 (fun H locs X28 eX28 hS hV => ?_)
  refine lv_iinc (v := nI (1)) (lv' := [(6, .int (nI (1))), (4, .long z27), (7, .long z26), (2, .long z22), (0, .ref (kq 0 99)), (1, .ref a0)]) hx hb d_F_settle_110 hl (k := 2) rfl (sx_inc _ _) (by decide) rfl (fun ls hl => ?_)
  refine lv_goto (tgt := 63) hx hb d_F_settle_113 (by decide) ?_
  refine lv_iload hx hb d_F_settle_63 (lv_at hl 0 rfl) ?_
  refine lv_bipush (v := nI 10) hx hb d_F_settle_65 (by decide +kernel) ?_
  refine lv_icmp_ge (tgt := 116) hx hb d_F_settle_67 (by decide) (fun q67_28 => absurd (show 10 ≤ 1 by have q67_28 : 10 ≤ 1 := (nI_leI (a := 10) (b := 1) (by omega) (by omega)).mp q67_28; exact q67_28) (by decide)) (fun _ => ?_)
  refine lv_aload_n hx hb d_F_settle_70 rfl (lv_at hl 4 rfl) ?_
  refine sx_get EE (hS.1.ob (kc_n0 hC) (kc_o0 hC)) rfl i_F 6 (by decide) rfl fl_F_30 rfl d_F_settle_71 ?_
  refine lv_iload hx hb d_F_settle_74 (lv_at hl 0 rfl) ?_
  refine vx_lald hx hb hG hS hV (kc_a0_6 hC) (by omega) (by decide) d_F_settle_76 ?_
  refine lv_lload hx hb d_F_settle_77 (lv_at hl 1 rfl) ?_
  refine lv_ladd hx hb d_F_settle_79 ?_
  refine vx_nmL (fun z30 ez30 => ?_)
  refine lv_lstore (lv' := [(7, .long z30), (6, .int (nI (1))), (4, .long z27), (2, .long z22), (0, .ref (kq 0 99)), (1, .ref a0)]) hx hb d_F_settle_80 hl (by decide) rfl (fun ls hl => ?_)
  refine lv_lload hx hb d_F_settle_82 (lv_at hl 0 rfl) ?_
  refine lv_iload hx hb d_F_settle_84 (lv_at hl 1 rfl) ?_
  refine vx_gi (sx_runS (As := [.int (nI (1))]) (rest := [.long z30]) EE (v_F_widthOf (X := X28) (by omega) hV) w_F_67 rfl ⟨rfl, rfl⟩ ⟨Nat.le_of_ble_eq_true rfl, Nat.le_of_ble_eq_true rfl⟩ ⟨Nat.zero_le _, Nat.zero_le _⟩ hl.1 rfl (Nat.le_of_ble_eq_true rfl) d_F_settle_86) hS (fun H locs X_ eX_ hS hV => ?_)
  subst eX_
  refine sx_ti (y := nI 25) rfl ?_
  refine lv_lshr hx hb d_F_settle_89 rfl ?_
  refine vx_nmL (fun z31 ez31 => ?_)
  refine lv_lstore (lv' := [(4, .long z31), (7, .long z30), (6, .int (nI (1))), (2, .long z22), (0, .ref (kq 0 99)), (1, .ref a0)]) hx hb d_F_settle_90 hl (by decide) rfl (fun ls hl => ?_)
  refine lv_aload_n hx hb d_F_settle_92 rfl (lv_at hl 4 rfl) ?_
  refine sx_get EE (hS.1.ob (kc_n0 hC) (kc_o0 hC)) rfl i_F 6 (by decide) rfl fl_F_30 rfl d_F_settle_93 ?_
  refine lv_iload hx hb d_F_settle_96 (lv_at hl 2 rfl) ?_
  refine lv_lload hx hb d_F_settle_98 (lv_at hl 1 rfl) ?_
  refine lv_lload hx hb d_F_settle_100 (lv_at hl 0 rfl) ?_
  refine lv_iload hx hb d_F_settle_102 (lv_at hl 2 rfl) ?_
  refine vx_gi (sx_runS (As := [.int (nI (1))]) (rest := [.long z31, .long z30, .int (nI (1)), .ref (kq 0 6)]) EE (v_F_widthOf (X := X28) (by omega) hV) w_F_67 rfl ⟨rfl, rfl⟩ ⟨Nat.le_of_ble_eq_true rfl, Nat.le_of_ble_eq_true rfl⟩ ⟨Nat.zero_le _, Nat.zero_le _⟩ hl.1 rfl (Nat.le_of_ble_eq_true rfl) d_F_settle_104) hS (fun H locs X_ eX_ hS hV => ?_)
  subst eX_
  refine sx_ti (y := nI 25) rfl ?_
  refine lv_lshl hx hb d_F_settle_107 rfl ?_
  refine lv_lsub hx hb d_F_settle_108 ?_
  refine vx_last hx hb hG hS hV (kc_a0_6 hC) (kc_e0_6 hC) (by omega) (by decide) d_F_settle_109 (fun H locs X32 eX32 hS hV => ?_)
  refine lv_iinc (v := nI (2)) (lv' := [(6, .int (nI (2))), (4, .long z31), (7, .long z30), (2, .long z22), (0, .ref (kq 0 99)), (1, .ref a0)]) hx hb d_F_settle_110 hl (k := 2) rfl (sx_inc _ _) (by decide) rfl (fun ls hl => ?_)
  refine lv_goto (tgt := 63) hx hb d_F_settle_113 (by decide) ?_
  refine lv_iload hx hb d_F_settle_63 (lv_at hl 0 rfl) ?_
  refine lv_bipush (v := nI 10) hx hb d_F_settle_65 (by decide +kernel) ?_
  refine lv_icmp_ge (tgt := 116) hx hb d_F_settle_67 (by decide) (fun q67_32 => absurd (show 10 ≤ 2 by have q67_32 : 10 ≤ 2 := (nI_leI (a := 10) (b := 2) (by omega) (by omega)).mp q67_32; exact q67_32) (by decide)) (fun _ => ?_)
  refine lv_aload_n hx hb d_F_settle_70 rfl (lv_at hl 4 rfl) ?_
  refine sx_get EE (hS.1.ob (kc_n0 hC) (kc_o0 hC)) rfl i_F 6 (by decide) rfl fl_F_30 rfl d_F_settle_71 ?_
  refine lv_iload hx hb d_F_settle_74 (lv_at hl 0 rfl) ?_
  refine vx_lald hx hb hG hS hV (kc_a0_6 hC) (by omega) (by decide) d_F_settle_76 ?_
  refine lv_lload hx hb d_F_settle_77 (lv_at hl 1 rfl) ?_
  refine lv_ladd hx hb d_F_settle_79 ?_
  refine vx_nmL (fun z34 ez34 => ?_)
  refine lv_lstore (lv' := [(7, .long z34), (6, .int (nI (2))), (4, .long z31), (2, .long z22), (0, .ref (kq 0 99)), (1, .ref a0)]) hx hb d_F_settle_80 hl (by decide) rfl (fun ls hl => ?_)
  refine lv_lload hx hb d_F_settle_82 (lv_at hl 0 rfl) ?_
  refine lv_iload hx hb d_F_settle_84 (lv_at hl 1 rfl) ?_
  refine vx_gi (sx_runS (As := [.int (nI (2))]) (rest := [.long z34]) EE (v_F_widthOf (X := X32) (by omega) hV) w_F_67 rfl ⟨rfl, rfl⟩ ⟨Nat.le_of_ble_eq_true rfl, Nat.le_of_ble_eq_true rfl⟩ ⟨Nat.zero_le _, Nat.zero_le _⟩ hl.1 rfl (Nat.le_of_ble_eq_true rfl) d_F_settle_86) hS (fun H locs X_ eX_ hS hV => ?_)
  subst eX_
  refine sx_ti (y := nI 26) rfl ?_
  refine lv_lshr hx hb d_F_settle_89 rfl ?_
  refine vx_nmL (fun z35 ez35 => ?_)
  refine lv_lstore (lv' := [(4, .long z35), (7, .long z34), (6, .int (nI (2))), (2, .long z22), (0, .ref (kq 0 99)), (1, .ref a0)]) hx hb d_F_settle_90 hl (by decide) rfl (fun ls hl => ?_)
  refine lv_aload_n hx hb d_F_settle_92 rfl (lv_at hl 4 rfl) ?_
  refine sx_get EE (hS.1.ob (kc_n0 hC) (kc_o0 hC)) rfl i_F 6 (by decide) rfl fl_F_30 rfl d_F_settle_93 ?_
  refine lv_iload hx hb d_F_settle_96 (lv_at hl 2 rfl) ?_
  refine lv_lload hx hb d_F_settle_98 (lv_at hl 1 rfl) ?_
  refine lv_lload hx hb d_F_settle_100 (lv_at hl 0 rfl) ?_
  refine lv_iload hx hb d_F_settle_102 (lv_at hl 2 rfl) ?_
  refine vx_gi (sx_runS (As := [.int (nI (2))]) (rest := [.long z35, .long z34, .int (nI (2)), .ref (kq 0 6)]) EE (v_F_widthOf (X := X32) (by omega) hV) w_F_67 rfl ⟨rfl, rfl⟩ ⟨Nat.le_of_ble_eq_true rfl, Nat.le_of_ble_eq_true rfl⟩ ⟨Nat.zero_le _, Nat.zero_le _⟩ hl.1 rfl (Nat.le_of_ble_eq_true rfl) d_F_settle_104) hS (fun H locs X_ eX_ hS hV => ?_)
  subst eX_
  refine sx_ti (y := nI 26) rfl ?_
  refine lv_lshl hx hb d_F_settle_107 rfl ?_
  refine lv_lsub hx hb d_F_settle_108 ?_
  refine vx_last hx hb hG hS hV (kc_a0_6 hC) (kc_e0_6 hC) (by omega) (by decide) d_F_settle_109 (fun H locs X36 eX36 hS hV => ?_)
  refine lv_iinc (v := nI (3)) (lv' := [(6, .int (nI (3))), (4, .long z35), (7, .long z34), (2, .long z22), (0, .ref (kq 0 99)), (1, .ref a0)]) hx hb d_F_settle_110 hl (k := 2) rfl (sx_inc _ _) (by decide) rfl (fun ls hl => ?_)
  refine lv_goto (tgt := 63) hx hb d_F_settle_113 (by decide) ?_
  refine lv_iload hx hb d_F_settle_63 (lv_at hl 0 rfl) ?_
  refine lv_bipush (v := nI 10) hx hb d_F_settle_65 (by decide +kernel) ?_
  refine lv_icmp_ge (tgt := 116) hx hb d_F_settle_67 (by decide) (fun q67_36 => absurd (show 10 ≤ 3 by have q67_36 : 10 ≤ 3 := (nI_leI (a := 10) (b := 3) (by omega) (by omega)).mp q67_36; exact q67_36) (by decide)) (fun _ => ?_)
  refine lv_aload_n hx hb d_F_settle_70 rfl (lv_at hl 4 rfl) ?_
  refine sx_get EE (hS.1.ob (kc_n0 hC) (kc_o0 hC)) rfl i_F 6 (by decide) rfl fl_F_30 rfl d_F_settle_71 ?_
  refine lv_iload hx hb d_F_settle_74 (lv_at hl 0 rfl) ?_
  refine vx_lald hx hb hG hS hV (kc_a0_6 hC) (by omega) (by decide) d_F_settle_76 ?_
  refine lv_lload hx hb d_F_settle_77 (lv_at hl 1 rfl) ?_
  refine lv_ladd hx hb d_F_settle_79 ?_
  refine vx_nmL (fun z38 ez38 => ?_)
  refine lv_lstore (lv' := [(7, .long z38), (6, .int (nI (3))), (4, .long z35), (2, .long z22), (0, .ref (kq 0 99)), (1, .ref a0)]) hx hb d_F_settle_80 hl (by decide) rfl (fun ls hl => ?_)
  refine lv_lload hx hb d_F_settle_82 (lv_at hl 0 rfl) ?_
  refine lv_iload hx hb d_F_settle_84 (lv_at hl 1 rfl) ?_
  refine vx_gi (sx_runS (As := [.int (nI (3))]) (rest := [.long z38]) EE (v_F_widthOf (X := X36) (by omega) hV) w_F_67 rfl ⟨rfl, rfl⟩ ⟨Nat.le_of_ble_eq_true rfl, Nat.le_of_ble_eq_true rfl⟩ ⟨Nat.zero_le _, Nat.zero_le _⟩ hl.1 rfl (Nat.le_of_ble_eq_true rfl) d_F_settle_86) hS (fun H locs X_ eX_ hS hV => ?_)
  subst eX_
  refine sx_ti (y := nI 25) rfl ?_
  refine lv_lshr hx hb d_F_settle_89 rfl ?_
  refine vx_nmL (fun z39 ez39 => ?_)
  refine lv_lstore (lv' := [(4, .long z39), (7, .long z38), (6, .int (nI (3))), (2, .long z22), (0, .ref (kq 0 99)), (1, .ref a0)]) hx hb d_F_settle_90 hl (by decide) rfl (fun ls hl => ?_)
  refine lv_aload_n hx hb d_F_settle_92 rfl (lv_at hl 4 rfl) ?_
  refine sx_get EE (hS.1.ob (kc_n0 hC) (kc_o0 hC)) rfl i_F 6 (by decide) rfl fl_F_30 rfl d_F_settle_93 ?_
  refine lv_iload hx hb d_F_settle_96 (lv_at hl 2 rfl) ?_
  refine lv_lload hx hb d_F_settle_98 (lv_at hl 1 rfl) ?_
  refine lv_lload hx hb d_F_settle_100 (lv_at hl 0 rfl) ?_
  refine lv_iload hx hb d_F_settle_102 (lv_at hl 2 rfl) ?_
  refine vx_gi (sx_runS (As := [.int (nI (3))]) (rest := [.long z39, .long z38, .int (nI (3)), .ref (kq 0 6)]) EE (v_F_widthOf (X := X36) (by omega) hV) w_F_67 rfl ⟨rfl, rfl⟩ ⟨Nat.le_of_ble_eq_true rfl, Nat.le_of_ble_eq_true rfl⟩ ⟨Nat.zero_le _, Nat.zero_le _⟩ hl.1 rfl (Nat.le_of_ble_eq_true rfl) d_F_settle_104) hS (fun H locs X_ eX_ hS hV => ?_)
  subst eX_
  refine sx_ti (y := nI 25) rfl ?_
  refine lv_lshl hx hb d_F_settle_107 rfl ?_
  refine lv_lsub hx hb d_F_settle_108 ?_
  refine vx_last hx hb hG hS hV (kc_a0_6 hC) (kc_e0_6 hC) (by omega) (by decide) d_F_settle_109 (fun H locs X40 eX40 hS hV => ?_)
  refine lv_iinc (v := nI (4)) (lv' := [(6, .int (nI (4))), (4, .long z39), (7, .long z38), (2, .long z22), (0, .ref (kq 0 99)), (1, .ref a0)]) hx hb d_F_settle_110 hl (k := 2) rfl (sx_inc _ _) (by decide) rfl (fun ls hl => ?_)
  refine lv_goto (tgt := 63) hx hb d_F_settle_113 (by decide) ?_
  refine lv_iload hx hb d_F_settle_63 (lv_at hl 0 rfl) ?_
  refine lv_bipush (v := nI 10) hx hb d_F_settle_65 (by decide +kernel) ?_
  refine lv_icmp_ge (tgt := 116) hx hb d_F_settle_67 (by decide) (fun q67_40 => absurd (show 10 ≤ 4 by have q67_40 : 10 ≤ 4 := (nI_leI (a := 10) (b := 4) (by omega) (by omega)).mp q67_40; exact q67_40) (by decide)) (fun _ => ?_)
  refine lv_aload_n hx hb d_F_settle_70 rfl (lv_at hl 4 rfl) ?_
  refine sx_get EE (hS.1.ob (kc_n0 hC) (kc_o0 hC)) rfl i_F 6 (by decide) rfl fl_F_30 rfl d_F_settle_71 ?_
  refine lv_iload hx hb d_F_settle_74 (lv_at hl 0 rfl) ?_
  refine vx_lald hx hb hG hS hV (kc_a0_6 hC) (by omega) (by decide) d_F_settle_76 ?_
  refine lv_lload hx hb d_F_settle_77 (lv_at hl 1 rfl) ?_
  refine lv_ladd hx hb d_F_settle_79 ?_
  refine vx_nmL (fun z42 ez42 => ?_)
  refine lv_lstore (lv' := [(7, .long z42), (6, .int (nI (4))), (4, .long z39), (2, .long z22), (0, .ref (kq 0 99)), (1, .ref a0)]) hx hb d_F_settle_80 hl (by decide) rfl (fun ls hl => ?_)
  refine lv_lload hx hb d_F_settle_82 (lv_at hl 0 rfl) ?_
  refine lv_iload hx hb d_F_settle_84 (lv_at hl 1 rfl) ?_
  refine vx_gi (sx_runS (As := [.int (nI (4))]) (rest := [.long z42]) EE (v_F_widthOf (X := X40) (by omega) hV) w_F_67 rfl ⟨rfl, rfl⟩ ⟨Nat.le_of_ble_eq_true rfl, Nat.le_of_ble_eq_true rfl⟩ ⟨Nat.zero_le _, Nat.zero_le _⟩ hl.1 rfl (Nat.le_of_ble_eq_true rfl) d_F_settle_86) hS (fun H locs X_ eX_ hS hV => ?_)
  subst eX_
  refine sx_ti (y := nI 26) rfl ?_
  refine lv_lshr hx hb d_F_settle_89 rfl ?_
  refine vx_nmL (fun z43 ez43 => ?_)
  refine lv_lstore (lv' := [(4, .long z43), (7, .long z42), (6, .int (nI (4))), (2, .long z22), (0, .ref (kq 0 99)), (1, .ref a0)]) hx hb d_F_settle_90 hl (by decide) rfl (fun ls hl => ?_)
  refine lv_aload_n hx hb d_F_settle_92 rfl (lv_at hl 4 rfl) ?_
  refine sx_get EE (hS.1.ob (kc_n0 hC) (kc_o0 hC)) rfl i_F 6 (by decide) rfl fl_F_30 rfl d_F_settle_93 ?_
  refine lv_iload hx hb d_F_settle_96 (lv_at hl 2 rfl) ?_
  refine lv_lload hx hb d_F_settle_98 (lv_at hl 1 rfl) ?_
  refine lv_lload hx hb d_F_settle_100 (lv_at hl 0 rfl) ?_
  refine lv_iload hx hb d_F_settle_102 (lv_at hl 2 rfl) ?_
  refine vx_gi (sx_runS (As := [.int (nI (4))]) (rest := [.long z43, .long z42, .int (nI (4)), .ref (kq 0 6)]) EE (v_F_widthOf (X := X40) (by omega) hV) w_F_67 rfl ⟨rfl, rfl⟩ ⟨Nat.le_of_ble_eq_true rfl, Nat.le_of_ble_eq_true rfl⟩ ⟨Nat.zero_le _, Nat.zero_le _⟩ hl.1 rfl (Nat.le_of_ble_eq_true rfl) d_F_settle_104) hS (fun H locs X_ eX_ hS hV => ?_)
  subst eX_
  refine sx_ti (y := nI 26) rfl ?_
  refine lv_lshl hx hb d_F_settle_107 rfl ?_
  refine lv_lsub hx hb d_F_settle_108 ?_
  refine vx_last hx hb hG hS hV (kc_a0_6 hC) (kc_e0_6 hC) (by omega) (by decide) d_F_settle_109 (fun H locs X44 eX44 hS hV => ?_)
  refine lv_iinc (v := nI (5)) (lv' := [(6, .int (nI (5))), (4, .long z43), (7, .long z42), (2, .long z22), (0, .ref (kq 0 99)), (1, .ref a0)]) hx hb d_F_settle_110 hl (k := 2) rfl (sx_inc _ _) (by decide) rfl (fun ls hl => ?_)
  refine lv_goto (tgt := 63) hx hb d_F_settle_113 (by decide) ?_
  refine lv_iload hx hb d_F_settle_63 (lv_at hl 0 rfl) ?_
  refine lv_bipush (v := nI 10) hx hb d_F_settle_65 (by decide +kernel) ?_
  refine lv_icmp_ge (tgt := 116) hx hb d_F_settle_67 (by decide) (fun q67_44 => absurd (show 10 ≤ 5 by have q67_44 : 10 ≤ 5 := (nI_leI (a := 10) (b := 5) (by omega) (by omega)).mp q67_44; exact q67_44) (by decide)) (fun _ => ?_)
  refine lv_aload_n hx hb d_F_settle_70 rfl (lv_at hl 4 rfl) ?_
  refine sx_get EE (hS.1.ob (kc_n0 hC) (kc_o0 hC)) rfl i_F 6 (by decide) rfl fl_F_30 rfl d_F_settle_71 ?_
  refine lv_iload hx hb d_F_settle_74 (lv_at hl 0 rfl) ?_
  refine vx_lald hx hb hG hS hV (kc_a0_6 hC) (by omega) (by decide) d_F_settle_76 ?_
  refine lv_lload hx hb d_F_settle_77 (lv_at hl 1 rfl) ?_
  refine lv_ladd hx hb d_F_settle_79 ?_
  refine vx_nmL (fun z46 ez46 => ?_)
  refine lv_lstore (lv' := [(7, .long z46), (6, .int (nI (5))), (4, .long z43), (2, .long z22), (0, .ref (kq 0 99)), (1, .ref a0)]) hx hb d_F_settle_80 hl (by decide) rfl (fun ls hl => ?_)
  refine lv_lload hx hb d_F_settle_82 (lv_at hl 0 rfl) ?_
  refine lv_iload hx hb d_F_settle_84 (lv_at hl 1 rfl) ?_
  refine vx_gi (sx_runS (As := [.int (nI (5))]) (rest := [.long z46]) EE (v_F_widthOf (X := X44) (by omega) hV) w_F_67 rfl ⟨rfl, rfl⟩ ⟨Nat.le_of_ble_eq_true rfl, Nat.le_of_ble_eq_true rfl⟩ ⟨Nat.zero_le _, Nat.zero_le _⟩ hl.1 rfl (Nat.le_of_ble_eq_true rfl) d_F_settle_86) hS (fun H locs X_ eX_ hS hV => ?_)
  subst eX_
  refine sx_ti (y := nI 25) rfl ?_
  refine lv_lshr hx hb d_F_settle_89 rfl ?_
  refine vx_nmL (fun z47 ez47 => ?_)
  refine lv_lstore (lv' := [(4, .long z47), (7, .long z46), (6, .int (nI (5))), (2, .long z22), (0, .ref (kq 0 99)), (1, .ref a0)]) hx hb d_F_settle_90 hl (by decide) rfl (fun ls hl => ?_)
  refine lv_aload_n hx hb d_F_settle_92 rfl (lv_at hl 4 rfl) ?_
  refine sx_get EE (hS.1.ob (kc_n0 hC) (kc_o0 hC)) rfl i_F 6 (by decide) rfl fl_F_30 rfl d_F_settle_93 ?_
  refine lv_iload hx hb d_F_settle_96 (lv_at hl 2 rfl) ?_
  refine lv_lload hx hb d_F_settle_98 (lv_at hl 1 rfl) ?_
  refine lv_lload hx hb d_F_settle_100 (lv_at hl 0 rfl) ?_
  refine lv_iload hx hb d_F_settle_102 (lv_at hl 2 rfl) ?_
  refine vx_gi (sx_runS (As := [.int (nI (5))]) (rest := [.long z47, .long z46, .int (nI (5)), .ref (kq 0 6)]) EE (v_F_widthOf (X := X44) (by omega) hV) w_F_67 rfl ⟨rfl, rfl⟩ ⟨Nat.le_of_ble_eq_true rfl, Nat.le_of_ble_eq_true rfl⟩ ⟨Nat.zero_le _, Nat.zero_le _⟩ hl.1 rfl (Nat.le_of_ble_eq_true rfl) d_F_settle_104) hS (fun H locs X_ eX_ hS hV => ?_)
  subst eX_
  refine sx_ti (y := nI 25) rfl ?_
  refine lv_lshl hx hb d_F_settle_107 rfl ?_
  refine lv_lsub hx hb d_F_settle_108 ?_
  refine vx_last hx hb hG hS hV (kc_a0_6 hC) (kc_e0_6 hC) (by omega) (by decide) d_F_settle_109 (fun H locs X48 eX48 hS hV => ?_)
  refine lv_iinc (v := nI (6)) (lv' := [(6, .int (nI (6))), (4, .long z47), (7, .long z46), (2, .long z22), (0, .ref (kq 0 99)), (1, .ref a0)]) hx hb d_F_settle_110 hl (k := 2) rfl (sx_inc _ _) (by decide) rfl (fun ls hl => ?_)
  refine lv_goto (tgt := 63) hx hb d_F_settle_113 (by decide) ?_
  refine lv_iload hx hb d_F_settle_63 (lv_at hl 0 rfl) ?_
  refine lv_bipush (v := nI 10) hx hb d_F_settle_65 (by decide +kernel) ?_
  refine lv_icmp_ge (tgt := 116) hx hb d_F_settle_67 (by decide) (fun q67_48 => absurd (show 10 ≤ 6 by have q67_48 : 10 ≤ 6 := (nI_leI (a := 10) (b := 6) (by omega) (by omega)).mp q67_48; exact q67_48) (by decide)) (fun _ => ?_)
  refine lv_aload_n hx hb d_F_settle_70 rfl (lv_at hl 4 rfl) ?_
  refine sx_get EE (hS.1.ob (kc_n0 hC) (kc_o0 hC)) rfl i_F 6 (by decide) rfl fl_F_30 rfl d_F_settle_71 ?_
  refine lv_iload hx hb d_F_settle_74 (lv_at hl 0 rfl) ?_
  refine vx_lald hx hb hG hS hV (kc_a0_6 hC) (by omega) (by decide) d_F_settle_76 ?_
  refine lv_lload hx hb d_F_settle_77 (lv_at hl 1 rfl) ?_
  refine lv_ladd hx hb d_F_settle_79 ?_
  refine vx_nmL (fun z50 ez50 => ?_)
  refine lv_lstore (lv' := [(7, .long z50), (6, .int (nI (6))), (4, .long z47), (2, .long z22), (0, .ref (kq 0 99)), (1, .ref a0)]) hx hb d_F_settle_80 hl (by decide) rfl (fun ls hl => ?_)
  refine lv_lload hx hb d_F_settle_82 (lv_at hl 0 rfl) ?_
  refine lv_iload hx hb d_F_settle_84 (lv_at hl 1 rfl) ?_
  refine vx_gi (sx_runS (As := [.int (nI (6))]) (rest := [.long z50]) EE (v_F_widthOf (X := X48) (by omega) hV) w_F_67 rfl ⟨rfl, rfl⟩ ⟨Nat.le_of_ble_eq_true rfl, Nat.le_of_ble_eq_true rfl⟩ ⟨Nat.zero_le _, Nat.zero_le _⟩ hl.1 rfl (Nat.le_of_ble_eq_true rfl) d_F_settle_86) hS (fun H locs X_ eX_ hS hV => ?_)
  subst eX_
  refine sx_ti (y := nI 26) rfl ?_
  refine lv_lshr hx hb d_F_settle_89 rfl ?_
  refine vx_nmL (fun z51 ez51 => ?_)
  refine lv_lstore (lv' := [(4, .long z51), (7, .long z50), (6, .int (nI (6))), (2, .long z22), (0, .ref (kq 0 99)), (1, .ref a0)]) hx hb d_F_settle_90 hl (by decide) rfl (fun ls hl => ?_)
  refine lv_aload_n hx hb d_F_settle_92 rfl (lv_at hl 4 rfl) ?_
  refine sx_get EE (hS.1.ob (kc_n0 hC) (kc_o0 hC)) rfl i_F 6 (by decide) rfl fl_F_30 rfl d_F_settle_93 ?_
  refine lv_iload hx hb d_F_settle_96 (lv_at hl 2 rfl) ?_
  refine lv_lload hx hb d_F_settle_98 (lv_at hl 1 rfl) ?_
  refine lv_lload hx hb d_F_settle_100 (lv_at hl 0 rfl) ?_
  refine lv_iload hx hb d_F_settle_102 (lv_at hl 2 rfl) ?_
  refine vx_gi (sx_runS (As := [.int (nI (6))]) (rest := [.long z51, .long z50, .int (nI (6)), .ref (kq 0 6)]) EE (v_F_widthOf (X := X48) (by omega) hV) w_F_67 rfl ⟨rfl, rfl⟩ ⟨Nat.le_of_ble_eq_true rfl, Nat.le_of_ble_eq_true rfl⟩ ⟨Nat.zero_le _, Nat.zero_le _⟩ hl.1 rfl (Nat.le_of_ble_eq_true rfl) d_F_settle_104) hS (fun H locs X_ eX_ hS hV => ?_)
  subst eX_
  refine sx_ti (y := nI 26) rfl ?_
  refine lv_lshl hx hb d_F_settle_107 rfl ?_
  refine lv_lsub hx hb d_F_settle_108 ?_
  refine vx_last hx hb hG hS hV (kc_a0_6 hC) (kc_e0_6 hC) (by omega) (by decide) d_F_settle_109 (fun H locs X52 eX52 hS hV => ?_)
  refine lv_iinc (v := nI (7)) (lv' := [(6, .int (nI (7))), (4, .long z51), (7, .long z50), (2, .long z22), (0, .ref (kq 0 99)), (1, .ref a0)]) hx hb d_F_settle_110 hl (k := 2) rfl (sx_inc _ _) (by decide) rfl (fun ls hl => ?_)
  refine lv_goto (tgt := 63) hx hb d_F_settle_113 (by decide) ?_
  refine lv_iload hx hb d_F_settle_63 (lv_at hl 0 rfl) ?_
  refine lv_bipush (v := nI 10) hx hb d_F_settle_65 (by decide +kernel) ?_
  refine lv_icmp_ge (tgt := 116) hx hb d_F_settle_67 (by decide) (fun q67_52 => absurd (show 10 ≤ 7 by have q67_52 : 10 ≤ 7 := (nI_leI (a := 10) (b := 7) (by omega) (by omega)).mp q67_52; exact q67_52) (by decide)) (fun _ => ?_)
  refine lv_aload_n hx hb d_F_settle_70 rfl (lv_at hl 4 rfl) ?_
  refine sx_get EE (hS.1.ob (kc_n0 hC) (kc_o0 hC)) rfl i_F 6 (by decide) rfl fl_F_30 rfl d_F_settle_71 ?_
  refine lv_iload hx hb d_F_settle_74 (lv_at hl 0 rfl) ?_
  refine vx_lald hx hb hG hS hV (kc_a0_6 hC) (by omega) (by decide) d_F_settle_76 ?_
  refine lv_lload hx hb d_F_settle_77 (lv_at hl 1 rfl) ?_
  refine lv_ladd hx hb d_F_settle_79 ?_
  refine vx_nmL (fun z54 ez54 => ?_)
  refine lv_lstore (lv' := [(7, .long z54), (6, .int (nI (7))), (4, .long z51), (2, .long z22), (0, .ref (kq 0 99)), (1, .ref a0)]) hx hb d_F_settle_80 hl (by decide) rfl (fun ls hl => ?_)
  refine lv_lload hx hb d_F_settle_82 (lv_at hl 0 rfl) ?_
  refine lv_iload hx hb d_F_settle_84 (lv_at hl 1 rfl) ?_
  refine vx_gi (sx_runS (As := [.int (nI (7))]) (rest := [.long z54]) EE (v_F_widthOf (X := X52) (by omega) hV) w_F_67 rfl ⟨rfl, rfl⟩ ⟨Nat.le_of_ble_eq_true rfl, Nat.le_of_ble_eq_true rfl⟩ ⟨Nat.zero_le _, Nat.zero_le _⟩ hl.1 rfl (Nat.le_of_ble_eq_true rfl) d_F_settle_86) hS (fun H locs X_ eX_ hS hV => ?_)
  subst eX_
  refine sx_ti (y := nI 25) rfl ?_
  refine lv_lshr hx hb d_F_settle_89 rfl ?_
  refine vx_nmL (fun z55 ez55 => ?_)
  refine lv_lstore (lv' := [(4, .long z55), (7, .long z54), (6, .int (nI (7))), (2, .long z22), (0, .ref (kq 0 99)), (1, .ref a0)]) hx hb d_F_settle_90 hl (by decide) rfl (fun ls hl => ?_)
  refine lv_aload_n hx hb d_F_settle_92 rfl (lv_at hl 4 rfl) ?_
  refine sx_get EE (hS.1.ob (kc_n0 hC) (kc_o0 hC)) rfl i_F 6 (by decide) rfl fl_F_30 rfl d_F_settle_93 ?_
  refine lv_iload hx hb d_F_settle_96 (lv_at hl 2 rfl) ?_
  refine lv_lload hx hb d_F_settle_98 (lv_at hl 1 rfl) ?_
  refine lv_lload hx hb d_F_settle_100 (lv_at hl 0 rfl) ?_
  refine lv_iload hx hb d_F_settle_102 (lv_at hl 2 rfl) ?_
  refine vx_gi (sx_runS (As := [.int (nI (7))]) (rest := [.long z55, .long z54, .int (nI (7)), .ref (kq 0 6)]) EE (v_F_widthOf (X := X52) (by omega) hV) w_F_67 rfl ⟨rfl, rfl⟩ ⟨Nat.le_of_ble_eq_true rfl, Nat.le_of_ble_eq_true rfl⟩ ⟨Nat.zero_le _, Nat.zero_le _⟩ hl.1 rfl (Nat.le_of_ble_eq_true rfl) d_F_settle_104) hS (fun H locs X_ eX_ hS hV => ?_)
  subst eX_
  refine sx_ti (y := nI 25) rfl ?_
  refine lv_lshl hx hb d_F_settle_107 rfl ?_
  refine lv_lsub hx hb d_F_settle_108 ?_
  refine vx_last hx hb hG hS hV (kc_a0_6 hC) (kc_e0_6 hC) (by omega) (by decide) d_F_settle_109 (fun H locs X56 eX56 hS hV => ?_)
  refine lv_iinc (v := nI (8)) (lv' := [(6, .int (nI (8))), (4, .long z55), (7, .long z54), (2, .long z22), (0, .ref (kq 0 99)), (1, .ref a0)]) hx hb d_F_settle_110 hl (k := 2) rfl (sx_inc _ _) (by decide) rfl (fun ls hl => ?_)
  refine lv_goto (tgt := 63) hx hb d_F_settle_113 (by decide) ?_
  refine lv_iload hx hb d_F_settle_63 (lv_at hl 0 rfl) ?_
  refine lv_bipush (v := nI 10) hx hb d_F_settle_65 (by decide +kernel) ?_
  refine lv_icmp_ge (tgt := 116) hx hb d_F_settle_67 (by decide) (fun q67_56 => absurd (show 10 ≤ 8 by have q67_56 : 10 ≤ 8 := (nI_leI (a := 10) (b := 8) (by omega) (by omega)).mp q67_56; exact q67_56) (by decide)) (fun _ => ?_)
  refine lv_aload_n hx hb d_F_settle_70 rfl (lv_at hl 4 rfl) ?_
  refine sx_get EE (hS.1.ob (kc_n0 hC) (kc_o0 hC)) rfl i_F 6 (by decide) rfl fl_F_30 rfl d_F_settle_71 ?_
  refine lv_iload hx hb d_F_settle_74 (lv_at hl 0 rfl) ?_
  refine vx_lald hx hb hG hS hV (kc_a0_6 hC) (by omega) (by decide) d_F_settle_76 ?_
  refine lv_lload hx hb d_F_settle_77 (lv_at hl 1 rfl) ?_
  refine lv_ladd hx hb d_F_settle_79 ?_
  refine vx_nmL (fun z58 ez58 => ?_)
  refine lv_lstore (lv' := [(7, .long z58), (6, .int (nI (8))), (4, .long z55), (2, .long z22), (0, .ref (kq 0 99)), (1, .ref a0)]) hx hb d_F_settle_80 hl (by decide) rfl (fun ls hl => ?_)
  refine lv_lload hx hb d_F_settle_82 (lv_at hl 0 rfl) ?_
  refine lv_iload hx hb d_F_settle_84 (lv_at hl 1 rfl) ?_
  refine vx_gi (sx_runS (As := [.int (nI (8))]) (rest := [.long z58]) EE (v_F_widthOf (X := X56) (by omega) hV) w_F_67 rfl ⟨rfl, rfl⟩ ⟨Nat.le_of_ble_eq_true rfl, Nat.le_of_ble_eq_true rfl⟩ ⟨Nat.zero_le _, Nat.zero_le _⟩ hl.1 rfl (Nat.le_of_ble_eq_true rfl) d_F_settle_86) hS (fun H locs X_ eX_ hS hV => ?_)
  subst eX_
  refine sx_ti (y := nI 26) rfl ?_
  refine lv_lshr hx hb d_F_settle_89 rfl ?_
  refine vx_nmL (fun z59 ez59 => ?_)
  refine lv_lstore (lv' := [(4, .long z59), (7, .long z58), (6, .int (nI (8))), (2, .long z22), (0, .ref (kq 0 99)), (1, .ref a0)]) hx hb d_F_settle_90 hl (by decide) rfl (fun ls hl => ?_)
  refine lv_aload_n hx hb d_F_settle_92 rfl (lv_at hl 4 rfl) ?_
  refine sx_get EE (hS.1.ob (kc_n0 hC) (kc_o0 hC)) rfl i_F 6 (by decide) rfl fl_F_30 rfl d_F_settle_93 ?_
  refine lv_iload hx hb d_F_settle_96 (lv_at hl 2 rfl) ?_
  refine lv_lload hx hb d_F_settle_98 (lv_at hl 1 rfl) ?_
  refine lv_lload hx hb d_F_settle_100 (lv_at hl 0 rfl) ?_
  refine lv_iload hx hb d_F_settle_102 (lv_at hl 2 rfl) ?_
  refine vx_gi (sx_runS (As := [.int (nI (8))]) (rest := [.long z59, .long z58, .int (nI (8)), .ref (kq 0 6)]) EE (v_F_widthOf (X := X56) (by omega) hV) w_F_67 rfl ⟨rfl, rfl⟩ ⟨Nat.le_of_ble_eq_true rfl, Nat.le_of_ble_eq_true rfl⟩ ⟨Nat.zero_le _, Nat.zero_le _⟩ hl.1 rfl (Nat.le_of_ble_eq_true rfl) d_F_settle_104) hS (fun H locs X_ eX_ hS hV => ?_)
  subst eX_
  refine sx_ti (y := nI 26) rfl ?_
  refine lv_lshl hx hb d_F_settle_107 rfl ?_
  refine lv_lsub hx hb d_F_settle_108 ?_
  refine vx_last hx hb hG hS hV (kc_a0_6 hC) (kc_e0_6 hC) (by omega) (by decide) d_F_settle_109 (fun H locs X60 eX60 hS hV => ?_)
  refine lv_iinc (v := nI (9)) (lv' := [(6, .int (nI (9))), (4, .long z59), (7, .long z58), (2, .long z22), (0, .ref (kq 0 99)), (1, .ref a0)]) hx hb d_F_settle_110 hl (k := 2) rfl (sx_inc _ _) (by decide) rfl (fun ls hl => ?_)
  refine lv_goto (tgt := 63) hx hb d_F_settle_113 (by decide) ?_
  refine lv_iload hx hb d_F_settle_63 (lv_at hl 0 rfl) ?_
  refine lv_bipush (v := nI 10) hx hb d_F_settle_65 (by decide +kernel) ?_
  refine lv_icmp_ge (tgt := 116) hx hb d_F_settle_67 (by decide) (fun q67_60 => absurd (show 10 ≤ 9 by have q67_60 : 10 ≤ 9 := (nI_leI (a := 10) (b := 9) (by omega) (by omega)).mp q67_60; exact q67_60) (by decide)) (fun _ => ?_)
  refine lv_aload_n hx hb d_F_settle_70 rfl (lv_at hl 4 rfl) ?_
  refine sx_get EE (hS.1.ob (kc_n0 hC) (kc_o0 hC)) rfl i_F 6 (by decide) rfl fl_F_30 rfl d_F_settle_71 ?_
  refine lv_iload hx hb d_F_settle_74 (lv_at hl 0 rfl) ?_
  refine vx_lald hx hb hG hS hV (kc_a0_6 hC) (by omega) (by decide) d_F_settle_76 ?_
  refine lv_lload hx hb d_F_settle_77 (lv_at hl 1 rfl) ?_
  refine lv_ladd hx hb d_F_settle_79 ?_
  refine vx_nmL (fun z62 ez62 => ?_)
  refine lv_lstore (lv' := [(7, .long z62), (6, .int (nI (9))), (4, .long z59), (2, .long z22), (0, .ref (kq 0 99)), (1, .ref a0)]) hx hb d_F_settle_80 hl (by decide) rfl (fun ls hl => ?_)
  refine lv_lload hx hb d_F_settle_82 (lv_at hl 0 rfl) ?_
  refine lv_iload hx hb d_F_settle_84 (lv_at hl 1 rfl) ?_
  refine vx_gi (sx_runS (As := [.int (nI (9))]) (rest := [.long z62]) EE (v_F_widthOf (X := X60) (by omega) hV) w_F_67 rfl ⟨rfl, rfl⟩ ⟨Nat.le_of_ble_eq_true rfl, Nat.le_of_ble_eq_true rfl⟩ ⟨Nat.zero_le _, Nat.zero_le _⟩ hl.1 rfl (Nat.le_of_ble_eq_true rfl) d_F_settle_86) hS (fun H locs X_ eX_ hS hV => ?_)
  subst eX_
  refine sx_ti (y := nI 25) rfl ?_
  refine lv_lshr hx hb d_F_settle_89 rfl ?_
  refine vx_nmL (fun z63 ez63 => ?_)
  refine lv_lstore (lv' := [(4, .long z63), (7, .long z62), (6, .int (nI (9))), (2, .long z22), (0, .ref (kq 0 99)), (1, .ref a0)]) hx hb d_F_settle_90 hl (by decide) rfl (fun ls hl => ?_)
  refine lv_aload_n hx hb d_F_settle_92 rfl (lv_at hl 4 rfl) ?_
  refine sx_get EE (hS.1.ob (kc_n0 hC) (kc_o0 hC)) rfl i_F 6 (by decide) rfl fl_F_30 rfl d_F_settle_93 ?_
  refine lv_iload hx hb d_F_settle_96 (lv_at hl 2 rfl) ?_
  refine lv_lload hx hb d_F_settle_98 (lv_at hl 1 rfl) ?_
  refine lv_lload hx hb d_F_settle_100 (lv_at hl 0 rfl) ?_
  refine lv_iload hx hb d_F_settle_102 (lv_at hl 2 rfl) ?_
  refine vx_gi (sx_runS (As := [.int (nI (9))]) (rest := [.long z63, .long z62, .int (nI (9)), .ref (kq 0 6)]) EE (v_F_widthOf (X := X60) (by omega) hV) w_F_67 rfl ⟨rfl, rfl⟩ ⟨Nat.le_of_ble_eq_true rfl, Nat.le_of_ble_eq_true rfl⟩ ⟨Nat.zero_le _, Nat.zero_le _⟩ hl.1 rfl (Nat.le_of_ble_eq_true rfl) d_F_settle_104) hS (fun H locs X_ eX_ hS hV => ?_)
  subst eX_
  refine sx_ti (y := nI 25) rfl ?_
  refine lv_lshl hx hb d_F_settle_107 rfl ?_
  refine lv_lsub hx hb d_F_settle_108 ?_
  refine vx_last hx hb hG hS hV (kc_a0_6 hC) (kc_e0_6 hC) (by omega) (by decide) d_F_settle_109 (fun H locs X64 eX64 hS hV => ?_)
  refine lv_iinc (v := nI (10)) (lv' := [(6, .int (nI (10))), (4, .long z63), (7, .long z62), (2, .long z22), (0, .ref (kq 0 99)), (1, .ref a0)]) hx hb d_F_settle_110 hl (k := 2) rfl (sx_inc _ _) (by decide) rfl (fun ls hl => ?_)
  refine lv_goto (tgt := 63) hx hb d_F_settle_113 (by decide) ?_
  refine lv_iload hx hb d_F_settle_63 (lv_at hl 0 rfl) ?_
  refine lv_bipush (v := nI 10) hx hb d_F_settle_65 (by decide +kernel) ?_
  refine lv_icmp_ge (tgt := 116) hx hb d_F_settle_67 (by decide) (fun _ => ?_) (fun q67_64 => absurd (show 10 ≤ 10 by decide) (by have q67_64 : ¬ (10 ≤ 10) := fun z => q67_64 ((nI_leI (a := 10) (b := 10) (by omega) (by omega)).mpr z); exact q67_64))
  exact hret _ _ _ _ _ (by subst eX1 eX2 ez4 ez6 ez8 ez10 ez12 ez14 ez16 ez18 ez20 ez22 ez24 ez26 ez27 eX28 ez30 ez31 eX32 ez34 ez35 eX36 ez38 ez39 eX40 ez42 ez43 eX44 ez46 ez47 eX48 ez50 ez51 eX52 ez54 ez55 eX56 ez58 ez59 eX60 ez62 ez63 eX64; exact rfl) hS hV d_F_settle_116
def LF_F_write (X : vM) (kq : Nat → Nat → Nat) (ts : Nat → Nat) (a0 : Nat) (a1 : Nat) : vM := (let X1 : vM := (LF_F_settle X kq ts a1); let z3 : Int64 := ((0 : Int64) ||| ((X1.1 (kq 0 6) 0) <<< ((nI 0).toInt64 &&& 63))); let X5 : vM := stI X1 a0 0 (z3.toInt32.toInt8.toInt32.toInt8.toInt32); let z6 : Int64 := (z3 >>> ((nI 8).toInt64 &&& 63)); let X8 : vM := stI X5 a0 1 (z6.toInt32.toInt8.toInt32.toInt8.toInt32); let z9 : Int64 := (z6 >>> ((nI 8).toInt64 &&& 63)); let X11 : vM := stI X8 a0 2 (z9.toInt32.toInt8.toInt32.toInt8.toInt32); let z12 : Int64 := (z9 >>> ((nI 8).toInt64 &&& 63)); let z15 : Int64 := (z12 ||| ((X11.1 (kq 0 6) 1) <<< ((nI 2).toInt64 &&& 63))); let X17 : vM := stI X11 a0 3 (z15.toInt32.toInt8.toInt32.toInt8.toInt32); let z18 : Int64 := (z15 >>> ((nI 8).toInt64 &&& 63)); let X20 : vM := stI X17 a0 4 (z18.toInt32.toInt8.toInt32.toInt8.toInt32); let z21 : Int64 := (z18 >>> ((nI 8).toInt64 &&& 63)); let X23 : vM := stI X20 a0 5 (z21.toInt32.toInt8.toInt32.toInt8.toInt32); let z24 : Int64 := (z21 >>> ((nI 8).toInt64 &&& 63)); let z27 : Int64 := (z24 ||| ((X23.1 (kq 0 6) 2) <<< ((nI 3).toInt64 &&& 63))); let X29 : vM := stI X23 a0 6 (z27.toInt32.toInt8.toInt32.toInt8.toInt32); let z30 : Int64 := (z27 >>> ((nI 8).toInt64 &&& 63)); let X32 : vM := stI X29 a0 7 (z30.toInt32.toInt8.toInt32.toInt8.toInt32); let z33 : Int64 := (z30 >>> ((nI 8).toInt64 &&& 63)); let X35 : vM := stI X32 a0 8 (z33.toInt32.toInt8.toInt32.toInt8.toInt32); let z36 : Int64 := (z33 >>> ((nI 8).toInt64 &&& 63)); let z39 : Int64 := (z36 ||| ((X35.1 (kq 0 6) 3) <<< ((nI 5).toInt64 &&& 63))); let X41 : vM := stI X35 a0 9 (z39.toInt32.toInt8.toInt32.toInt8.toInt32); let z42 : Int64 := (z39 >>> ((nI 8).toInt64 &&& 63)); let X44 : vM := stI X41 a0 10 (z42.toInt32.toInt8.toInt32.toInt8.toInt32); let z45 : Int64 := (z42 >>> ((nI 8).toInt64 &&& 63)); let X47 : vM := stI X44 a0 11 (z45.toInt32.toInt8.toInt32.toInt8.toInt32); let z48 : Int64 := (z45 >>> ((nI 8).toInt64 &&& 63)); let z51 : Int64 := (z48 ||| ((X47.1 (kq 0 6) 4) <<< ((nI 6).toInt64 &&& 63))); let X53 : vM := stI X47 a0 12 (z51.toInt32.toInt8.toInt32.toInt8.toInt32); let z54 : Int64 := (z51 >>> ((nI 8).toInt64 &&& 63)); let X56 : vM := stI X53 a0 13 (z54.toInt32.toInt8.toInt32.toInt8.toInt32); let z57 : Int64 := (z54 >>> ((nI 8).toInt64 &&& 63)); let X59 : vM := stI X56 a0 14 (z57.toInt32.toInt8.toInt32.toInt8.toInt32); let z60 : Int64 := (z57 >>> ((nI 8).toInt64 &&& 63)); let X62 : vM := stI X59 a0 15 (z60.toInt32.toInt8.toInt32.toInt8.toInt32); let z63 : Int64 := (z60 >>> ((nI 8).toInt64 &&& 63)); let z66 : Int64 := (z63 ||| ((X62.1 (kq 0 6) 5) <<< ((nI 0).toInt64 &&& 63))); let X68 : vM := stI X62 a0 16 (z66.toInt32.toInt8.toInt32.toInt8.toInt32); let z69 : Int64 := (z66 >>> ((nI 8).toInt64 &&& 63)); let X71 : vM := stI X68 a0 17 (z69.toInt32.toInt8.toInt32.toInt8.toInt32); let z72 : Int64 := (z69 >>> ((nI 8).toInt64 &&& 63)); let X74 : vM := stI X71 a0 18 (z72.toInt32.toInt8.toInt32.toInt8.toInt32); let z75 : Int64 := (z72 >>> ((nI 8).toInt64 &&& 63)); let z78 : Int64 := (z75 ||| ((X74.1 (kq 0 6) 6) <<< ((nI 1).toInt64 &&& 63))); let X80 : vM := stI X74 a0 19 (z78.toInt32.toInt8.toInt32.toInt8.toInt32); let z81 : Int64 := (z78 >>> ((nI 8).toInt64 &&& 63)); let X83 : vM := stI X80 a0 20 (z81.toInt32.toInt8.toInt32.toInt8.toInt32); let z84 : Int64 := (z81 >>> ((nI 8).toInt64 &&& 63)); let X86 : vM := stI X83 a0 21 (z84.toInt32.toInt8.toInt32.toInt8.toInt32); let z87 : Int64 := (z84 >>> ((nI 8).toInt64 &&& 63)); let z90 : Int64 := (z87 ||| ((X86.1 (kq 0 6) 7) <<< ((nI 3).toInt64 &&& 63))); let X92 : vM := stI X86 a0 22 (z90.toInt32.toInt8.toInt32.toInt8.toInt32); let z93 : Int64 := (z90 >>> ((nI 8).toInt64 &&& 63)); let X95 : vM := stI X92 a0 23 (z93.toInt32.toInt8.toInt32.toInt8.toInt32); let z96 : Int64 := (z93 >>> ((nI 8).toInt64 &&& 63)); let X98 : vM := stI X95 a0 24 (z96.toInt32.toInt8.toInt32.toInt8.toInt32); let z99 : Int64 := (z96 >>> ((nI 8).toInt64 &&& 63)); let z102 : Int64 := (z99 ||| ((X98.1 (kq 0 6) 8) <<< ((nI 4).toInt64 &&& 63))); let X104 : vM := stI X98 a0 25 (z102.toInt32.toInt8.toInt32.toInt8.toInt32); let z105 : Int64 := (z102 >>> ((nI 8).toInt64 &&& 63)); let X107 : vM := stI X104 a0 26 (z105.toInt32.toInt8.toInt32.toInt8.toInt32); let z108 : Int64 := (z105 >>> ((nI 8).toInt64 &&& 63)); let X110 : vM := stI X107 a0 27 (z108.toInt32.toInt8.toInt32.toInt8.toInt32); let z111 : Int64 := (z108 >>> ((nI 8).toInt64 &&& 63)); let z114 : Int64 := (z111 ||| ((X110.1 (kq 0 6) 9) <<< ((nI 6).toInt64 &&& 63))); let X116 : vM := stI X110 a0 28 (z114.toInt32.toInt8.toInt32.toInt8.toInt32); let z117 : Int64 := (z114 >>> ((nI 8).toInt64 &&& 63)); let X119 : vM := stI X116 a0 29 (z117.toInt32.toInt8.toInt32.toInt8.toInt32); let z120 : Int64 := (z117 >>> ((nI 8).toInt64 &&& 63)); let X122 : vM := stI X119 a0 30 (z120.toInt32.toInt8.toInt32.toInt8.toInt32); let z123 : Int64 := (z120 >>> ((nI 8).toInt64 &&& 63)); let X126 : vM := stI X122 a0 31 (z123.toInt32.toInt8.toInt32.toInt8.toInt32); X126)
abbrev rm_F_write : Room := { frames := 2, cells := 0, slots := 0, locals := 128 }
set_option maxHeartbeats 4000000 in
set_option maxRecDepth 100000 in
theorem v_F_write {l : Launch} {D : va_G} {g : ClassId → FieldType → Prop} {E : Nat → Prop} {H0 : Heap} {X : vM} {kq : Nat → Nat → Nat} {ts : Nat → Nat} {a0 : Nat} {a1 : Nat} (hC : kc_ D g E H0 kq ts) (f0 : sx_A g .byte H0 a0 32) (o0 : E a0) (f1 : sx_A g .long H0 a1 10) (hV : mm g H0 = X) : Met l y_F_write (.code y_F_write b_F_write 8 none :: G_) rm_F_write (sx_Pc [.ref (kq 0 99), .ref a0, .ref a1] H0 D g) (vx_Qv g E H0 (LF_F_write X kq ts a0 a1)) 0 0 E := by
  refine vx_mv (own := R_F) (by decide) rfl rfl rfl (Nat.le_of_ble_eq_true rfl) ?_
  intro p e s m args below meth c Q ls EE hl hret
  obtain ⟨hx, hb, hml, hown, hts, hG, hK⟩ := id EE
  have hS : sx_S g E E H0 H0 [] := sx_S.rf
  have hz := hC.2.2.2.2
  have hl : lv_has ls 8 [(0, .ref (kq 0 99)), (1, .ref a0), (2, .ref a1)] := hl
  refine lv_aload_n hx hb d_F_write_0 rfl (lv_at hl 0 rfl) ?_
  refine lv_aload_n hx hb d_F_write_1 rfl (lv_at hl 2 rfl) ?_
  refine vx_gv (sx_runV (As := [.ref a1]) (rest := []) EE (hS.1.ob (kc_n0 hC) (kc_o0 hC)) rfl rfl (v_F_settle (X := X) (hC.kept hS.1) (hS.a f1) hV) w_F_71 rfl ⟨rfl, rfl⟩ ⟨Nat.le_of_ble_eq_true rfl, Nat.le_of_ble_eq_true rfl⟩ ⟨Nat.zero_le _, Nat.zero_le _⟩ hl.1 rfl (Nat.le_of_ble_eq_true rfl) d_F_write_2) hS (fun H locs X1 eX1 hS hV => ?_)
  refine lv_lconst (v := 0) hx hb d_F_write_5 (by decide +kernel) ?_
  refine lv_lstore_n (lv' := [(3, .long (0 : Int64)), (0, .ref (kq 0 99)), (1, .ref a0), (2, .ref a1)]) hx hb d_F_write_6 rfl hl (by decide) rfl (fun ls hl => ?_)
  refine lv_iconst (v := nI 0) hx hb d_F_write_7 (by decide +kernel) ?_
  refine lv_istore (lv' := [(5, .int (nI (0))), (3, .long (0 : Int64)), (0, .ref (kq 0 99)), (1, .ref a0), (2, .ref a1)]) hx hb d_F_write_8 hl (by decide) rfl (fun ls hl => ?_)
  refine lv_iconst (v := nI 0) hx hb d_F_write_10 (by decide +kernel) ?_
  refine lv_istore (lv' := [(6, .int (nI (0))), (5, .int (nI (0))), (3, .long (0 : Int64)), (0, .ref (kq 0 99)), (1, .ref a0), (2, .ref a1)]) hx hb d_F_write_11 hl (by decide) rfl (fun ls hl => ?_)
  refine lv_iconst (v := nI 0) hx hb d_F_write_13 (by decide +kernel) ?_
  refine lv_istore (lv' := [(7, .int (nI (0))), (6, .int (nI (0))), (5, .int (nI (0))), (3, .long (0 : Int64)), (0, .ref (kq 0 99)), (1, .ref a0), (2, .ref a1)]) hx hb d_F_write_14 hl (by decide) rfl (fun ls hl => ?_)
  refine lv_iload hx hb d_F_write_16 (lv_at hl 0 rfl) ?_
  refine lv_bipush (v := nI 10) hx hb d_F_write_18 (by decide +kernel) ?_
  refine lv_icmp_ge (tgt := 80) hx hb d_F_write_20 (by decide) (fun q20_1 => absurd (show 10 ≤ 0 by have q20_1 : 10 ≤ 0 := (nI_leI (a := 10) (b := 0) (by omega) (by omega)).mp q20_1; exact q20_1) (by decide)) (fun _ => ?_)
  refine lv_lload_n hx hb d_F_write_23 rfl (lv_at hl 3 rfl) ?_
  refine lv_aload_n hx hb d_F_write_24 rfl (lv_at hl 4 rfl) ?_
  refine sx_get EE (hS.1.ob (kc_n0 hC) (kc_o0 hC)) rfl i_F 6 (by decide) rfl fl_F_30 rfl d_F_write_25 ?_
  refine lv_iload hx hb d_F_write_28 (lv_at hl 0 rfl) ?_
  refine vx_lald hx hb hG hS hV (kc_a0_6 hC) (by omega) (by decide) d_F_write_30 ?_
  refine lv_iload hx hb d_F_write_31 (lv_at hl 2 rfl) ?_
  refine lv_lshl hx hb d_F_write_33 rfl ?_
  refine lv_lor hx hb d_F_write_34 ?_
  refine vx_nmL (fun z3 ez3 => ?_)
  refine lv_lstore_n (lv' := [(3, .long z3), (7, .int (nI (0))), (6, .int (nI (0))), (5, .int (nI (0))), (0, .ref (kq 0 99)), (1, .ref a0), (2, .ref a1)]) hx hb d_F_write_35 rfl hl (by decide) rfl (fun ls hl => ?_)
  refine lv_iload hx hb d_F_write_36 (lv_at hl 3 rfl) ?_
  refine lv_iload hx hb d_F_write_38 (lv_at hl 1 rfl) ?_
  refine vx_gi (sx_runS (As := [.int (nI (0))]) (rest := [.int (nI (0))]) EE (v_F_widthOf (X := X1) (by omega) hV) w_F_67 rfl ⟨rfl, rfl⟩ ⟨Nat.le_of_ble_eq_true rfl, Nat.le_of_ble_eq_true rfl⟩ ⟨Nat.zero_le _, Nat.zero_le _⟩ hl.1 rfl (Nat.le_of_ble_eq_true rfl) d_F_write_40) hS (fun H locs X_ eX_ hS hV => ?_)
  subst eX_
  refine sx_ti (y := nI 26) rfl ?_
  refine lv_iadd hx hb d_F_write_43 ?_
  refine sx_ti (y := nI (26)) (nI_add _ _) ?_
  refine lv_istore (lv' := [(5, .int (nI (26))), (3, .long z3), (7, .int (nI (0))), (6, .int (nI (0))), (0, .ref (kq 0 99)), (1, .ref a0), (2, .ref a1)]) hx hb d_F_write_44 hl (by decide) rfl (fun ls hl => ?_)
  refine lv_iload hx hb d_F_write_46 (lv_at hl 0 rfl) ?_
  refine lv_bipush (v := nI 8) hx hb d_F_write_48 (by decide +kernel) ?_
  refine lv_icmp_lt (tgt := 74) hx hb d_F_write_50 (by decide) (fun q50_3 => absurd (show 26 < 8 by have q50_3 : 26 < 8 := (nI_ltI (a := 26) (b := 8) (by omega) (by omega)).mp q50_3; exact q50_3) (by decide)) (fun _ => ?_)
  refine lv_aload_n hx hb d_F_write_53 rfl (lv_at hl 5 rfl) ?_
  refine lv_iload hx hb d_F_write_54 (lv_at hl 3 rfl) ?_
  refine lv_lload_n hx hb d_F_write_56 rfl (lv_at hl 1 rfl) ?_
  refine lv_l2i hx hb d_F_write_57 rfl ?_
  refine lv_i2b hx hb d_F_write_58 rfl ?_
  refine vx_bast hx hb hG hS hV f0 o0 (by omega) (by decide) d_F_write_59 (fun H locs X5 eX5 hS hV => ?_)
  refine lv_iinc (v := nI (1)) (lv' := [(6, .int (nI (1))), (5, .int (nI (26))), (3, .long z3), (7, .int (nI (0))), (0, .ref (kq 0 99)), (1, .ref a0), (2, .ref a1)]) hx hb d_F_write_60 hl (k := 3) rfl (sx_inc _ _) (by decide) rfl (fun ls hl => ?_)
  refine lv_lload_n hx hb d_F_write_63 rfl (lv_at hl 2 rfl) ?_
  refine lv_bipush (v := nI 8) hx hb d_F_write_64 (by decide +kernel) ?_
  refine lv_lshr hx hb d_F_write_66 rfl ?_
  refine vx_nmL (fun z6 ez6 => ?_)
  refine lv_lstore_n (lv' := [(3, .long z6), (6, .int (nI (1))), (5, .int (nI (26))), (7, .int (nI (0))), (0, .ref (kq 0 99)), (1, .ref a0), (2, .ref a1)]) hx hb d_F_write_67 rfl hl (by decide) rfl (fun ls hl => ?_)
  refine lv_iinc (v := nI (18)) (lv' := [(5, .int (nI (18))), (3, .long z6), (6, .int (nI (1))), (7, .int (nI (0))), (0, .ref (kq 0 99)), (1, .ref a0), (2, .ref a1)]) hx hb d_F_write_68 hl (k := 2) rfl (vx_dec 8 (by omega)) (by decide) rfl (fun ls hl => ?_)
  refine lv_goto (tgt := 46) hx hb d_F_write_71 (by decide) ?_
  refine lv_iload hx hb d_F_write_46 (lv_at hl 0 rfl) ?_
  refine lv_bipush (v := nI 8) hx hb d_F_write_48 (by decide +kernel) ?_
  refine lv_icmp_lt (tgt := 74) hx hb d_F_write_50 (by decide) (fun q50_6 => absurd (show 18 < 8 by have q50_6 : 18 < 8 := (nI_ltI (a := 18) (b := 8) (by omega) (by omega)).mp q50_6; exact q50_6) (by decide)) (fun _ => ?_)
  refine lv_aload_n hx hb d_F_write_53 rfl (lv_at hl 5 rfl) ?_
  refine lv_iload hx hb d_F_write_54 (lv_at hl 2 rfl) ?_
  refine lv_lload_n hx hb d_F_write_56 rfl (lv_at hl 1 rfl) ?_
  refine lv_l2i hx hb d_F_write_57 rfl ?_
  refine lv_i2b hx hb d_F_write_58 rfl ?_
  refine vx_bast hx hb hG hS hV f0 o0 (by omega) (by decide) d_F_write_59 (fun H locs X8 eX8 hS hV => ?_)
  refine lv_iinc (v := nI (2)) (lv' := [(6, .int (nI (2))), (5, .int (nI (18))), (3, .long z6), (7, .int (nI (0))), (0, .ref (kq 0 99)), (1, .ref a0), (2, .ref a1)]) hx hb d_F_write_60 hl (k := 2) rfl (sx_inc _ _) (by decide) rfl (fun ls hl => ?_)
  refine lv_lload_n hx hb d_F_write_63 rfl (lv_at hl 2 rfl) ?_
  refine lv_bipush (v := nI 8) hx hb d_F_write_64 (by decide +kernel) ?_
  refine lv_lshr hx hb d_F_write_66 rfl ?_
  refine vx_nmL (fun z9 ez9 => ?_)
  refine lv_lstore_n (lv' := [(3, .long z9), (6, .int (nI (2))), (5, .int (nI (18))), (7, .int (nI (0))), (0, .ref (kq 0 99)), (1, .ref a0), (2, .ref a1)]) hx hb d_F_write_67 rfl hl (by decide) rfl (fun ls hl => ?_)
  refine lv_iinc (v := nI (10)) (lv' := [(5, .int (nI (10))), (3, .long z9), (6, .int (nI (2))), (7, .int (nI (0))), (0, .ref (kq 0 99)), (1, .ref a0), (2, .ref a1)]) hx hb d_F_write_68 hl (k := 2) rfl (vx_dec 8 (by omega)) (by decide) rfl (fun ls hl => ?_)
  refine lv_goto (tgt := 46) hx hb d_F_write_71 (by decide) ?_
  refine lv_iload hx hb d_F_write_46 (lv_at hl 0 rfl) ?_
  refine lv_bipush (v := nI 8) hx hb d_F_write_48 (by decide +kernel) ?_
  refine lv_icmp_lt (tgt := 74) hx hb d_F_write_50 (by decide) (fun q50_9 => absurd (show 10 < 8 by have q50_9 : 10 < 8 := (nI_ltI (a := 10) (b := 8) (by omega) (by omega)).mp q50_9; exact q50_9) (by decide)) (fun _ => ?_)
  refine lv_aload_n hx hb d_F_write_53 rfl (lv_at hl 5 rfl) ?_
  refine lv_iload hx hb d_F_write_54 (lv_at hl 2 rfl) ?_
  refine lv_lload_n hx hb d_F_write_56 rfl (lv_at hl 1 rfl) ?_
  refine lv_l2i hx hb d_F_write_57 rfl ?_
  refine lv_i2b hx hb d_F_write_58 rfl ?_
  refine vx_bast hx hb hG hS hV f0 o0 (by omega) (by decide) d_F_write_59 (fun H locs X11 eX11 hS hV => ?_)
  refine lv_iinc (v := nI (3)) (lv' := [(6, .int (nI (3))), (5, .int (nI (10))), (3, .long z9), (7, .int (nI (0))), (0, .ref (kq 0 99)), (1, .ref a0), (2, .ref a1)]) hx hb d_F_write_60 hl (k := 2) rfl (sx_inc _ _) (by decide) rfl (fun ls hl => ?_)
  refine lv_lload_n hx hb d_F_write_63 rfl (lv_at hl 2 rfl) ?_
  refine lv_bipush (v := nI 8) hx hb d_F_write_64 (by decide +kernel) ?_
  refine lv_lshr hx hb d_F_write_66 rfl ?_
  refine vx_nmL (fun z12 ez12 => ?_)
  refine lv_lstore_n (lv' := [(3, .long z12), (6, .int (nI (3))), (5, .int (nI (10))), (7, .int (nI (0))), (0, .ref (kq 0 99)), (1, .ref a0), (2, .ref a1)]) hx hb d_F_write_67 rfl hl (by decide) rfl (fun ls hl => ?_)
  refine lv_iinc (v := nI (2)) (lv' := [(5, .int (nI (2))), (3, .long z12), (6, .int (nI (3))), (7, .int (nI (0))), (0, .ref (kq 0 99)), (1, .ref a0), (2, .ref a1)]) hx hb d_F_write_68 hl (k := 2) rfl (vx_dec 8 (by omega)) (by decide) rfl (fun ls hl => ?_)
  refine lv_goto (tgt := 46) hx hb d_F_write_71 (by decide) ?_
  refine lv_iload hx hb d_F_write_46 (lv_at hl 0 rfl) ?_
  refine lv_bipush (v := nI 8) hx hb d_F_write_48 (by decide +kernel) ?_
  refine lv_icmp_lt (tgt := 74) hx hb d_F_write_50 (by decide) (fun _ => ?_) (fun q50_12 => absurd (show 2 < 8 by decide) (by have q50_12 : ¬ (2 < 8) := fun z => q50_12 ((nI_ltI (a := 2) (b := 8) (by omega) (by omega)).mpr z); exact q50_12))
  refine lv_iinc (v := nI (1)) (lv' := [(7, .int (nI (1))), (5, .int (nI (2))), (3, .long z12), (6, .int (nI (3))), (0, .ref (kq 0 99)), (1, .ref a0), (2, .ref a1)]) hx hb d_F_write_74 hl (k := 3) rfl (sx_inc _ _) (by decide) rfl (fun ls hl => ?_)
  refine lv_goto (tgt := 16) hx hb d_F_write_77 (by decide) ?_
  refine lv_iload hx hb d_F_write_16 (lv_at hl 0 rfl) ?_
  refine lv_bipush (v := nI 10) hx hb d_F_write_18 (by decide +kernel) ?_
  refine lv_icmp_ge (tgt := 80) hx hb d_F_write_20 (by decide) (fun q20_13 => absurd (show 10 ≤ 1 by have q20_13 : 10 ≤ 1 := (nI_leI (a := 10) (b := 1) (by omega) (by omega)).mp q20_13; exact q20_13) (by decide)) (fun _ => ?_)
  refine lv_lload_n hx hb d_F_write_23 rfl (lv_at hl 2 rfl) ?_
  refine lv_aload_n hx hb d_F_write_24 rfl (lv_at hl 4 rfl) ?_
  refine sx_get EE (hS.1.ob (kc_n0 hC) (kc_o0 hC)) rfl i_F 6 (by decide) rfl fl_F_30 rfl d_F_write_25 ?_
  refine lv_iload hx hb d_F_write_28 (lv_at hl 0 rfl) ?_
  refine vx_lald hx hb hG hS hV (kc_a0_6 hC) (by omega) (by decide) d_F_write_30 ?_
  refine lv_iload hx hb d_F_write_31 (lv_at hl 1 rfl) ?_
  refine lv_lshl hx hb d_F_write_33 rfl ?_
  refine lv_lor hx hb d_F_write_34 ?_
  refine vx_nmL (fun z15 ez15 => ?_)
  refine lv_lstore_n (lv' := [(3, .long z15), (7, .int (nI (1))), (5, .int (nI (2))), (6, .int (nI (3))), (0, .ref (kq 0 99)), (1, .ref a0), (2, .ref a1)]) hx hb d_F_write_35 rfl hl (by decide) rfl (fun ls hl => ?_)
  refine lv_iload hx hb d_F_write_36 (lv_at hl 2 rfl) ?_
  refine lv_iload hx hb d_F_write_38 (lv_at hl 1 rfl) ?_
  refine vx_gi (sx_runS (As := [.int (nI (1))]) (rest := [.int (nI (2))]) EE (v_F_widthOf (X := X11) (by omega) hV) w_F_67 rfl ⟨rfl, rfl⟩ ⟨Nat.le_of_ble_eq_true rfl, Nat.le_of_ble_eq_true rfl⟩ ⟨Nat.zero_le _, Nat.zero_le _⟩ hl.1 rfl (Nat.le_of_ble_eq_true rfl) d_F_write_40) hS (fun H locs X_ eX_ hS hV => ?_)
  subst eX_
  refine sx_ti (y := nI 25) rfl ?_
  refine lv_iadd hx hb d_F_write_43 ?_
  refine sx_ti (y := nI (27)) (nI_add _ _) ?_
  refine lv_istore (lv' := [(5, .int (nI (27))), (3, .long z15), (7, .int (nI (1))), (6, .int (nI (3))), (0, .ref (kq 0 99)), (1, .ref a0), (2, .ref a1)]) hx hb d_F_write_44 hl (by decide) rfl (fun ls hl => ?_)
  refine lv_iload hx hb d_F_write_46 (lv_at hl 0 rfl) ?_
  refine lv_bipush (v := nI 8) hx hb d_F_write_48 (by decide +kernel) ?_
  refine lv_icmp_lt (tgt := 74) hx hb d_F_write_50 (by decide) (fun q50_15 => absurd (show 27 < 8 by have q50_15 : 27 < 8 := (nI_ltI (a := 27) (b := 8) (by omega) (by omega)).mp q50_15; exact q50_15) (by decide)) (fun _ => ?_)
  refine lv_aload_n hx hb d_F_write_53 rfl (lv_at hl 5 rfl) ?_
  refine lv_iload hx hb d_F_write_54 (lv_at hl 3 rfl) ?_
  refine lv_lload_n hx hb d_F_write_56 rfl (lv_at hl 1 rfl) ?_
  refine lv_l2i hx hb d_F_write_57 rfl ?_
  refine lv_i2b hx hb d_F_write_58 rfl ?_
  refine vx_bast hx hb hG hS hV f0 o0 (by omega) (by decide) d_F_write_59 (fun H locs X17 eX17 hS hV => ?_)
  refine lv_iinc (v := nI (4)) (lv' := [(6, .int (nI (4))), (5, .int (nI (27))), (3, .long z15), (7, .int (nI (1))), (0, .ref (kq 0 99)), (1, .ref a0), (2, .ref a1)]) hx hb d_F_write_60 hl (k := 3) rfl (sx_inc _ _) (by decide) rfl (fun ls hl => ?_)
  refine lv_lload_n hx hb d_F_write_63 rfl (lv_at hl 2 rfl) ?_
  refine lv_bipush (v := nI 8) hx hb d_F_write_64 (by decide +kernel) ?_
  refine lv_lshr hx hb d_F_write_66 rfl ?_
  refine vx_nmL (fun z18 ez18 => ?_)
  refine lv_lstore_n (lv' := [(3, .long z18), (6, .int (nI (4))), (5, .int (nI (27))), (7, .int (nI (1))), (0, .ref (kq 0 99)), (1, .ref a0), (2, .ref a1)]) hx hb d_F_write_67 rfl hl (by decide) rfl (fun ls hl => ?_)
  refine lv_iinc (v := nI (19)) (lv' := [(5, .int (nI (19))), (3, .long z18), (6, .int (nI (4))), (7, .int (nI (1))), (0, .ref (kq 0 99)), (1, .ref a0), (2, .ref a1)]) hx hb d_F_write_68 hl (k := 2) rfl (vx_dec 8 (by omega)) (by decide) rfl (fun ls hl => ?_)
  refine lv_goto (tgt := 46) hx hb d_F_write_71 (by decide) ?_
  refine lv_iload hx hb d_F_write_46 (lv_at hl 0 rfl) ?_
  refine lv_bipush (v := nI 8) hx hb d_F_write_48 (by decide +kernel) ?_
  refine lv_icmp_lt (tgt := 74) hx hb d_F_write_50 (by decide) (fun q50_18 => absurd (show 19 < 8 by have q50_18 : 19 < 8 := (nI_ltI (a := 19) (b := 8) (by omega) (by omega)).mp q50_18; exact q50_18) (by decide)) (fun _ => ?_)
  refine lv_aload_n hx hb d_F_write_53 rfl (lv_at hl 5 rfl) ?_
  refine lv_iload hx hb d_F_write_54 (lv_at hl 2 rfl) ?_
  refine lv_lload_n hx hb d_F_write_56 rfl (lv_at hl 1 rfl) ?_
  refine lv_l2i hx hb d_F_write_57 rfl ?_
  refine lv_i2b hx hb d_F_write_58 rfl ?_
  refine vx_bast hx hb hG hS hV f0 o0 (by omega) (by decide) d_F_write_59 (fun H locs X20 eX20 hS hV => ?_)
  refine lv_iinc (v := nI (5)) (lv' := [(6, .int (nI (5))), (5, .int (nI (19))), (3, .long z18), (7, .int (nI (1))), (0, .ref (kq 0 99)), (1, .ref a0), (2, .ref a1)]) hx hb d_F_write_60 hl (k := 2) rfl (sx_inc _ _) (by decide) rfl (fun ls hl => ?_)
  refine lv_lload_n hx hb d_F_write_63 rfl (lv_at hl 2 rfl) ?_
  refine lv_bipush (v := nI 8) hx hb d_F_write_64 (by decide +kernel) ?_
  refine lv_lshr hx hb d_F_write_66 rfl ?_
  refine vx_nmL (fun z21 ez21 => ?_)
  refine lv_lstore_n (lv' := [(3, .long z21), (6, .int (nI (5))), (5, .int (nI (19))), (7, .int (nI (1))), (0, .ref (kq 0 99)), (1, .ref a0), (2, .ref a1)]) hx hb d_F_write_67 rfl hl (by decide) rfl (fun ls hl => ?_)
  refine lv_iinc (v := nI (11)) (lv' := [(5, .int (nI (11))), (3, .long z21), (6, .int (nI (5))), (7, .int (nI (1))), (0, .ref (kq 0 99)), (1, .ref a0), (2, .ref a1)]) hx hb d_F_write_68 hl (k := 2) rfl (vx_dec 8 (by omega)) (by decide) rfl (fun ls hl => ?_)
  refine lv_goto (tgt := 46) hx hb d_F_write_71 (by decide) ?_
  refine lv_iload hx hb d_F_write_46 (lv_at hl 0 rfl) ?_
  refine lv_bipush (v := nI 8) hx hb d_F_write_48 (by decide +kernel) ?_
  refine lv_icmp_lt (tgt := 74) hx hb d_F_write_50 (by decide) (fun q50_21 => absurd (show 11 < 8 by have q50_21 : 11 < 8 := (nI_ltI (a := 11) (b := 8) (by omega) (by omega)).mp q50_21; exact q50_21) (by decide)) (fun _ => ?_)
  refine lv_aload_n hx hb d_F_write_53 rfl (lv_at hl 5 rfl) ?_
  refine lv_iload hx hb d_F_write_54 (lv_at hl 2 rfl) ?_
  refine lv_lload_n hx hb d_F_write_56 rfl (lv_at hl 1 rfl) ?_
  refine lv_l2i hx hb d_F_write_57 rfl ?_
  refine lv_i2b hx hb d_F_write_58 rfl ?_
  refine vx_bast hx hb hG hS hV f0 o0 (by omega) (by decide) d_F_write_59 (fun H locs X23 eX23 hS hV => ?_)
  refine lv_iinc (v := nI (6)) (lv' := [(6, .int (nI (6))), (5, .int (nI (11))), (3, .long z21), (7, .int (nI (1))), (0, .ref (kq 0 99)), (1, .ref a0), (2, .ref a1)]) hx hb d_F_write_60 hl (k := 2) rfl (sx_inc _ _) (by decide) rfl (fun ls hl => ?_)
  refine lv_lload_n hx hb d_F_write_63 rfl (lv_at hl 2 rfl) ?_
  refine lv_bipush (v := nI 8) hx hb d_F_write_64 (by decide +kernel) ?_
  refine lv_lshr hx hb d_F_write_66 rfl ?_
  refine vx_nmL (fun z24 ez24 => ?_)
  refine lv_lstore_n (lv' := [(3, .long z24), (6, .int (nI (6))), (5, .int (nI (11))), (7, .int (nI (1))), (0, .ref (kq 0 99)), (1, .ref a0), (2, .ref a1)]) hx hb d_F_write_67 rfl hl (by decide) rfl (fun ls hl => ?_)
  refine lv_iinc (v := nI (3)) (lv' := [(5, .int (nI (3))), (3, .long z24), (6, .int (nI (6))), (7, .int (nI (1))), (0, .ref (kq 0 99)), (1, .ref a0), (2, .ref a1)]) hx hb d_F_write_68 hl (k := 2) rfl (vx_dec 8 (by omega)) (by decide) rfl (fun ls hl => ?_)
  refine lv_goto (tgt := 46) hx hb d_F_write_71 (by decide) ?_
  refine lv_iload hx hb d_F_write_46 (lv_at hl 0 rfl) ?_
  refine lv_bipush (v := nI 8) hx hb d_F_write_48 (by decide +kernel) ?_
  refine lv_icmp_lt (tgt := 74) hx hb d_F_write_50 (by decide) (fun _ => ?_) (fun q50_24 => absurd (show 3 < 8 by decide) (by have q50_24 : ¬ (3 < 8) := fun z => q50_24 ((nI_ltI (a := 3) (b := 8) (by omega) (by omega)).mpr z); exact q50_24))
  refine lv_iinc (v := nI (2)) (lv' := [(7, .int (nI (2))), (5, .int (nI (3))), (3, .long z24), (6, .int (nI (6))), (0, .ref (kq 0 99)), (1, .ref a0), (2, .ref a1)]) hx hb d_F_write_74 hl (k := 3) rfl (sx_inc _ _) (by decide) rfl (fun ls hl => ?_)
  refine lv_goto (tgt := 16) hx hb d_F_write_77 (by decide) ?_
  refine lv_iload hx hb d_F_write_16 (lv_at hl 0 rfl) ?_
  refine lv_bipush (v := nI 10) hx hb d_F_write_18 (by decide +kernel) ?_
  refine lv_icmp_ge (tgt := 80) hx hb d_F_write_20 (by decide) (fun q20_25 => absurd (show 10 ≤ 2 by have q20_25 : 10 ≤ 2 := (nI_leI (a := 10) (b := 2) (by omega) (by omega)).mp q20_25; exact q20_25) (by decide)) (fun _ => ?_)
  refine lv_lload_n hx hb d_F_write_23 rfl (lv_at hl 2 rfl) ?_
  refine lv_aload_n hx hb d_F_write_24 rfl (lv_at hl 4 rfl) ?_
  refine sx_get EE (hS.1.ob (kc_n0 hC) (kc_o0 hC)) rfl i_F 6 (by decide) rfl fl_F_30 rfl d_F_write_25 ?_
  refine lv_iload hx hb d_F_write_28 (lv_at hl 0 rfl) ?_
  refine vx_lald hx hb hG hS hV (kc_a0_6 hC) (by omega) (by decide) d_F_write_30 ?_
  refine lv_iload hx hb d_F_write_31 (lv_at hl 1 rfl) ?_
  refine lv_lshl hx hb d_F_write_33 rfl ?_
  refine lv_lor hx hb d_F_write_34 ?_
  refine vx_nmL (fun z27 ez27 => ?_)
  refine lv_lstore_n (lv' := [(3, .long z27), (7, .int (nI (2))), (5, .int (nI (3))), (6, .int (nI (6))), (0, .ref (kq 0 99)), (1, .ref a0), (2, .ref a1)]) hx hb d_F_write_35 rfl hl (by decide) rfl (fun ls hl => ?_)
  refine lv_iload hx hb d_F_write_36 (lv_at hl 2 rfl) ?_
  refine lv_iload hx hb d_F_write_38 (lv_at hl 1 rfl) ?_
  refine vx_gi (sx_runS (As := [.int (nI (2))]) (rest := [.int (nI (3))]) EE (v_F_widthOf (X := X23) (by omega) hV) w_F_67 rfl ⟨rfl, rfl⟩ ⟨Nat.le_of_ble_eq_true rfl, Nat.le_of_ble_eq_true rfl⟩ ⟨Nat.zero_le _, Nat.zero_le _⟩ hl.1 rfl (Nat.le_of_ble_eq_true rfl) d_F_write_40) hS (fun H locs X_ eX_ hS hV => ?_)
  subst eX_
  refine sx_ti (y := nI 26) rfl ?_
  refine lv_iadd hx hb d_F_write_43 ?_
  refine sx_ti (y := nI (29)) (nI_add _ _) ?_
  refine lv_istore (lv' := [(5, .int (nI (29))), (3, .long z27), (7, .int (nI (2))), (6, .int (nI (6))), (0, .ref (kq 0 99)), (1, .ref a0), (2, .ref a1)]) hx hb d_F_write_44 hl (by decide) rfl (fun ls hl => ?_)
  refine lv_iload hx hb d_F_write_46 (lv_at hl 0 rfl) ?_
  refine lv_bipush (v := nI 8) hx hb d_F_write_48 (by decide +kernel) ?_
  refine lv_icmp_lt (tgt := 74) hx hb d_F_write_50 (by decide) (fun q50_27 => absurd (show 29 < 8 by have q50_27 : 29 < 8 := (nI_ltI (a := 29) (b := 8) (by omega) (by omega)).mp q50_27; exact q50_27) (by decide)) (fun _ => ?_)
  refine lv_aload_n hx hb d_F_write_53 rfl (lv_at hl 5 rfl) ?_
  refine lv_iload hx hb d_F_write_54 (lv_at hl 3 rfl) ?_
  refine lv_lload_n hx hb d_F_write_56 rfl (lv_at hl 1 rfl) ?_
  refine lv_l2i hx hb d_F_write_57 rfl ?_
  refine lv_i2b hx hb d_F_write_58 rfl ?_
  refine vx_bast hx hb hG hS hV f0 o0 (by omega) (by decide) d_F_write_59 (fun H locs X29 eX29 hS hV => ?_)
  refine lv_iinc (v := nI (7)) (lv' := [(6, .int (nI (7))), (5, .int (nI (29))), (3, .long z27), (7, .int (nI (2))), (0, .ref (kq 0 99)), (1, .ref a0), (2, .ref a1)]) hx hb d_F_write_60 hl (k := 3) rfl (sx_inc _ _) (by decide) rfl (fun ls hl => ?_)
  refine lv_lload_n hx hb d_F_write_63 rfl (lv_at hl 2 rfl) ?_
  refine lv_bipush (v := nI 8) hx hb d_F_write_64 (by decide +kernel) ?_
  refine lv_lshr hx hb d_F_write_66 rfl ?_
  refine vx_nmL (fun z30 ez30 => ?_)
  refine lv_lstore_n (lv' := [(3, .long z30), (6, .int (nI (7))), (5, .int (nI (29))), (7, .int (nI (2))), (0, .ref (kq 0 99)), (1, .ref a0), (2, .ref a1)]) hx hb d_F_write_67 rfl hl (by decide) rfl (fun ls hl => ?_)
  refine lv_iinc (v := nI (21)) (lv' := [(5, .int (nI (21))), (3, .long z30), (6, .int (nI (7))), (7, .int (nI (2))), (0, .ref (kq 0 99)), (1, .ref a0), (2, .ref a1)]) hx hb d_F_write_68 hl (k := 2) rfl (vx_dec 8 (by omega)) (by decide) rfl (fun ls hl => ?_)
  refine lv_goto (tgt := 46) hx hb d_F_write_71 (by decide) ?_
  refine lv_iload hx hb d_F_write_46 (lv_at hl 0 rfl) ?_
  refine lv_bipush (v := nI 8) hx hb d_F_write_48 (by decide +kernel) ?_
  refine lv_icmp_lt (tgt := 74) hx hb d_F_write_50 (by decide) (fun q50_30 => absurd (show 21 < 8 by have q50_30 : 21 < 8 := (nI_ltI (a := 21) (b := 8) (by omega) (by omega)).mp q50_30; exact q50_30) (by decide)) (fun _ => ?_)
  refine lv_aload_n hx hb d_F_write_53 rfl (lv_at hl 5 rfl) ?_
  refine lv_iload hx hb d_F_write_54 (lv_at hl 2 rfl) ?_
  refine lv_lload_n hx hb d_F_write_56 rfl (lv_at hl 1 rfl) ?_
  refine lv_l2i hx hb d_F_write_57 rfl ?_
  refine lv_i2b hx hb d_F_write_58 rfl ?_
  refine vx_bast hx hb hG hS hV f0 o0 (by omega) (by decide) d_F_write_59 (fun H locs X32 eX32 hS hV => ?_)
  refine lv_iinc (v := nI (8)) (lv' := [(6, .int (nI (8))), (5, .int (nI (21))), (3, .long z30), (7, .int (nI (2))), (0, .ref (kq 0 99)), (1, .ref a0), (2, .ref a1)]) hx hb d_F_write_60 hl (k := 2) rfl (sx_inc _ _) (by decide) rfl (fun ls hl => ?_)
  refine lv_lload_n hx hb d_F_write_63 rfl (lv_at hl 2 rfl) ?_
  refine lv_bipush (v := nI 8) hx hb d_F_write_64 (by decide +kernel) ?_
  refine lv_lshr hx hb d_F_write_66 rfl ?_
  refine vx_nmL (fun z33 ez33 => ?_)
  refine lv_lstore_n (lv' := [(3, .long z33), (6, .int (nI (8))), (5, .int (nI (21))), (7, .int (nI (2))), (0, .ref (kq 0 99)), (1, .ref a0), (2, .ref a1)]) hx hb d_F_write_67 rfl hl (by decide) rfl (fun ls hl => ?_)
  refine lv_iinc (v := nI (13)) (lv' := [(5, .int (nI (13))), (3, .long z33), (6, .int (nI (8))), (7, .int (nI (2))), (0, .ref (kq 0 99)), (1, .ref a0), (2, .ref a1)]) hx hb d_F_write_68 hl (k := 2) rfl (vx_dec 8 (by omega)) (by decide) rfl (fun ls hl => ?_)
  refine lv_goto (tgt := 46) hx hb d_F_write_71 (by decide) ?_
  refine lv_iload hx hb d_F_write_46 (lv_at hl 0 rfl) ?_
  refine lv_bipush (v := nI 8) hx hb d_F_write_48 (by decide +kernel) ?_
  refine lv_icmp_lt (tgt := 74) hx hb d_F_write_50 (by decide) (fun q50_33 => absurd (show 13 < 8 by have q50_33 : 13 < 8 := (nI_ltI (a := 13) (b := 8) (by omega) (by omega)).mp q50_33; exact q50_33) (by decide)) (fun _ => ?_)
  refine lv_aload_n hx hb d_F_write_53 rfl (lv_at hl 5 rfl) ?_
  refine lv_iload hx hb d_F_write_54 (lv_at hl 2 rfl) ?_
  refine lv_lload_n hx hb d_F_write_56 rfl (lv_at hl 1 rfl) ?_
  refine lv_l2i hx hb d_F_write_57 rfl ?_
  refine lv_i2b hx hb d_F_write_58 rfl ?_
  refine vx_bast hx hb hG hS hV f0 o0 (by omega) (by decide) d_F_write_59 (fun H locs X35 eX35 hS hV => ?_)
  refine lv_iinc (v := nI (9)) (lv' := [(6, .int (nI (9))), (5, .int (nI (13))), (3, .long z33), (7, .int (nI (2))), (0, .ref (kq 0 99)), (1, .ref a0), (2, .ref a1)]) hx hb d_F_write_60 hl (k := 2) rfl (sx_inc _ _) (by decide) rfl (fun ls hl => ?_)
  refine lv_lload_n hx hb d_F_write_63 rfl (lv_at hl 2 rfl) ?_
  refine lv_bipush (v := nI 8) hx hb d_F_write_64 (by decide +kernel) ?_
  refine lv_lshr hx hb d_F_write_66 rfl ?_
  refine vx_nmL (fun z36 ez36 => ?_)
  refine lv_lstore_n (lv' := [(3, .long z36), (6, .int (nI (9))), (5, .int (nI (13))), (7, .int (nI (2))), (0, .ref (kq 0 99)), (1, .ref a0), (2, .ref a1)]) hx hb d_F_write_67 rfl hl (by decide) rfl (fun ls hl => ?_)
  refine lv_iinc (v := nI (5)) (lv' := [(5, .int (nI (5))), (3, .long z36), (6, .int (nI (9))), (7, .int (nI (2))), (0, .ref (kq 0 99)), (1, .ref a0), (2, .ref a1)]) hx hb d_F_write_68 hl (k := 2) rfl (vx_dec 8 (by omega)) (by decide) rfl (fun ls hl => ?_)
  refine lv_goto (tgt := 46) hx hb d_F_write_71 (by decide) ?_
  refine lv_iload hx hb d_F_write_46 (lv_at hl 0 rfl) ?_
  refine lv_bipush (v := nI 8) hx hb d_F_write_48 (by decide +kernel) ?_
  refine lv_icmp_lt (tgt := 74) hx hb d_F_write_50 (by decide) (fun _ => ?_) (fun q50_36 => absurd (show 5 < 8 by decide) (by have q50_36 : ¬ (5 < 8) := fun z => q50_36 ((nI_ltI (a := 5) (b := 8) (by omega) (by omega)).mpr z); exact q50_36))
  refine lv_iinc (v := nI (3)) (lv' := [(7, .int (nI (3))), (5, .int (nI (5))), (3, .long z36), (6, .int (nI (9))), (0, .ref (kq 0 99)), (1, .ref a0), (2, .ref a1)]) hx hb d_F_write_74 hl (k := 3) rfl (sx_inc _ _) (by decide) rfl (fun ls hl => ?_)
  refine lv_goto (tgt := 16) hx hb d_F_write_77 (by decide) ?_
  refine lv_iload hx hb d_F_write_16 (lv_at hl 0 rfl) ?_
  refine lv_bipush (v := nI 10) hx hb d_F_write_18 (by decide +kernel) ?_
  refine lv_icmp_ge (tgt := 80) hx hb d_F_write_20 (by decide) (fun q20_37 => absurd (show 10 ≤ 3 by have q20_37 : 10 ≤ 3 := (nI_leI (a := 10) (b := 3) (by omega) (by omega)).mp q20_37; exact q20_37) (by decide)) (fun _ => ?_)
  refine lv_lload_n hx hb d_F_write_23 rfl (lv_at hl 2 rfl) ?_
  refine lv_aload_n hx hb d_F_write_24 rfl (lv_at hl 4 rfl) ?_
  refine sx_get EE (hS.1.ob (kc_n0 hC) (kc_o0 hC)) rfl i_F 6 (by decide) rfl fl_F_30 rfl d_F_write_25 ?_
  refine lv_iload hx hb d_F_write_28 (lv_at hl 0 rfl) ?_
  refine vx_lald hx hb hG hS hV (kc_a0_6 hC) (by omega) (by decide) d_F_write_30 ?_
  refine lv_iload hx hb d_F_write_31 (lv_at hl 1 rfl) ?_
  refine lv_lshl hx hb d_F_write_33 rfl ?_
  refine lv_lor hx hb d_F_write_34 ?_
  refine vx_nmL (fun z39 ez39 => ?_)
  refine lv_lstore_n (lv' := [(3, .long z39), (7, .int (nI (3))), (5, .int (nI (5))), (6, .int (nI (9))), (0, .ref (kq 0 99)), (1, .ref a0), (2, .ref a1)]) hx hb d_F_write_35 rfl hl (by decide) rfl (fun ls hl => ?_)
  refine lv_iload hx hb d_F_write_36 (lv_at hl 2 rfl) ?_
  refine lv_iload hx hb d_F_write_38 (lv_at hl 1 rfl) ?_
  refine vx_gi (sx_runS (As := [.int (nI (3))]) (rest := [.int (nI (5))]) EE (v_F_widthOf (X := X35) (by omega) hV) w_F_67 rfl ⟨rfl, rfl⟩ ⟨Nat.le_of_ble_eq_true rfl, Nat.le_of_ble_eq_true rfl⟩ ⟨Nat.zero_le _, Nat.zero_le _⟩ hl.1 rfl (Nat.le_of_ble_eq_true rfl) d_F_write_40) hS (fun H locs X_ eX_ hS hV => ?_)
  subst eX_
  refine sx_ti (y := nI 25) rfl ?_
  refine lv_iadd hx hb d_F_write_43 ?_
  refine sx_ti (y := nI (30)) (nI_add _ _) ?_
  refine lv_istore (lv' := [(5, .int (nI (30))), (3, .long z39), (7, .int (nI (3))), (6, .int (nI (9))), (0, .ref (kq 0 99)), (1, .ref a0), (2, .ref a1)]) hx hb d_F_write_44 hl (by decide) rfl (fun ls hl => ?_)
  refine lv_iload hx hb d_F_write_46 (lv_at hl 0 rfl) ?_
  refine lv_bipush (v := nI 8) hx hb d_F_write_48 (by decide +kernel) ?_
  refine lv_icmp_lt (tgt := 74) hx hb d_F_write_50 (by decide) (fun q50_39 => absurd (show 30 < 8 by have q50_39 : 30 < 8 := (nI_ltI (a := 30) (b := 8) (by omega) (by omega)).mp q50_39; exact q50_39) (by decide)) (fun _ => ?_)
  refine lv_aload_n hx hb d_F_write_53 rfl (lv_at hl 5 rfl) ?_
  refine lv_iload hx hb d_F_write_54 (lv_at hl 3 rfl) ?_
  refine lv_lload_n hx hb d_F_write_56 rfl (lv_at hl 1 rfl) ?_
  refine lv_l2i hx hb d_F_write_57 rfl ?_
  refine lv_i2b hx hb d_F_write_58 rfl ?_
  refine vx_bast hx hb hG hS hV f0 o0 (by omega) (by decide) d_F_write_59 (fun H locs X41 eX41 hS hV => ?_)
  refine lv_iinc (v := nI (10)) (lv' := [(6, .int (nI (10))), (5, .int (nI (30))), (3, .long z39), (7, .int (nI (3))), (0, .ref (kq 0 99)), (1, .ref a0), (2, .ref a1)]) hx hb d_F_write_60 hl (k := 3) rfl (sx_inc _ _) (by decide) rfl (fun ls hl => ?_)
  refine lv_lload_n hx hb d_F_write_63 rfl (lv_at hl 2 rfl) ?_
  refine lv_bipush (v := nI 8) hx hb d_F_write_64 (by decide +kernel) ?_
  refine lv_lshr hx hb d_F_write_66 rfl ?_
  refine vx_nmL (fun z42 ez42 => ?_)
  refine lv_lstore_n (lv' := [(3, .long z42), (6, .int (nI (10))), (5, .int (nI (30))), (7, .int (nI (3))), (0, .ref (kq 0 99)), (1, .ref a0), (2, .ref a1)]) hx hb d_F_write_67 rfl hl (by decide) rfl (fun ls hl => ?_)
  refine lv_iinc (v := nI (22)) (lv' := [(5, .int (nI (22))), (3, .long z42), (6, .int (nI (10))), (7, .int (nI (3))), (0, .ref (kq 0 99)), (1, .ref a0), (2, .ref a1)]) hx hb d_F_write_68 hl (k := 2) rfl (vx_dec 8 (by omega)) (by decide) rfl (fun ls hl => ?_)
  refine lv_goto (tgt := 46) hx hb d_F_write_71 (by decide) ?_
  refine lv_iload hx hb d_F_write_46 (lv_at hl 0 rfl) ?_
  refine lv_bipush (v := nI 8) hx hb d_F_write_48 (by decide +kernel) ?_
  refine lv_icmp_lt (tgt := 74) hx hb d_F_write_50 (by decide) (fun q50_42 => absurd (show 22 < 8 by have q50_42 : 22 < 8 := (nI_ltI (a := 22) (b := 8) (by omega) (by omega)).mp q50_42; exact q50_42) (by decide)) (fun _ => ?_)
  refine lv_aload_n hx hb d_F_write_53 rfl (lv_at hl 5 rfl) ?_
  refine lv_iload hx hb d_F_write_54 (lv_at hl 2 rfl) ?_
  refine lv_lload_n hx hb d_F_write_56 rfl (lv_at hl 1 rfl) ?_
  refine lv_l2i hx hb d_F_write_57 rfl ?_
  refine lv_i2b hx hb d_F_write_58 rfl ?_
  refine vx_bast hx hb hG hS hV f0 o0 (by omega) (by decide) d_F_write_59 (fun H locs X44 eX44 hS hV => ?_)
  refine lv_iinc (v := nI (11)) (lv' := [(6, .int (nI (11))), (5, .int (nI (22))), (3, .long z42), (7, .int (nI (3))), (0, .ref (kq 0 99)), (1, .ref a0), (2, .ref a1)]) hx hb d_F_write_60 hl (k := 2) rfl (sx_inc _ _) (by decide) rfl (fun ls hl => ?_)
  refine lv_lload_n hx hb d_F_write_63 rfl (lv_at hl 2 rfl) ?_
  refine lv_bipush (v := nI 8) hx hb d_F_write_64 (by decide +kernel) ?_
  refine lv_lshr hx hb d_F_write_66 rfl ?_
  refine vx_nmL (fun z45 ez45 => ?_)
  refine lv_lstore_n (lv' := [(3, .long z45), (6, .int (nI (11))), (5, .int (nI (22))), (7, .int (nI (3))), (0, .ref (kq 0 99)), (1, .ref a0), (2, .ref a1)]) hx hb d_F_write_67 rfl hl (by decide) rfl (fun ls hl => ?_)
  refine lv_iinc (v := nI (14)) (lv' := [(5, .int (nI (14))), (3, .long z45), (6, .int (nI (11))), (7, .int (nI (3))), (0, .ref (kq 0 99)), (1, .ref a0), (2, .ref a1)]) hx hb d_F_write_68 hl (k := 2) rfl (vx_dec 8 (by omega)) (by decide) rfl (fun ls hl => ?_)
  refine lv_goto (tgt := 46) hx hb d_F_write_71 (by decide) ?_
  refine lv_iload hx hb d_F_write_46 (lv_at hl 0 rfl) ?_
  refine lv_bipush (v := nI 8) hx hb d_F_write_48 (by decide +kernel) ?_
  refine lv_icmp_lt (tgt := 74) hx hb d_F_write_50 (by decide) (fun q50_45 => absurd (show 14 < 8 by have q50_45 : 14 < 8 := (nI_ltI (a := 14) (b := 8) (by omega) (by omega)).mp q50_45; exact q50_45) (by decide)) (fun _ => ?_)
  refine lv_aload_n hx hb d_F_write_53 rfl (lv_at hl 5 rfl) ?_
  refine lv_iload hx hb d_F_write_54 (lv_at hl 2 rfl) ?_
  refine lv_lload_n hx hb d_F_write_56 rfl (lv_at hl 1 rfl) ?_
  refine lv_l2i hx hb d_F_write_57 rfl ?_
  refine lv_i2b hx hb d_F_write_58 rfl ?_
  refine vx_bast hx hb hG hS hV f0 o0 (by omega) (by decide) d_F_write_59 (fun H locs X47 eX47 hS hV => ?_)
  refine lv_iinc (v := nI (12)) (lv' := [(6, .int (nI (12))), (5, .int (nI (14))), (3, .long z45), (7, .int (nI (3))), (0, .ref (kq 0 99)), (1, .ref a0), (2, .ref a1)]) hx hb d_F_write_60 hl (k := 2) rfl (sx_inc _ _) (by decide) rfl (fun ls hl => ?_)
  refine lv_lload_n hx hb d_F_write_63 rfl (lv_at hl 2 rfl) ?_
  refine lv_bipush (v := nI 8) hx hb d_F_write_64 (by decide +kernel) ?_
  refine lv_lshr hx hb d_F_write_66 rfl ?_
  refine vx_nmL (fun z48 ez48 => ?_)
  refine lv_lstore_n (lv' := [(3, .long z48), (6, .int (nI (12))), (5, .int (nI (14))), (7, .int (nI (3))), (0, .ref (kq 0 99)), (1, .ref a0), (2, .ref a1)]) hx hb d_F_write_67 rfl hl (by decide) rfl (fun ls hl => ?_)
  refine lv_iinc (v := nI (6)) (lv' := [(5, .int (nI (6))), (3, .long z48), (6, .int (nI (12))), (7, .int (nI (3))), (0, .ref (kq 0 99)), (1, .ref a0), (2, .ref a1)]) hx hb d_F_write_68 hl (k := 2) rfl (vx_dec 8 (by omega)) (by decide) rfl (fun ls hl => ?_)
  refine lv_goto (tgt := 46) hx hb d_F_write_71 (by decide) ?_
  refine lv_iload hx hb d_F_write_46 (lv_at hl 0 rfl) ?_
  refine lv_bipush (v := nI 8) hx hb d_F_write_48 (by decide +kernel) ?_
  refine lv_icmp_lt (tgt := 74) hx hb d_F_write_50 (by decide) (fun _ => ?_) (fun q50_48 => absurd (show 6 < 8 by decide) (by have q50_48 : ¬ (6 < 8) := fun z => q50_48 ((nI_ltI (a := 6) (b := 8) (by omega) (by omega)).mpr z); exact q50_48))
  refine lv_iinc (v := nI (4)) (lv' := [(7, .int (nI (4))), (5, .int (nI (6))), (3, .long z48), (6, .int (nI (12))), (0, .ref (kq 0 99)), (1, .ref a0), (2, .ref a1)]) hx hb d_F_write_74 hl (k := 3) rfl (sx_inc _ _) (by decide) rfl (fun ls hl => ?_)
  refine lv_goto (tgt := 16) hx hb d_F_write_77 (by decide) ?_
  refine lv_iload hx hb d_F_write_16 (lv_at hl 0 rfl) ?_
  refine lv_bipush (v := nI 10) hx hb d_F_write_18 (by decide +kernel) ?_
  refine lv_icmp_ge (tgt := 80) hx hb d_F_write_20 (by decide) (fun q20_49 => absurd (show 10 ≤ 4 by have q20_49 : 10 ≤ 4 := (nI_leI (a := 10) (b := 4) (by omega) (by omega)).mp q20_49; exact q20_49) (by decide)) (fun _ => ?_)
  refine lv_lload_n hx hb d_F_write_23 rfl (lv_at hl 2 rfl) ?_
  refine lv_aload_n hx hb d_F_write_24 rfl (lv_at hl 4 rfl) ?_
  refine sx_get EE (hS.1.ob (kc_n0 hC) (kc_o0 hC)) rfl i_F 6 (by decide) rfl fl_F_30 rfl d_F_write_25 ?_
  refine lv_iload hx hb d_F_write_28 (lv_at hl 0 rfl) ?_
  refine vx_lald hx hb hG hS hV (kc_a0_6 hC) (by omega) (by decide) d_F_write_30 ?_
  refine lv_iload hx hb d_F_write_31 (lv_at hl 1 rfl) ?_
  refine lv_lshl hx hb d_F_write_33 rfl ?_
  refine lv_lor hx hb d_F_write_34 ?_
  refine vx_nmL (fun z51 ez51 => ?_)
  refine lv_lstore_n (lv' := [(3, .long z51), (7, .int (nI (4))), (5, .int (nI (6))), (6, .int (nI (12))), (0, .ref (kq 0 99)), (1, .ref a0), (2, .ref a1)]) hx hb d_F_write_35 rfl hl (by decide) rfl (fun ls hl => ?_)
  refine lv_iload hx hb d_F_write_36 (lv_at hl 2 rfl) ?_
  refine lv_iload hx hb d_F_write_38 (lv_at hl 1 rfl) ?_
  refine vx_gi (sx_runS (As := [.int (nI (4))]) (rest := [.int (nI (6))]) EE (v_F_widthOf (X := X47) (by omega) hV) w_F_67 rfl ⟨rfl, rfl⟩ ⟨Nat.le_of_ble_eq_true rfl, Nat.le_of_ble_eq_true rfl⟩ ⟨Nat.zero_le _, Nat.zero_le _⟩ hl.1 rfl (Nat.le_of_ble_eq_true rfl) d_F_write_40) hS (fun H locs X_ eX_ hS hV => ?_)
  subst eX_
  refine sx_ti (y := nI 26) rfl ?_
  refine lv_iadd hx hb d_F_write_43 ?_
  refine sx_ti (y := nI (32)) (nI_add _ _) ?_
  refine lv_istore (lv' := [(5, .int (nI (32))), (3, .long z51), (7, .int (nI (4))), (6, .int (nI (12))), (0, .ref (kq 0 99)), (1, .ref a0), (2, .ref a1)]) hx hb d_F_write_44 hl (by decide) rfl (fun ls hl => ?_)
  refine lv_iload hx hb d_F_write_46 (lv_at hl 0 rfl) ?_
  refine lv_bipush (v := nI 8) hx hb d_F_write_48 (by decide +kernel) ?_
  refine lv_icmp_lt (tgt := 74) hx hb d_F_write_50 (by decide) (fun q50_51 => absurd (show 32 < 8 by have q50_51 : 32 < 8 := (nI_ltI (a := 32) (b := 8) (by omega) (by omega)).mp q50_51; exact q50_51) (by decide)) (fun _ => ?_)
  refine lv_aload_n hx hb d_F_write_53 rfl (lv_at hl 5 rfl) ?_
  refine lv_iload hx hb d_F_write_54 (lv_at hl 3 rfl) ?_
  refine lv_lload_n hx hb d_F_write_56 rfl (lv_at hl 1 rfl) ?_
  refine lv_l2i hx hb d_F_write_57 rfl ?_
  refine lv_i2b hx hb d_F_write_58 rfl ?_
  refine vx_bast hx hb hG hS hV f0 o0 (by omega) (by decide) d_F_write_59 (fun H locs X53 eX53 hS hV => ?_)
  refine lv_iinc (v := nI (13)) (lv' := [(6, .int (nI (13))), (5, .int (nI (32))), (3, .long z51), (7, .int (nI (4))), (0, .ref (kq 0 99)), (1, .ref a0), (2, .ref a1)]) hx hb d_F_write_60 hl (k := 3) rfl (sx_inc _ _) (by decide) rfl (fun ls hl => ?_)
  refine lv_lload_n hx hb d_F_write_63 rfl (lv_at hl 2 rfl) ?_
  refine lv_bipush (v := nI 8) hx hb d_F_write_64 (by decide +kernel) ?_
  refine lv_lshr hx hb d_F_write_66 rfl ?_
  refine vx_nmL (fun z54 ez54 => ?_)
  refine lv_lstore_n (lv' := [(3, .long z54), (6, .int (nI (13))), (5, .int (nI (32))), (7, .int (nI (4))), (0, .ref (kq 0 99)), (1, .ref a0), (2, .ref a1)]) hx hb d_F_write_67 rfl hl (by decide) rfl (fun ls hl => ?_)
  refine lv_iinc (v := nI (24)) (lv' := [(5, .int (nI (24))), (3, .long z54), (6, .int (nI (13))), (7, .int (nI (4))), (0, .ref (kq 0 99)), (1, .ref a0), (2, .ref a1)]) hx hb d_F_write_68 hl (k := 2) rfl (vx_dec 8 (by omega)) (by decide) rfl (fun ls hl => ?_)
  refine lv_goto (tgt := 46) hx hb d_F_write_71 (by decide) ?_
  refine lv_iload hx hb d_F_write_46 (lv_at hl 0 rfl) ?_
  refine lv_bipush (v := nI 8) hx hb d_F_write_48 (by decide +kernel) ?_
  refine lv_icmp_lt (tgt := 74) hx hb d_F_write_50 (by decide) (fun q50_54 => absurd (show 24 < 8 by have q50_54 : 24 < 8 := (nI_ltI (a := 24) (b := 8) (by omega) (by omega)).mp q50_54; exact q50_54) (by decide)) (fun _ => ?_)
  refine lv_aload_n hx hb d_F_write_53 rfl (lv_at hl 5 rfl) ?_
  refine lv_iload hx hb d_F_write_54 (lv_at hl 2 rfl) ?_
  refine lv_lload_n hx hb d_F_write_56 rfl (lv_at hl 1 rfl) ?_
  refine lv_l2i hx hb d_F_write_57 rfl ?_
  refine lv_i2b hx hb d_F_write_58 rfl ?_
  refine vx_bast hx hb hG hS hV f0 o0 (by omega) (by decide) d_F_write_59 (fun H locs X56 eX56 hS hV => ?_)
  refine lv_iinc (v := nI (14)) (lv' := [(6, .int (nI (14))), (5, .int (nI (24))), (3, .long z54), (7, .int (nI (4))), (0, .ref (kq 0 99)), (1, .ref a0), (2, .ref a1)]) hx hb d_F_write_60 hl (k := 2) rfl (sx_inc _ _) (by decide) rfl (fun ls hl => ?_)
  refine lv_lload_n hx hb d_F_write_63 rfl (lv_at hl 2 rfl) ?_
  refine lv_bipush (v := nI 8) hx hb d_F_write_64 (by decide +kernel) ?_
  refine lv_lshr hx hb d_F_write_66 rfl ?_
  refine vx_nmL (fun z57 ez57 => ?_)
  refine lv_lstore_n (lv' := [(3, .long z57), (6, .int (nI (14))), (5, .int (nI (24))), (7, .int (nI (4))), (0, .ref (kq 0 99)), (1, .ref a0), (2, .ref a1)]) hx hb d_F_write_67 rfl hl (by decide) rfl (fun ls hl => ?_)
  refine lv_iinc (v := nI (16)) (lv' := [(5, .int (nI (16))), (3, .long z57), (6, .int (nI (14))), (7, .int (nI (4))), (0, .ref (kq 0 99)), (1, .ref a0), (2, .ref a1)]) hx hb d_F_write_68 hl (k := 2) rfl (vx_dec 8 (by omega)) (by decide) rfl (fun ls hl => ?_)
  refine lv_goto (tgt := 46) hx hb d_F_write_71 (by decide) ?_
  refine lv_iload hx hb d_F_write_46 (lv_at hl 0 rfl) ?_
  refine lv_bipush (v := nI 8) hx hb d_F_write_48 (by decide +kernel) ?_
  refine lv_icmp_lt (tgt := 74) hx hb d_F_write_50 (by decide) (fun q50_57 => absurd (show 16 < 8 by have q50_57 : 16 < 8 := (nI_ltI (a := 16) (b := 8) (by omega) (by omega)).mp q50_57; exact q50_57) (by decide)) (fun _ => ?_)
  refine lv_aload_n hx hb d_F_write_53 rfl (lv_at hl 5 rfl) ?_
  refine lv_iload hx hb d_F_write_54 (lv_at hl 2 rfl) ?_
  refine lv_lload_n hx hb d_F_write_56 rfl (lv_at hl 1 rfl) ?_
  refine lv_l2i hx hb d_F_write_57 rfl ?_
  refine lv_i2b hx hb d_F_write_58 rfl ?_
  refine vx_bast hx hb hG hS hV f0 o0 (by omega) (by decide) d_F_write_59 (fun H locs X59 eX59 hS hV => ?_)
  refine lv_iinc (v := nI (15)) (lv' := [(6, .int (nI (15))), (5, .int (nI (16))), (3, .long z57), (7, .int (nI (4))), (0, .ref (kq 0 99)), (1, .ref a0), (2, .ref a1)]) hx hb d_F_write_60 hl (k := 2) rfl (sx_inc _ _) (by decide) rfl (fun ls hl => ?_)
  refine lv_lload_n hx hb d_F_write_63 rfl (lv_at hl 2 rfl) ?_
  refine lv_bipush (v := nI 8) hx hb d_F_write_64 (by decide +kernel) ?_
  refine lv_lshr hx hb d_F_write_66 rfl ?_
  refine vx_nmL (fun z60 ez60 => ?_)
  refine lv_lstore_n (lv' := [(3, .long z60), (6, .int (nI (15))), (5, .int (nI (16))), (7, .int (nI (4))), (0, .ref (kq 0 99)), (1, .ref a0), (2, .ref a1)]) hx hb d_F_write_67 rfl hl (by decide) rfl (fun ls hl => ?_)
  refine lv_iinc (v := nI (8)) (lv' := [(5, .int (nI (8))), (3, .long z60), (6, .int (nI (15))), (7, .int (nI (4))), (0, .ref (kq 0 99)), (1, .ref a0), (2, .ref a1)]) hx hb d_F_write_68 hl (k := 2) rfl (vx_dec 8 (by omega)) (by decide) rfl (fun ls hl => ?_)
  refine lv_goto (tgt := 46) hx hb d_F_write_71 (by decide) ?_
  refine lv_iload hx hb d_F_write_46 (lv_at hl 0 rfl) ?_
  refine lv_bipush (v := nI 8) hx hb d_F_write_48 (by decide +kernel) ?_
  refine lv_icmp_lt (tgt := 74) hx hb d_F_write_50 (by decide) (fun q50_60 => absurd (show 8 < 8 by have q50_60 : 8 < 8 := (nI_ltI (a := 8) (b := 8) (by omega) (by omega)).mp q50_60; exact q50_60) (by decide)) (fun _ => ?_)
  refine lv_aload_n hx hb d_F_write_53 rfl (lv_at hl 5 rfl) ?_
  refine lv_iload hx hb d_F_write_54 (lv_at hl 2 rfl) ?_
  refine lv_lload_n hx hb d_F_write_56 rfl (lv_at hl 1 rfl) ?_
  refine lv_l2i hx hb d_F_write_57 rfl ?_
  refine lv_i2b hx hb d_F_write_58 rfl ?_
  refine vx_bast hx hb hG hS hV f0 o0 (by omega) (by decide) d_F_write_59 (fun H locs X62 eX62 hS hV => ?_)
  refine lv_iinc (v := nI (16)) (lv' := [(6, .int (nI (16))), (5, .int (nI (8))), (3, .long z60), (7, .int (nI (4))), (0, .ref (kq 0 99)), (1, .ref a0), (2, .ref a1)]) hx hb d_F_write_60 hl (k := 2) rfl (sx_inc _ _) (by decide) rfl (fun ls hl => ?_)
  refine lv_lload_n hx hb d_F_write_63 rfl (lv_at hl 2 rfl) ?_
  refine lv_bipush (v := nI 8) hx hb d_F_write_64 (by decide +kernel) ?_
  refine lv_lshr hx hb d_F_write_66 rfl ?_
  refine vx_nmL (fun z63 ez63 => ?_)
  refine lv_lstore_n (lv' := [(3, .long z63), (6, .int (nI (16))), (5, .int (nI (8))), (7, .int (nI (4))), (0, .ref (kq 0 99)), (1, .ref a0), (2, .ref a1)]) hx hb d_F_write_67 rfl hl (by decide) rfl (fun ls hl => ?_)
  refine lv_iinc (v := nI (0)) (lv' := [(5, .int (nI (0))), (3, .long z63), (6, .int (nI (16))), (7, .int (nI (4))), (0, .ref (kq 0 99)), (1, .ref a0), (2, .ref a1)]) hx hb d_F_write_68 hl (k := 2) rfl (vx_dec 8 (by omega)) (by decide) rfl (fun ls hl => ?_)
  refine lv_goto (tgt := 46) hx hb d_F_write_71 (by decide) ?_
  refine lv_iload hx hb d_F_write_46 (lv_at hl 0 rfl) ?_
  refine lv_bipush (v := nI 8) hx hb d_F_write_48 (by decide +kernel) ?_
  refine lv_icmp_lt (tgt := 74) hx hb d_F_write_50 (by decide) (fun _ => ?_) (fun q50_63 => absurd (show 0 < 8 by decide) (by have q50_63 : ¬ (0 < 8) := fun z => q50_63 ((nI_ltI (a := 0) (b := 8) (by omega) (by omega)).mpr z); exact q50_63))
  refine lv_iinc (v := nI (5)) (lv' := [(7, .int (nI (5))), (5, .int (nI (0))), (3, .long z63), (6, .int (nI (16))), (0, .ref (kq 0 99)), (1, .ref a0), (2, .ref a1)]) hx hb d_F_write_74 hl (k := 3) rfl (sx_inc _ _) (by decide) rfl (fun ls hl => ?_)
  refine lv_goto (tgt := 16) hx hb d_F_write_77 (by decide) ?_
  refine lv_iload hx hb d_F_write_16 (lv_at hl 0 rfl) ?_
  refine lv_bipush (v := nI 10) hx hb d_F_write_18 (by decide +kernel) ?_
  refine lv_icmp_ge (tgt := 80) hx hb d_F_write_20 (by decide) (fun q20_64 => absurd (show 10 ≤ 5 by have q20_64 : 10 ≤ 5 := (nI_leI (a := 10) (b := 5) (by omega) (by omega)).mp q20_64; exact q20_64) (by decide)) (fun _ => ?_)
  refine lv_lload_n hx hb d_F_write_23 rfl (lv_at hl 2 rfl) ?_
  refine lv_aload_n hx hb d_F_write_24 rfl (lv_at hl 4 rfl) ?_
  refine sx_get EE (hS.1.ob (kc_n0 hC) (kc_o0 hC)) rfl i_F 6 (by decide) rfl fl_F_30 rfl d_F_write_25 ?_
  refine lv_iload hx hb d_F_write_28 (lv_at hl 0 rfl) ?_
  refine vx_lald hx hb hG hS hV (kc_a0_6 hC) (by omega) (by decide) d_F_write_30 ?_
  refine lv_iload hx hb d_F_write_31 (lv_at hl 1 rfl) ?_
  refine lv_lshl hx hb d_F_write_33 rfl ?_
  refine lv_lor hx hb d_F_write_34 ?_
  refine vx_nmL (fun z66 ez66 => ?_)
  refine lv_lstore_n (lv' := [(3, .long z66), (7, .int (nI (5))), (5, .int (nI (0))), (6, .int (nI (16))), (0, .ref (kq 0 99)), (1, .ref a0), (2, .ref a1)]) hx hb d_F_write_35 rfl hl (by decide) rfl (fun ls hl => ?_)
  refine lv_iload hx hb d_F_write_36 (lv_at hl 2 rfl) ?_
  refine lv_iload hx hb d_F_write_38 (lv_at hl 1 rfl) ?_
  refine vx_gi (sx_runS (As := [.int (nI (5))]) (rest := [.int (nI (0))]) EE (v_F_widthOf (X := X62) (by omega) hV) w_F_67 rfl ⟨rfl, rfl⟩ ⟨Nat.le_of_ble_eq_true rfl, Nat.le_of_ble_eq_true rfl⟩ ⟨Nat.zero_le _, Nat.zero_le _⟩ hl.1 rfl (Nat.le_of_ble_eq_true rfl) d_F_write_40) hS (fun H locs X_ eX_ hS hV => ?_)
  subst eX_
  refine sx_ti (y := nI 25) rfl ?_
  refine lv_iadd hx hb d_F_write_43 ?_
  refine sx_ti (y := nI (25)) (nI_add _ _) ?_
  refine lv_istore (lv' := [(5, .int (nI (25))), (3, .long z66), (7, .int (nI (5))), (6, .int (nI (16))), (0, .ref (kq 0 99)), (1, .ref a0), (2, .ref a1)]) hx hb d_F_write_44 hl (by decide) rfl (fun ls hl => ?_)
  refine lv_iload hx hb d_F_write_46 (lv_at hl 0 rfl) ?_
  refine lv_bipush (v := nI 8) hx hb d_F_write_48 (by decide +kernel) ?_
  refine lv_icmp_lt (tgt := 74) hx hb d_F_write_50 (by decide) (fun q50_66 => absurd (show 25 < 8 by have q50_66 : 25 < 8 := (nI_ltI (a := 25) (b := 8) (by omega) (by omega)).mp q50_66; exact q50_66) (by decide)) (fun _ => ?_)
  refine lv_aload_n hx hb d_F_write_53 rfl (lv_at hl 5 rfl) ?_
  refine lv_iload hx hb d_F_write_54 (lv_at hl 3 rfl) ?_
  refine lv_lload_n hx hb d_F_write_56 rfl (lv_at hl 1 rfl) ?_
  refine lv_l2i hx hb d_F_write_57 rfl ?_
  refine lv_i2b hx hb d_F_write_58 rfl ?_
  refine vx_bast hx hb hG hS hV f0 o0 (by omega) (by decide) d_F_write_59 (fun H locs X68 eX68 hS hV => ?_)
  refine lv_iinc (v := nI (17)) (lv' := [(6, .int (nI (17))), (5, .int (nI (25))), (3, .long z66), (7, .int (nI (5))), (0, .ref (kq 0 99)), (1, .ref a0), (2, .ref a1)]) hx hb d_F_write_60 hl (k := 3) rfl (sx_inc _ _) (by decide) rfl (fun ls hl => ?_)
  refine lv_lload_n hx hb d_F_write_63 rfl (lv_at hl 2 rfl) ?_
  refine lv_bipush (v := nI 8) hx hb d_F_write_64 (by decide +kernel) ?_
  refine lv_lshr hx hb d_F_write_66 rfl ?_
  refine vx_nmL (fun z69 ez69 => ?_)
  refine lv_lstore_n (lv' := [(3, .long z69), (6, .int (nI (17))), (5, .int (nI (25))), (7, .int (nI (5))), (0, .ref (kq 0 99)), (1, .ref a0), (2, .ref a1)]) hx hb d_F_write_67 rfl hl (by decide) rfl (fun ls hl => ?_)
  refine lv_iinc (v := nI (17)) (lv' := [(5, .int (nI (17))), (3, .long z69), (6, .int (nI (17))), (7, .int (nI (5))), (0, .ref (kq 0 99)), (1, .ref a0), (2, .ref a1)]) hx hb d_F_write_68 hl (k := 2) rfl (vx_dec 8 (by omega)) (by decide) rfl (fun ls hl => ?_)
  refine lv_goto (tgt := 46) hx hb d_F_write_71 (by decide) ?_
  refine lv_iload hx hb d_F_write_46 (lv_at hl 0 rfl) ?_
  refine lv_bipush (v := nI 8) hx hb d_F_write_48 (by decide +kernel) ?_
  refine lv_icmp_lt (tgt := 74) hx hb d_F_write_50 (by decide) (fun q50_69 => absurd (show 17 < 8 by have q50_69 : 17 < 8 := (nI_ltI (a := 17) (b := 8) (by omega) (by omega)).mp q50_69; exact q50_69) (by decide)) (fun _ => ?_)
  refine lv_aload_n hx hb d_F_write_53 rfl (lv_at hl 5 rfl) ?_
  refine lv_iload hx hb d_F_write_54 (lv_at hl 2 rfl) ?_
  refine lv_lload_n hx hb d_F_write_56 rfl (lv_at hl 1 rfl) ?_
  refine lv_l2i hx hb d_F_write_57 rfl ?_
  refine lv_i2b hx hb d_F_write_58 rfl ?_
  refine vx_bast hx hb hG hS hV f0 o0 (by omega) (by decide) d_F_write_59 (fun H locs X71 eX71 hS hV => ?_)
  refine lv_iinc (v := nI (18)) (lv' := [(6, .int (nI (18))), (5, .int (nI (17))), (3, .long z69), (7, .int (nI (5))), (0, .ref (kq 0 99)), (1, .ref a0), (2, .ref a1)]) hx hb d_F_write_60 hl (k := 2) rfl (sx_inc _ _) (by decide) rfl (fun ls hl => ?_)
  refine lv_lload_n hx hb d_F_write_63 rfl (lv_at hl 2 rfl) ?_
  refine lv_bipush (v := nI 8) hx hb d_F_write_64 (by decide +kernel) ?_
  refine lv_lshr hx hb d_F_write_66 rfl ?_
  refine vx_nmL (fun z72 ez72 => ?_)
  refine lv_lstore_n (lv' := [(3, .long z72), (6, .int (nI (18))), (5, .int (nI (17))), (7, .int (nI (5))), (0, .ref (kq 0 99)), (1, .ref a0), (2, .ref a1)]) hx hb d_F_write_67 rfl hl (by decide) rfl (fun ls hl => ?_)
  refine lv_iinc (v := nI (9)) (lv' := [(5, .int (nI (9))), (3, .long z72), (6, .int (nI (18))), (7, .int (nI (5))), (0, .ref (kq 0 99)), (1, .ref a0), (2, .ref a1)]) hx hb d_F_write_68 hl (k := 2) rfl (vx_dec 8 (by omega)) (by decide) rfl (fun ls hl => ?_)
  refine lv_goto (tgt := 46) hx hb d_F_write_71 (by decide) ?_
  refine lv_iload hx hb d_F_write_46 (lv_at hl 0 rfl) ?_
  refine lv_bipush (v := nI 8) hx hb d_F_write_48 (by decide +kernel) ?_
  refine lv_icmp_lt (tgt := 74) hx hb d_F_write_50 (by decide) (fun q50_72 => absurd (show 9 < 8 by have q50_72 : 9 < 8 := (nI_ltI (a := 9) (b := 8) (by omega) (by omega)).mp q50_72; exact q50_72) (by decide)) (fun _ => ?_)
  refine lv_aload_n hx hb d_F_write_53 rfl (lv_at hl 5 rfl) ?_
  refine lv_iload hx hb d_F_write_54 (lv_at hl 2 rfl) ?_
  refine lv_lload_n hx hb d_F_write_56 rfl (lv_at hl 1 rfl) ?_
  refine lv_l2i hx hb d_F_write_57 rfl ?_
  refine lv_i2b hx hb d_F_write_58 rfl ?_
  refine vx_bast hx hb hG hS hV f0 o0 (by omega) (by decide) d_F_write_59 (fun H locs X74 eX74 hS hV => ?_)
  refine lv_iinc (v := nI (19)) (lv' := [(6, .int (nI (19))), (5, .int (nI (9))), (3, .long z72), (7, .int (nI (5))), (0, .ref (kq 0 99)), (1, .ref a0), (2, .ref a1)]) hx hb d_F_write_60 hl (k := 2) rfl (sx_inc _ _) (by decide) rfl (fun ls hl => ?_)
  refine lv_lload_n hx hb d_F_write_63 rfl (lv_at hl 2 rfl) ?_
  refine lv_bipush (v := nI 8) hx hb d_F_write_64 (by decide +kernel) ?_
  refine lv_lshr hx hb d_F_write_66 rfl ?_
  refine vx_nmL (fun z75 ez75 => ?_)
  refine lv_lstore_n (lv' := [(3, .long z75), (6, .int (nI (19))), (5, .int (nI (9))), (7, .int (nI (5))), (0, .ref (kq 0 99)), (1, .ref a0), (2, .ref a1)]) hx hb d_F_write_67 rfl hl (by decide) rfl (fun ls hl => ?_)
  refine lv_iinc (v := nI (1)) (lv' := [(5, .int (nI (1))), (3, .long z75), (6, .int (nI (19))), (7, .int (nI (5))), (0, .ref (kq 0 99)), (1, .ref a0), (2, .ref a1)]) hx hb d_F_write_68 hl (k := 2) rfl (vx_dec 8 (by omega)) (by decide) rfl (fun ls hl => ?_)
  refine lv_goto (tgt := 46) hx hb d_F_write_71 (by decide) ?_
  refine lv_iload hx hb d_F_write_46 (lv_at hl 0 rfl) ?_
  refine lv_bipush (v := nI 8) hx hb d_F_write_48 (by decide +kernel) ?_
  refine lv_icmp_lt (tgt := 74) hx hb d_F_write_50 (by decide) (fun _ => ?_) (fun q50_75 => absurd (show 1 < 8 by decide) (by have q50_75 : ¬ (1 < 8) := fun z => q50_75 ((nI_ltI (a := 1) (b := 8) (by omega) (by omega)).mpr z); exact q50_75))
  refine lv_iinc (v := nI (6)) (lv' := [(7, .int (nI (6))), (5, .int (nI (1))), (3, .long z75), (6, .int (nI (19))), (0, .ref (kq 0 99)), (1, .ref a0), (2, .ref a1)]) hx hb d_F_write_74 hl (k := 3) rfl (sx_inc _ _) (by decide) rfl (fun ls hl => ?_)
  refine lv_goto (tgt := 16) hx hb d_F_write_77 (by decide) ?_
  refine lv_iload hx hb d_F_write_16 (lv_at hl 0 rfl) ?_
  refine lv_bipush (v := nI 10) hx hb d_F_write_18 (by decide +kernel) ?_
  refine lv_icmp_ge (tgt := 80) hx hb d_F_write_20 (by decide) (fun q20_76 => absurd (show 10 ≤ 6 by have q20_76 : 10 ≤ 6 := (nI_leI (a := 10) (b := 6) (by omega) (by omega)).mp q20_76; exact q20_76) (by decide)) (fun _ => ?_)
  refine lv_lload_n hx hb d_F_write_23 rfl (lv_at hl 2 rfl) ?_
  refine lv_aload_n hx hb d_F_write_24 rfl (lv_at hl 4 rfl) ?_
  refine sx_get EE (hS.1.ob (kc_n0 hC) (kc_o0 hC)) rfl i_F 6 (by decide) rfl fl_F_30 rfl d_F_write_25 ?_
  refine lv_iload hx hb d_F_write_28 (lv_at hl 0 rfl) ?_
  refine vx_lald hx hb hG hS hV (kc_a0_6 hC) (by omega) (by decide) d_F_write_30 ?_
  refine lv_iload hx hb d_F_write_31 (lv_at hl 1 rfl) ?_
  refine lv_lshl hx hb d_F_write_33 rfl ?_
  refine lv_lor hx hb d_F_write_34 ?_
  refine vx_nmL (fun z78 ez78 => ?_)
  refine lv_lstore_n (lv' := [(3, .long z78), (7, .int (nI (6))), (5, .int (nI (1))), (6, .int (nI (19))), (0, .ref (kq 0 99)), (1, .ref a0), (2, .ref a1)]) hx hb d_F_write_35 rfl hl (by decide) rfl (fun ls hl => ?_)
  refine lv_iload hx hb d_F_write_36 (lv_at hl 2 rfl) ?_
  refine lv_iload hx hb d_F_write_38 (lv_at hl 1 rfl) ?_
  refine vx_gi (sx_runS (As := [.int (nI (6))]) (rest := [.int (nI (1))]) EE (v_F_widthOf (X := X74) (by omega) hV) w_F_67 rfl ⟨rfl, rfl⟩ ⟨Nat.le_of_ble_eq_true rfl, Nat.le_of_ble_eq_true rfl⟩ ⟨Nat.zero_le _, Nat.zero_le _⟩ hl.1 rfl (Nat.le_of_ble_eq_true rfl) d_F_write_40) hS (fun H locs X_ eX_ hS hV => ?_)
  subst eX_
  refine sx_ti (y := nI 26) rfl ?_
  refine lv_iadd hx hb d_F_write_43 ?_
  refine sx_ti (y := nI (27)) (nI_add _ _) ?_
  refine lv_istore (lv' := [(5, .int (nI (27))), (3, .long z78), (7, .int (nI (6))), (6, .int (nI (19))), (0, .ref (kq 0 99)), (1, .ref a0), (2, .ref a1)]) hx hb d_F_write_44 hl (by decide) rfl (fun ls hl => ?_)
  refine lv_iload hx hb d_F_write_46 (lv_at hl 0 rfl) ?_
  refine lv_bipush (v := nI 8) hx hb d_F_write_48 (by decide +kernel) ?_
  refine lv_icmp_lt (tgt := 74) hx hb d_F_write_50 (by decide) (fun q50_78 => absurd (show 27 < 8 by have q50_78 : 27 < 8 := (nI_ltI (a := 27) (b := 8) (by omega) (by omega)).mp q50_78; exact q50_78) (by decide)) (fun _ => ?_)
  refine lv_aload_n hx hb d_F_write_53 rfl (lv_at hl 5 rfl) ?_
  refine lv_iload hx hb d_F_write_54 (lv_at hl 3 rfl) ?_
  refine lv_lload_n hx hb d_F_write_56 rfl (lv_at hl 1 rfl) ?_
  refine lv_l2i hx hb d_F_write_57 rfl ?_
  refine lv_i2b hx hb d_F_write_58 rfl ?_
  refine vx_bast hx hb hG hS hV f0 o0 (by omega) (by decide) d_F_write_59 (fun H locs X80 eX80 hS hV => ?_)
  refine lv_iinc (v := nI (20)) (lv' := [(6, .int (nI (20))), (5, .int (nI (27))), (3, .long z78), (7, .int (nI (6))), (0, .ref (kq 0 99)), (1, .ref a0), (2, .ref a1)]) hx hb d_F_write_60 hl (k := 3) rfl (sx_inc _ _) (by decide) rfl (fun ls hl => ?_)
  refine lv_lload_n hx hb d_F_write_63 rfl (lv_at hl 2 rfl) ?_
  refine lv_bipush (v := nI 8) hx hb d_F_write_64 (by decide +kernel) ?_
  refine lv_lshr hx hb d_F_write_66 rfl ?_
  refine vx_nmL (fun z81 ez81 => ?_)
  refine lv_lstore_n (lv' := [(3, .long z81), (6, .int (nI (20))), (5, .int (nI (27))), (7, .int (nI (6))), (0, .ref (kq 0 99)), (1, .ref a0), (2, .ref a1)]) hx hb d_F_write_67 rfl hl (by decide) rfl (fun ls hl => ?_)
  refine lv_iinc (v := nI (19)) (lv' := [(5, .int (nI (19))), (3, .long z81), (6, .int (nI (20))), (7, .int (nI (6))), (0, .ref (kq 0 99)), (1, .ref a0), (2, .ref a1)]) hx hb d_F_write_68 hl (k := 2) rfl (vx_dec 8 (by omega)) (by decide) rfl (fun ls hl => ?_)
  refine lv_goto (tgt := 46) hx hb d_F_write_71 (by decide) ?_
  refine lv_iload hx hb d_F_write_46 (lv_at hl 0 rfl) ?_
  refine lv_bipush (v := nI 8) hx hb d_F_write_48 (by decide +kernel) ?_
  refine lv_icmp_lt (tgt := 74) hx hb d_F_write_50 (by decide) (fun q50_81 => absurd (show 19 < 8 by have q50_81 : 19 < 8 := (nI_ltI (a := 19) (b := 8) (by omega) (by omega)).mp q50_81; exact q50_81) (by decide)) (fun _ => ?_)
  refine lv_aload_n hx hb d_F_write_53 rfl (lv_at hl 5 rfl) ?_
  refine lv_iload hx hb d_F_write_54 (lv_at hl 2 rfl) ?_
  refine lv_lload_n hx hb d_F_write_56 rfl (lv_at hl 1 rfl) ?_
  refine lv_l2i hx hb d_F_write_57 rfl ?_
  refine lv_i2b hx hb d_F_write_58 rfl ?_
  refine vx_bast hx hb hG hS hV f0 o0 (by omega) (by decide) d_F_write_59 (fun H locs X83 eX83 hS hV => ?_)
  refine lv_iinc (v := nI (21)) (lv' := [(6, .int (nI (21))), (5, .int (nI (19))), (3, .long z81), (7, .int (nI (6))), (0, .ref (kq 0 99)), (1, .ref a0), (2, .ref a1)]) hx hb d_F_write_60 hl (k := 2) rfl (sx_inc _ _) (by decide) rfl (fun ls hl => ?_)
  refine lv_lload_n hx hb d_F_write_63 rfl (lv_at hl 2 rfl) ?_
  refine lv_bipush (v := nI 8) hx hb d_F_write_64 (by decide +kernel) ?_
  refine lv_lshr hx hb d_F_write_66 rfl ?_
  refine vx_nmL (fun z84 ez84 => ?_)
  refine lv_lstore_n (lv' := [(3, .long z84), (6, .int (nI (21))), (5, .int (nI (19))), (7, .int (nI (6))), (0, .ref (kq 0 99)), (1, .ref a0), (2, .ref a1)]) hx hb d_F_write_67 rfl hl (by decide) rfl (fun ls hl => ?_)
  refine lv_iinc (v := nI (11)) (lv' := [(5, .int (nI (11))), (3, .long z84), (6, .int (nI (21))), (7, .int (nI (6))), (0, .ref (kq 0 99)), (1, .ref a0), (2, .ref a1)]) hx hb d_F_write_68 hl (k := 2) rfl (vx_dec 8 (by omega)) (by decide) rfl (fun ls hl => ?_)
  refine lv_goto (tgt := 46) hx hb d_F_write_71 (by decide) ?_
  refine lv_iload hx hb d_F_write_46 (lv_at hl 0 rfl) ?_
  refine lv_bipush (v := nI 8) hx hb d_F_write_48 (by decide +kernel) ?_
  refine lv_icmp_lt (tgt := 74) hx hb d_F_write_50 (by decide) (fun q50_84 => absurd (show 11 < 8 by have q50_84 : 11 < 8 := (nI_ltI (a := 11) (b := 8) (by omega) (by omega)).mp q50_84; exact q50_84) (by decide)) (fun _ => ?_)
  refine lv_aload_n hx hb d_F_write_53 rfl (lv_at hl 5 rfl) ?_
  refine lv_iload hx hb d_F_write_54 (lv_at hl 2 rfl) ?_
  refine lv_lload_n hx hb d_F_write_56 rfl (lv_at hl 1 rfl) ?_
  refine lv_l2i hx hb d_F_write_57 rfl ?_
  refine lv_i2b hx hb d_F_write_58 rfl ?_
  refine vx_bast hx hb hG hS hV f0 o0 (by omega) (by decide) d_F_write_59 (fun H locs X86 eX86 hS hV => ?_)
  refine lv_iinc (v := nI (22)) (lv' := [(6, .int (nI (22))), (5, .int (nI (11))), (3, .long z84), (7, .int (nI (6))), (0, .ref (kq 0 99)), (1, .ref a0), (2, .ref a1)]) hx hb d_F_write_60 hl (k := 2) rfl (sx_inc _ _) (by decide) rfl (fun ls hl => ?_)
  refine lv_lload_n hx hb d_F_write_63 rfl (lv_at hl 2 rfl) ?_
  refine lv_bipush (v := nI 8) hx hb d_F_write_64 (by decide +kernel) ?_
  refine lv_lshr hx hb d_F_write_66 rfl ?_
  refine vx_nmL (fun z87 ez87 => ?_)
  refine lv_lstore_n (lv' := [(3, .long z87), (6, .int (nI (22))), (5, .int (nI (11))), (7, .int (nI (6))), (0, .ref (kq 0 99)), (1, .ref a0), (2, .ref a1)]) hx hb d_F_write_67 rfl hl (by decide) rfl (fun ls hl => ?_)
  refine lv_iinc (v := nI (3)) (lv' := [(5, .int (nI (3))), (3, .long z87), (6, .int (nI (22))), (7, .int (nI (6))), (0, .ref (kq 0 99)), (1, .ref a0), (2, .ref a1)]) hx hb d_F_write_68 hl (k := 2) rfl (vx_dec 8 (by omega)) (by decide) rfl (fun ls hl => ?_)
  refine lv_goto (tgt := 46) hx hb d_F_write_71 (by decide) ?_
  refine lv_iload hx hb d_F_write_46 (lv_at hl 0 rfl) ?_
  refine lv_bipush (v := nI 8) hx hb d_F_write_48 (by decide +kernel) ?_
  refine lv_icmp_lt (tgt := 74) hx hb d_F_write_50 (by decide) (fun _ => ?_) (fun q50_87 => absurd (show 3 < 8 by decide) (by have q50_87 : ¬ (3 < 8) := fun z => q50_87 ((nI_ltI (a := 3) (b := 8) (by omega) (by omega)).mpr z); exact q50_87))
  refine lv_iinc (v := nI (7)) (lv' := [(7, .int (nI (7))), (5, .int (nI (3))), (3, .long z87), (6, .int (nI (22))), (0, .ref (kq 0 99)), (1, .ref a0), (2, .ref a1)]) hx hb d_F_write_74 hl (k := 3) rfl (sx_inc _ _) (by decide) rfl (fun ls hl => ?_)
  refine lv_goto (tgt := 16) hx hb d_F_write_77 (by decide) ?_
  refine lv_iload hx hb d_F_write_16 (lv_at hl 0 rfl) ?_
  refine lv_bipush (v := nI 10) hx hb d_F_write_18 (by decide +kernel) ?_
  refine lv_icmp_ge (tgt := 80) hx hb d_F_write_20 (by decide) (fun q20_88 => absurd (show 10 ≤ 7 by have q20_88 : 10 ≤ 7 := (nI_leI (a := 10) (b := 7) (by omega) (by omega)).mp q20_88; exact q20_88) (by decide)) (fun _ => ?_)
  refine lv_lload_n hx hb d_F_write_23 rfl (lv_at hl 2 rfl) ?_
  refine lv_aload_n hx hb d_F_write_24 rfl (lv_at hl 4 rfl) ?_
  refine sx_get EE (hS.1.ob (kc_n0 hC) (kc_o0 hC)) rfl i_F 6 (by decide) rfl fl_F_30 rfl d_F_write_25 ?_
  refine lv_iload hx hb d_F_write_28 (lv_at hl 0 rfl) ?_
  refine vx_lald hx hb hG hS hV (kc_a0_6 hC) (by omega) (by decide) d_F_write_30 ?_
  refine lv_iload hx hb d_F_write_31 (lv_at hl 1 rfl) ?_
  refine lv_lshl hx hb d_F_write_33 rfl ?_
  refine lv_lor hx hb d_F_write_34 ?_
  refine vx_nmL (fun z90 ez90 => ?_)
  refine lv_lstore_n (lv' := [(3, .long z90), (7, .int (nI (7))), (5, .int (nI (3))), (6, .int (nI (22))), (0, .ref (kq 0 99)), (1, .ref a0), (2, .ref a1)]) hx hb d_F_write_35 rfl hl (by decide) rfl (fun ls hl => ?_)
  refine lv_iload hx hb d_F_write_36 (lv_at hl 2 rfl) ?_
  refine lv_iload hx hb d_F_write_38 (lv_at hl 1 rfl) ?_
  refine vx_gi (sx_runS (As := [.int (nI (7))]) (rest := [.int (nI (3))]) EE (v_F_widthOf (X := X86) (by omega) hV) w_F_67 rfl ⟨rfl, rfl⟩ ⟨Nat.le_of_ble_eq_true rfl, Nat.le_of_ble_eq_true rfl⟩ ⟨Nat.zero_le _, Nat.zero_le _⟩ hl.1 rfl (Nat.le_of_ble_eq_true rfl) d_F_write_40) hS (fun H locs X_ eX_ hS hV => ?_)
  subst eX_
  refine sx_ti (y := nI 25) rfl ?_
  refine lv_iadd hx hb d_F_write_43 ?_
  refine sx_ti (y := nI (28)) (nI_add _ _) ?_
  refine lv_istore (lv' := [(5, .int (nI (28))), (3, .long z90), (7, .int (nI (7))), (6, .int (nI (22))), (0, .ref (kq 0 99)), (1, .ref a0), (2, .ref a1)]) hx hb d_F_write_44 hl (by decide) rfl (fun ls hl => ?_)
  refine lv_iload hx hb d_F_write_46 (lv_at hl 0 rfl) ?_
  refine lv_bipush (v := nI 8) hx hb d_F_write_48 (by decide +kernel) ?_
  refine lv_icmp_lt (tgt := 74) hx hb d_F_write_50 (by decide) (fun q50_90 => absurd (show 28 < 8 by have q50_90 : 28 < 8 := (nI_ltI (a := 28) (b := 8) (by omega) (by omega)).mp q50_90; exact q50_90) (by decide)) (fun _ => ?_)
  refine lv_aload_n hx hb d_F_write_53 rfl (lv_at hl 5 rfl) ?_
  refine lv_iload hx hb d_F_write_54 (lv_at hl 3 rfl) ?_
  refine lv_lload_n hx hb d_F_write_56 rfl (lv_at hl 1 rfl) ?_
  refine lv_l2i hx hb d_F_write_57 rfl ?_
  refine lv_i2b hx hb d_F_write_58 rfl ?_
  refine vx_bast hx hb hG hS hV f0 o0 (by omega) (by decide) d_F_write_59 (fun H locs X92 eX92 hS hV => ?_)
  refine lv_iinc (v := nI (23)) (lv' := [(6, .int (nI (23))), (5, .int (nI (28))), (3, .long z90), (7, .int (nI (7))), (0, .ref (kq 0 99)), (1, .ref a0), (2, .ref a1)]) hx hb d_F_write_60 hl (k := 3) rfl (sx_inc _ _) (by decide) rfl (fun ls hl => ?_)
  refine lv_lload_n hx hb d_F_write_63 rfl (lv_at hl 2 rfl) ?_
  refine lv_bipush (v := nI 8) hx hb d_F_write_64 (by decide +kernel) ?_
  refine lv_lshr hx hb d_F_write_66 rfl ?_
  refine vx_nmL (fun z93 ez93 => ?_)
  refine lv_lstore_n (lv' := [(3, .long z93), (6, .int (nI (23))), (5, .int (nI (28))), (7, .int (nI (7))), (0, .ref (kq 0 99)), (1, .ref a0), (2, .ref a1)]) hx hb d_F_write_67 rfl hl (by decide) rfl (fun ls hl => ?_)
  refine lv_iinc (v := nI (20)) (lv' := [(5, .int (nI (20))), (3, .long z93), (6, .int (nI (23))), (7, .int (nI (7))), (0, .ref (kq 0 99)), (1, .ref a0), (2, .ref a1)]) hx hb d_F_write_68 hl (k := 2) rfl (vx_dec 8 (by omega)) (by decide) rfl (fun ls hl => ?_)
  refine lv_goto (tgt := 46) hx hb d_F_write_71 (by decide) ?_
  refine lv_iload hx hb d_F_write_46 (lv_at hl 0 rfl) ?_
  refine lv_bipush (v := nI 8) hx hb d_F_write_48 (by decide +kernel) ?_
  refine lv_icmp_lt (tgt := 74) hx hb d_F_write_50 (by decide) (fun q50_93 => absurd (show 20 < 8 by have q50_93 : 20 < 8 := (nI_ltI (a := 20) (b := 8) (by omega) (by omega)).mp q50_93; exact q50_93) (by decide)) (fun _ => ?_)
  refine lv_aload_n hx hb d_F_write_53 rfl (lv_at hl 5 rfl) ?_
  refine lv_iload hx hb d_F_write_54 (lv_at hl 2 rfl) ?_
  refine lv_lload_n hx hb d_F_write_56 rfl (lv_at hl 1 rfl) ?_
  refine lv_l2i hx hb d_F_write_57 rfl ?_
  refine lv_i2b hx hb d_F_write_58 rfl ?_
  refine vx_bast hx hb hG hS hV f0 o0 (by omega) (by decide) d_F_write_59 (fun H locs X95 eX95 hS hV => ?_)
  refine lv_iinc (v := nI (24)) (lv' := [(6, .int (nI (24))), (5, .int (nI (20))), (3, .long z93), (7, .int (nI (7))), (0, .ref (kq 0 99)), (1, .ref a0), (2, .ref a1)]) hx hb d_F_write_60 hl (k := 2) rfl (sx_inc _ _) (by decide) rfl (fun ls hl => ?_)
  refine lv_lload_n hx hb d_F_write_63 rfl (lv_at hl 2 rfl) ?_
  refine lv_bipush (v := nI 8) hx hb d_F_write_64 (by decide +kernel) ?_
  refine lv_lshr hx hb d_F_write_66 rfl ?_
  refine vx_nmL (fun z96 ez96 => ?_)
  refine lv_lstore_n (lv' := [(3, .long z96), (6, .int (nI (24))), (5, .int (nI (20))), (7, .int (nI (7))), (0, .ref (kq 0 99)), (1, .ref a0), (2, .ref a1)]) hx hb d_F_write_67 rfl hl (by decide) rfl (fun ls hl => ?_)
  refine lv_iinc (v := nI (12)) (lv' := [(5, .int (nI (12))), (3, .long z96), (6, .int (nI (24))), (7, .int (nI (7))), (0, .ref (kq 0 99)), (1, .ref a0), (2, .ref a1)]) hx hb d_F_write_68 hl (k := 2) rfl (vx_dec 8 (by omega)) (by decide) rfl (fun ls hl => ?_)
  refine lv_goto (tgt := 46) hx hb d_F_write_71 (by decide) ?_
  refine lv_iload hx hb d_F_write_46 (lv_at hl 0 rfl) ?_
  refine lv_bipush (v := nI 8) hx hb d_F_write_48 (by decide +kernel) ?_
  refine lv_icmp_lt (tgt := 74) hx hb d_F_write_50 (by decide) (fun q50_96 => absurd (show 12 < 8 by have q50_96 : 12 < 8 := (nI_ltI (a := 12) (b := 8) (by omega) (by omega)).mp q50_96; exact q50_96) (by decide)) (fun _ => ?_)
  refine lv_aload_n hx hb d_F_write_53 rfl (lv_at hl 5 rfl) ?_
  refine lv_iload hx hb d_F_write_54 (lv_at hl 2 rfl) ?_
  refine lv_lload_n hx hb d_F_write_56 rfl (lv_at hl 1 rfl) ?_
  refine lv_l2i hx hb d_F_write_57 rfl ?_
  refine lv_i2b hx hb d_F_write_58 rfl ?_
  refine vx_bast hx hb hG hS hV f0 o0 (by omega) (by decide) d_F_write_59 (fun H locs X98 eX98 hS hV => ?_)
  refine lv_iinc (v := nI (25)) (lv' := [(6, .int (nI (25))), (5, .int (nI (12))), (3, .long z96), (7, .int (nI (7))), (0, .ref (kq 0 99)), (1, .ref a0), (2, .ref a1)]) hx hb d_F_write_60 hl (k := 2) rfl (sx_inc _ _) (by decide) rfl (fun ls hl => ?_)
  refine lv_lload_n hx hb d_F_write_63 rfl (lv_at hl 2 rfl) ?_
  refine lv_bipush (v := nI 8) hx hb d_F_write_64 (by decide +kernel) ?_
  refine lv_lshr hx hb d_F_write_66 rfl ?_
  refine vx_nmL (fun z99 ez99 => ?_)
  refine lv_lstore_n (lv' := [(3, .long z99), (6, .int (nI (25))), (5, .int (nI (12))), (7, .int (nI (7))), (0, .ref (kq 0 99)), (1, .ref a0), (2, .ref a1)]) hx hb d_F_write_67 rfl hl (by decide) rfl (fun ls hl => ?_)
  refine lv_iinc (v := nI (4)) (lv' := [(5, .int (nI (4))), (3, .long z99), (6, .int (nI (25))), (7, .int (nI (7))), (0, .ref (kq 0 99)), (1, .ref a0), (2, .ref a1)]) hx hb d_F_write_68 hl (k := 2) rfl (vx_dec 8 (by omega)) (by decide) rfl (fun ls hl => ?_)
  refine lv_goto (tgt := 46) hx hb d_F_write_71 (by decide) ?_
  refine lv_iload hx hb d_F_write_46 (lv_at hl 0 rfl) ?_
  refine lv_bipush (v := nI 8) hx hb d_F_write_48 (by decide +kernel) ?_
  refine lv_icmp_lt (tgt := 74) hx hb d_F_write_50 (by decide) (fun _ => ?_) (fun q50_99 => absurd (show 4 < 8 by decide) (by have q50_99 : ¬ (4 < 8) := fun z => q50_99 ((nI_ltI (a := 4) (b := 8) (by omega) (by omega)).mpr z); exact q50_99))
  refine lv_iinc (v := nI (8)) (lv' := [(7, .int (nI (8))), (5, .int (nI (4))), (3, .long z99), (6, .int (nI (25))), (0, .ref (kq 0 99)), (1, .ref a0), (2, .ref a1)]) hx hb d_F_write_74 hl (k := 3) rfl (sx_inc _ _) (by decide) rfl (fun ls hl => ?_)
  refine lv_goto (tgt := 16) hx hb d_F_write_77 (by decide) ?_
  refine lv_iload hx hb d_F_write_16 (lv_at hl 0 rfl) ?_
  refine lv_bipush (v := nI 10) hx hb d_F_write_18 (by decide +kernel) ?_
  refine lv_icmp_ge (tgt := 80) hx hb d_F_write_20 (by decide) (fun q20_100 => absurd (show 10 ≤ 8 by have q20_100 : 10 ≤ 8 := (nI_leI (a := 10) (b := 8) (by omega) (by omega)).mp q20_100; exact q20_100) (by decide)) (fun _ => ?_)
  refine lv_lload_n hx hb d_F_write_23 rfl (lv_at hl 2 rfl) ?_
  refine lv_aload_n hx hb d_F_write_24 rfl (lv_at hl 4 rfl) ?_
  refine sx_get EE (hS.1.ob (kc_n0 hC) (kc_o0 hC)) rfl i_F 6 (by decide) rfl fl_F_30 rfl d_F_write_25 ?_
  refine lv_iload hx hb d_F_write_28 (lv_at hl 0 rfl) ?_
  refine vx_lald hx hb hG hS hV (kc_a0_6 hC) (by omega) (by decide) d_F_write_30 ?_
  refine lv_iload hx hb d_F_write_31 (lv_at hl 1 rfl) ?_
  refine lv_lshl hx hb d_F_write_33 rfl ?_
  refine lv_lor hx hb d_F_write_34 ?_
  refine vx_nmL (fun z102 ez102 => ?_)
  refine lv_lstore_n (lv' := [(3, .long z102), (7, .int (nI (8))), (5, .int (nI (4))), (6, .int (nI (25))), (0, .ref (kq 0 99)), (1, .ref a0), (2, .ref a1)]) hx hb d_F_write_35 rfl hl (by decide) rfl (fun ls hl => ?_)
  refine lv_iload hx hb d_F_write_36 (lv_at hl 2 rfl) ?_
  refine lv_iload hx hb d_F_write_38 (lv_at hl 1 rfl) ?_
  refine vx_gi (sx_runS (As := [.int (nI (8))]) (rest := [.int (nI (4))]) EE (v_F_widthOf (X := X98) (by omega) hV) w_F_67 rfl ⟨rfl, rfl⟩ ⟨Nat.le_of_ble_eq_true rfl, Nat.le_of_ble_eq_true rfl⟩ ⟨Nat.zero_le _, Nat.zero_le _⟩ hl.1 rfl (Nat.le_of_ble_eq_true rfl) d_F_write_40) hS (fun H locs X_ eX_ hS hV => ?_)
  subst eX_
  refine sx_ti (y := nI 26) rfl ?_
  refine lv_iadd hx hb d_F_write_43 ?_
  refine sx_ti (y := nI (30)) (nI_add _ _) ?_
  refine lv_istore (lv' := [(5, .int (nI (30))), (3, .long z102), (7, .int (nI (8))), (6, .int (nI (25))), (0, .ref (kq 0 99)), (1, .ref a0), (2, .ref a1)]) hx hb d_F_write_44 hl (by decide) rfl (fun ls hl => ?_)
  refine lv_iload hx hb d_F_write_46 (lv_at hl 0 rfl) ?_
  refine lv_bipush (v := nI 8) hx hb d_F_write_48 (by decide +kernel) ?_
  refine lv_icmp_lt (tgt := 74) hx hb d_F_write_50 (by decide) (fun q50_102 => absurd (show 30 < 8 by have q50_102 : 30 < 8 := (nI_ltI (a := 30) (b := 8) (by omega) (by omega)).mp q50_102; exact q50_102) (by decide)) (fun _ => ?_)
  refine lv_aload_n hx hb d_F_write_53 rfl (lv_at hl 5 rfl) ?_
  refine lv_iload hx hb d_F_write_54 (lv_at hl 3 rfl) ?_
  refine lv_lload_n hx hb d_F_write_56 rfl (lv_at hl 1 rfl) ?_
  refine lv_l2i hx hb d_F_write_57 rfl ?_
  refine lv_i2b hx hb d_F_write_58 rfl ?_
  refine vx_bast hx hb hG hS hV f0 o0 (by omega) (by decide) d_F_write_59 (fun H locs X104 eX104 hS hV => ?_)
  refine lv_iinc (v := nI (26)) (lv' := [(6, .int (nI (26))), (5, .int (nI (30))), (3, .long z102), (7, .int (nI (8))), (0, .ref (kq 0 99)), (1, .ref a0), (2, .ref a1)]) hx hb d_F_write_60 hl (k := 3) rfl (sx_inc _ _) (by decide) rfl (fun ls hl => ?_)
  refine lv_lload_n hx hb d_F_write_63 rfl (lv_at hl 2 rfl) ?_
  refine lv_bipush (v := nI 8) hx hb d_F_write_64 (by decide +kernel) ?_
  refine lv_lshr hx hb d_F_write_66 rfl ?_
  refine vx_nmL (fun z105 ez105 => ?_)
  refine lv_lstore_n (lv' := [(3, .long z105), (6, .int (nI (26))), (5, .int (nI (30))), (7, .int (nI (8))), (0, .ref (kq 0 99)), (1, .ref a0), (2, .ref a1)]) hx hb d_F_write_67 rfl hl (by decide) rfl (fun ls hl => ?_)
  refine lv_iinc (v := nI (22)) (lv' := [(5, .int (nI (22))), (3, .long z105), (6, .int (nI (26))), (7, .int (nI (8))), (0, .ref (kq 0 99)), (1, .ref a0), (2, .ref a1)]) hx hb d_F_write_68 hl (k := 2) rfl (vx_dec 8 (by omega)) (by decide) rfl (fun ls hl => ?_)
  refine lv_goto (tgt := 46) hx hb d_F_write_71 (by decide) ?_
  refine lv_iload hx hb d_F_write_46 (lv_at hl 0 rfl) ?_
  refine lv_bipush (v := nI 8) hx hb d_F_write_48 (by decide +kernel) ?_
  refine lv_icmp_lt (tgt := 74) hx hb d_F_write_50 (by decide) (fun q50_105 => absurd (show 22 < 8 by have q50_105 : 22 < 8 := (nI_ltI (a := 22) (b := 8) (by omega) (by omega)).mp q50_105; exact q50_105) (by decide)) (fun _ => ?_)
  refine lv_aload_n hx hb d_F_write_53 rfl (lv_at hl 5 rfl) ?_
  refine lv_iload hx hb d_F_write_54 (lv_at hl 2 rfl) ?_
  refine lv_lload_n hx hb d_F_write_56 rfl (lv_at hl 1 rfl) ?_
  refine lv_l2i hx hb d_F_write_57 rfl ?_
  refine lv_i2b hx hb d_F_write_58 rfl ?_
  refine vx_bast hx hb hG hS hV f0 o0 (by omega) (by decide) d_F_write_59 (fun H locs X107 eX107 hS hV => ?_)
  refine lv_iinc (v := nI (27)) (lv' := [(6, .int (nI (27))), (5, .int (nI (22))), (3, .long z105), (7, .int (nI (8))), (0, .ref (kq 0 99)), (1, .ref a0), (2, .ref a1)]) hx hb d_F_write_60 hl (k := 2) rfl (sx_inc _ _) (by decide) rfl (fun ls hl => ?_)
  refine lv_lload_n hx hb d_F_write_63 rfl (lv_at hl 2 rfl) ?_
  refine lv_bipush (v := nI 8) hx hb d_F_write_64 (by decide +kernel) ?_
  refine lv_lshr hx hb d_F_write_66 rfl ?_
  refine vx_nmL (fun z108 ez108 => ?_)
  refine lv_lstore_n (lv' := [(3, .long z108), (6, .int (nI (27))), (5, .int (nI (22))), (7, .int (nI (8))), (0, .ref (kq 0 99)), (1, .ref a0), (2, .ref a1)]) hx hb d_F_write_67 rfl hl (by decide) rfl (fun ls hl => ?_)
  refine lv_iinc (v := nI (14)) (lv' := [(5, .int (nI (14))), (3, .long z108), (6, .int (nI (27))), (7, .int (nI (8))), (0, .ref (kq 0 99)), (1, .ref a0), (2, .ref a1)]) hx hb d_F_write_68 hl (k := 2) rfl (vx_dec 8 (by omega)) (by decide) rfl (fun ls hl => ?_)
  refine lv_goto (tgt := 46) hx hb d_F_write_71 (by decide) ?_
  refine lv_iload hx hb d_F_write_46 (lv_at hl 0 rfl) ?_
  refine lv_bipush (v := nI 8) hx hb d_F_write_48 (by decide +kernel) ?_
  refine lv_icmp_lt (tgt := 74) hx hb d_F_write_50 (by decide) (fun q50_108 => absurd (show 14 < 8 by have q50_108 : 14 < 8 := (nI_ltI (a := 14) (b := 8) (by omega) (by omega)).mp q50_108; exact q50_108) (by decide)) (fun _ => ?_)
  refine lv_aload_n hx hb d_F_write_53 rfl (lv_at hl 5 rfl) ?_
  refine lv_iload hx hb d_F_write_54 (lv_at hl 2 rfl) ?_
  refine lv_lload_n hx hb d_F_write_56 rfl (lv_at hl 1 rfl) ?_
  refine lv_l2i hx hb d_F_write_57 rfl ?_
  refine lv_i2b hx hb d_F_write_58 rfl ?_
  refine vx_bast hx hb hG hS hV f0 o0 (by omega) (by decide) d_F_write_59 (fun H locs X110 eX110 hS hV => ?_)
  refine lv_iinc (v := nI (28)) (lv' := [(6, .int (nI (28))), (5, .int (nI (14))), (3, .long z108), (7, .int (nI (8))), (0, .ref (kq 0 99)), (1, .ref a0), (2, .ref a1)]) hx hb d_F_write_60 hl (k := 2) rfl (sx_inc _ _) (by decide) rfl (fun ls hl => ?_)
  refine lv_lload_n hx hb d_F_write_63 rfl (lv_at hl 2 rfl) ?_
  refine lv_bipush (v := nI 8) hx hb d_F_write_64 (by decide +kernel) ?_
  refine lv_lshr hx hb d_F_write_66 rfl ?_
  refine vx_nmL (fun z111 ez111 => ?_)
  refine lv_lstore_n (lv' := [(3, .long z111), (6, .int (nI (28))), (5, .int (nI (14))), (7, .int (nI (8))), (0, .ref (kq 0 99)), (1, .ref a0), (2, .ref a1)]) hx hb d_F_write_67 rfl hl (by decide) rfl (fun ls hl => ?_)
  refine lv_iinc (v := nI (6)) (lv' := [(5, .int (nI (6))), (3, .long z111), (6, .int (nI (28))), (7, .int (nI (8))), (0, .ref (kq 0 99)), (1, .ref a0), (2, .ref a1)]) hx hb d_F_write_68 hl (k := 2) rfl (vx_dec 8 (by omega)) (by decide) rfl (fun ls hl => ?_)
  refine lv_goto (tgt := 46) hx hb d_F_write_71 (by decide) ?_
  refine lv_iload hx hb d_F_write_46 (lv_at hl 0 rfl) ?_
  refine lv_bipush (v := nI 8) hx hb d_F_write_48 (by decide +kernel) ?_
  refine lv_icmp_lt (tgt := 74) hx hb d_F_write_50 (by decide) (fun _ => ?_) (fun q50_111 => absurd (show 6 < 8 by decide) (by have q50_111 : ¬ (6 < 8) := fun z => q50_111 ((nI_ltI (a := 6) (b := 8) (by omega) (by omega)).mpr z); exact q50_111))
  refine lv_iinc (v := nI (9)) (lv' := [(7, .int (nI (9))), (5, .int (nI (6))), (3, .long z111), (6, .int (nI (28))), (0, .ref (kq 0 99)), (1, .ref a0), (2, .ref a1)]) hx hb d_F_write_74 hl (k := 3) rfl (sx_inc _ _) (by decide) rfl (fun ls hl => ?_)
  refine lv_goto (tgt := 16) hx hb d_F_write_77 (by decide) ?_
  refine lv_iload hx hb d_F_write_16 (lv_at hl 0 rfl) ?_
  refine lv_bipush (v := nI 10) hx hb d_F_write_18 (by decide +kernel) ?_
  refine lv_icmp_ge (tgt := 80) hx hb d_F_write_20 (by decide) (fun q20_112 => absurd (show 10 ≤ 9 by have q20_112 : 10 ≤ 9 := (nI_leI (a := 10) (b := 9) (by omega) (by omega)).mp q20_112; exact q20_112) (by decide)) (fun _ => ?_)
  refine lv_lload_n hx hb d_F_write_23 rfl (lv_at hl 2 rfl) ?_
  refine lv_aload_n hx hb d_F_write_24 rfl (lv_at hl 4 rfl) ?_
  refine sx_get EE (hS.1.ob (kc_n0 hC) (kc_o0 hC)) rfl i_F 6 (by decide) rfl fl_F_30 rfl d_F_write_25 ?_
  refine lv_iload hx hb d_F_write_28 (lv_at hl 0 rfl) ?_
  refine vx_lald hx hb hG hS hV (kc_a0_6 hC) (by omega) (by decide) d_F_write_30 ?_
  refine lv_iload hx hb d_F_write_31 (lv_at hl 1 rfl) ?_
  refine lv_lshl hx hb d_F_write_33 rfl ?_
  refine lv_lor hx hb d_F_write_34 ?_
  refine vx_nmL (fun z114 ez114 => ?_)
  refine lv_lstore_n (lv' := [(3, .long z114), (7, .int (nI (9))), (5, .int (nI (6))), (6, .int (nI (28))), (0, .ref (kq 0 99)), (1, .ref a0), (2, .ref a1)]) hx hb d_F_write_35 rfl hl (by decide) rfl (fun ls hl => ?_)
  refine lv_iload hx hb d_F_write_36 (lv_at hl 2 rfl) ?_
  refine lv_iload hx hb d_F_write_38 (lv_at hl 1 rfl) ?_
  refine vx_gi (sx_runS (As := [.int (nI (9))]) (rest := [.int (nI (6))]) EE (v_F_widthOf (X := X110) (by omega) hV) w_F_67 rfl ⟨rfl, rfl⟩ ⟨Nat.le_of_ble_eq_true rfl, Nat.le_of_ble_eq_true rfl⟩ ⟨Nat.zero_le _, Nat.zero_le _⟩ hl.1 rfl (Nat.le_of_ble_eq_true rfl) d_F_write_40) hS (fun H locs X_ eX_ hS hV => ?_)
  subst eX_
  refine sx_ti (y := nI 25) rfl ?_
  refine lv_iadd hx hb d_F_write_43 ?_
  refine sx_ti (y := nI (31)) (nI_add _ _) ?_
  refine lv_istore (lv' := [(5, .int (nI (31))), (3, .long z114), (7, .int (nI (9))), (6, .int (nI (28))), (0, .ref (kq 0 99)), (1, .ref a0), (2, .ref a1)]) hx hb d_F_write_44 hl (by decide) rfl (fun ls hl => ?_)
  refine lv_iload hx hb d_F_write_46 (lv_at hl 0 rfl) ?_
  refine lv_bipush (v := nI 8) hx hb d_F_write_48 (by decide +kernel) ?_
  refine lv_icmp_lt (tgt := 74) hx hb d_F_write_50 (by decide) (fun q50_114 => absurd (show 31 < 8 by have q50_114 : 31 < 8 := (nI_ltI (a := 31) (b := 8) (by omega) (by omega)).mp q50_114; exact q50_114) (by decide)) (fun _ => ?_)
  refine lv_aload_n hx hb d_F_write_53 rfl (lv_at hl 5 rfl) ?_
  refine lv_iload hx hb d_F_write_54 (lv_at hl 3 rfl) ?_
  refine lv_lload_n hx hb d_F_write_56 rfl (lv_at hl 1 rfl) ?_
  refine lv_l2i hx hb d_F_write_57 rfl ?_
  refine lv_i2b hx hb d_F_write_58 rfl ?_
  refine vx_bast hx hb hG hS hV f0 o0 (by omega) (by decide) d_F_write_59 (fun H locs X116 eX116 hS hV => ?_)
  refine lv_iinc (v := nI (29)) (lv' := [(6, .int (nI (29))), (5, .int (nI (31))), (3, .long z114), (7, .int (nI (9))), (0, .ref (kq 0 99)), (1, .ref a0), (2, .ref a1)]) hx hb d_F_write_60 hl (k := 3) rfl (sx_inc _ _) (by decide) rfl (fun ls hl => ?_)
  refine lv_lload_n hx hb d_F_write_63 rfl (lv_at hl 2 rfl) ?_
  refine lv_bipush (v := nI 8) hx hb d_F_write_64 (by decide +kernel) ?_
  refine lv_lshr hx hb d_F_write_66 rfl ?_
  refine vx_nmL (fun z117 ez117 => ?_)
  refine lv_lstore_n (lv' := [(3, .long z117), (6, .int (nI (29))), (5, .int (nI (31))), (7, .int (nI (9))), (0, .ref (kq 0 99)), (1, .ref a0), (2, .ref a1)]) hx hb d_F_write_67 rfl hl (by decide) rfl (fun ls hl => ?_)
  refine lv_iinc (v := nI (23)) (lv' := [(5, .int (nI (23))), (3, .long z117), (6, .int (nI (29))), (7, .int (nI (9))), (0, .ref (kq 0 99)), (1, .ref a0), (2, .ref a1)]) hx hb d_F_write_68 hl (k := 2) rfl (vx_dec 8 (by omega)) (by decide) rfl (fun ls hl => ?_)
  refine lv_goto (tgt := 46) hx hb d_F_write_71 (by decide) ?_
  refine lv_iload hx hb d_F_write_46 (lv_at hl 0 rfl) ?_
  refine lv_bipush (v := nI 8) hx hb d_F_write_48 (by decide +kernel) ?_
  refine lv_icmp_lt (tgt := 74) hx hb d_F_write_50 (by decide) (fun q50_117 => absurd (show 23 < 8 by have q50_117 : 23 < 8 := (nI_ltI (a := 23) (b := 8) (by omega) (by omega)).mp q50_117; exact q50_117) (by decide)) (fun _ => ?_)
  refine lv_aload_n hx hb d_F_write_53 rfl (lv_at hl 5 rfl) ?_
  refine lv_iload hx hb d_F_write_54 (lv_at hl 2 rfl) ?_
  refine lv_lload_n hx hb d_F_write_56 rfl (lv_at hl 1 rfl) ?_
  refine lv_l2i hx hb d_F_write_57 rfl ?_
  refine lv_i2b hx hb d_F_write_58 rfl ?_
  refine vx_bast hx hb hG hS hV f0 o0 (by omega) (by decide) d_F_write_59 (fun H locs X119 eX119 hS hV => ?_)
  refine lv_iinc (v := nI (30)) (lv' := [(6, .int (nI (30))), (5, .int (nI (23))), (3, .long z117), (7, .int (nI (9))), (0, .ref (kq 0 99)), (1, .ref a0), (2, .ref a1)]) hx hb d_F_write_60 hl (k := 2) rfl (sx_inc _ _) (by decide) rfl (fun ls hl => ?_)
  refine lv_lload_n hx hb d_F_write_63 rfl (lv_at hl 2 rfl) ?_
  refine lv_bipush (v := nI 8) hx hb d_F_write_64 (by decide +kernel) ?_
  refine lv_lshr hx hb d_F_write_66 rfl ?_
  refine vx_nmL (fun z120 ez120 => ?_)
  refine lv_lstore_n (lv' := [(3, .long z120), (6, .int (nI (30))), (5, .int (nI (23))), (7, .int (nI (9))), (0, .ref (kq 0 99)), (1, .ref a0), (2, .ref a1)]) hx hb d_F_write_67 rfl hl (by decide) rfl (fun ls hl => ?_)
  refine lv_iinc (v := nI (15)) (lv' := [(5, .int (nI (15))), (3, .long z120), (6, .int (nI (30))), (7, .int (nI (9))), (0, .ref (kq 0 99)), (1, .ref a0), (2, .ref a1)]) hx hb d_F_write_68 hl (k := 2) rfl (vx_dec 8 (by omega)) (by decide) rfl (fun ls hl => ?_)
  refine lv_goto (tgt := 46) hx hb d_F_write_71 (by decide) ?_
  refine lv_iload hx hb d_F_write_46 (lv_at hl 0 rfl) ?_
  refine lv_bipush (v := nI 8) hx hb d_F_write_48 (by decide +kernel) ?_
  refine lv_icmp_lt (tgt := 74) hx hb d_F_write_50 (by decide) (fun q50_120 => absurd (show 15 < 8 by have q50_120 : 15 < 8 := (nI_ltI (a := 15) (b := 8) (by omega) (by omega)).mp q50_120; exact q50_120) (by decide)) (fun _ => ?_)
  refine lv_aload_n hx hb d_F_write_53 rfl (lv_at hl 5 rfl) ?_
  refine lv_iload hx hb d_F_write_54 (lv_at hl 2 rfl) ?_
  refine lv_lload_n hx hb d_F_write_56 rfl (lv_at hl 1 rfl) ?_
  refine lv_l2i hx hb d_F_write_57 rfl ?_
  refine lv_i2b hx hb d_F_write_58 rfl ?_
  refine vx_bast hx hb hG hS hV f0 o0 (by omega) (by decide) d_F_write_59 (fun H locs X122 eX122 hS hV => ?_)
  refine lv_iinc (v := nI (31)) (lv' := [(6, .int (nI (31))), (5, .int (nI (15))), (3, .long z120), (7, .int (nI (9))), (0, .ref (kq 0 99)), (1, .ref a0), (2, .ref a1)]) hx hb d_F_write_60 hl (k := 2) rfl (sx_inc _ _) (by decide) rfl (fun ls hl => ?_)
  refine lv_lload_n hx hb d_F_write_63 rfl (lv_at hl 2 rfl) ?_
  refine lv_bipush (v := nI 8) hx hb d_F_write_64 (by decide +kernel) ?_
  refine lv_lshr hx hb d_F_write_66 rfl ?_
  refine vx_nmL (fun z123 ez123 => ?_)
  refine lv_lstore_n (lv' := [(3, .long z123), (6, .int (nI (31))), (5, .int (nI (15))), (7, .int (nI (9))), (0, .ref (kq 0 99)), (1, .ref a0), (2, .ref a1)]) hx hb d_F_write_67 rfl hl (by decide) rfl (fun ls hl => ?_)
  refine lv_iinc (v := nI (7)) (lv' := [(5, .int (nI (7))), (3, .long z123), (6, .int (nI (31))), (7, .int (nI (9))), (0, .ref (kq 0 99)), (1, .ref a0), (2, .ref a1)]) hx hb d_F_write_68 hl (k := 2) rfl (vx_dec 8 (by omega)) (by decide) rfl (fun ls hl => ?_)
  refine lv_goto (tgt := 46) hx hb d_F_write_71 (by decide) ?_
  refine lv_iload hx hb d_F_write_46 (lv_at hl 0 rfl) ?_
  refine lv_bipush (v := nI 8) hx hb d_F_write_48 (by decide +kernel) ?_
  refine lv_icmp_lt (tgt := 74) hx hb d_F_write_50 (by decide) (fun _ => ?_) (fun q50_123 => absurd (show 7 < 8 by decide) (by have q50_123 : ¬ (7 < 8) := fun z => q50_123 ((nI_ltI (a := 7) (b := 8) (by omega) (by omega)).mpr z); exact q50_123))
  refine lv_iinc (v := nI (10)) (lv' := [(7, .int (nI (10))), (5, .int (nI (7))), (3, .long z123), (6, .int (nI (31))), (0, .ref (kq 0 99)), (1, .ref a0), (2, .ref a1)]) hx hb d_F_write_74 hl (k := 3) rfl (sx_inc _ _) (by decide) rfl (fun ls hl => ?_)
  refine lv_goto (tgt := 16) hx hb d_F_write_77 (by decide) ?_
  refine lv_iload hx hb d_F_write_16 (lv_at hl 0 rfl) ?_
  refine lv_bipush (v := nI 10) hx hb d_F_write_18 (by decide +kernel) ?_
  refine lv_icmp_ge (tgt := 80) hx hb d_F_write_20 (by decide) (fun _ => ?_) (fun q20_124 => absurd (show 10 ≤ 10 by decide) (by have q20_124 : ¬ (10 ≤ 10) := fun z => q20_124 ((nI_leI (a := 10) (b := 10) (by omega) (by omega)).mpr z); exact q20_124))
  refine lv_aload_n hx hb d_F_write_80 rfl (lv_at hl 5 rfl) ?_
  refine lv_iload hx hb d_F_write_81 (lv_at hl 3 rfl) ?_
  refine lv_lload_n hx hb d_F_write_83 rfl (lv_at hl 2 rfl) ?_
  refine lv_l2i hx hb d_F_write_84 rfl ?_
  refine lv_i2b hx hb d_F_write_85 rfl ?_
  refine vx_bast hx hb hG hS hV f0 o0 (by omega) (by decide) d_F_write_86 (fun H locs X126 eX126 hS hV => ?_)
  exact hret _ _ _ _ _ (by subst eX1 ez3 eX5 ez6 eX8 ez9 eX11 ez12 ez15 eX17 ez18 eX20 ez21 eX23 ez24 ez27 eX29 ez30 eX32 ez33 eX35 ez36 ez39 eX41 ez42 eX44 ez45 eX47 ez48 ez51 eX53 ez54 eX56 ez57 eX59 ez60 eX62 ez63 ez66 eX68 ez69 eX71 ez72 eX74 ez75 ez78 eX80 ez81 eX83 ez84 eX86 ez87 ez90 eX92 ez93 eX95 ez96 eX98 ez99 ez102 eX104 ez105 eX107 ez108 eX110 ez111 ez114 eX116 ez117 eX119 ez120 eX122 ez123 eX126; exact rfl) hS hV d_F_write_87
