def LF_F_read (X : vM) (a0 : Nat) (a1 : Nat) (ts : Nat → Nat) : vM := (let z3 : Int64 := (((0 : Int64) <<< ((nI 8).toInt64 &&& 63)) ||| (((X.2 a1 4) &&& (nI 255)).toInt64)); let z5 : Int64 := ((z3 <<< ((nI 8).toInt64 &&& 63)) ||| (((X.2 a1 3) &&& (nI 255)).toInt64)); let z7 : Int64 := ((z5 <<< ((nI 8).toInt64 &&& 63)) ||| (((X.2 a1 2) &&& (nI 255)).toInt64)); let z9 : Int64 := ((z7 <<< ((nI 8).toInt64 &&& 63)) ||| (((X.2 a1 1) &&& (nI 255)).toInt64)); let z11 : Int64 := ((z9 <<< ((nI 8).toInt64 &&& 63)) ||| (((X.2 a1 0) &&& (nI 255)).toInt64)); let X13 : vM := stL X a0 0 ((z11 >>> ((nI 0).toInt64 &&& 63)) &&& (((1 : Int64) <<< ((nI 26).toInt64 &&& 63)) - (1 : Int64))); let z16 : Int64 := (((0 : Int64) <<< ((nI 8).toInt64 &&& 63)) ||| (((X13.2 a1 7) &&& (nI 255)).toInt64)); let z18 : Int64 := ((z16 <<< ((nI 8).toInt64 &&& 63)) ||| (((X13.2 a1 6) &&& (nI 255)).toInt64)); let z20 : Int64 := ((z18 <<< ((nI 8).toInt64 &&& 63)) ||| (((X13.2 a1 5) &&& (nI 255)).toInt64)); let z22 : Int64 := ((z20 <<< ((nI 8).toInt64 &&& 63)) ||| (((X13.2 a1 4) &&& (nI 255)).toInt64)); let z24 : Int64 := ((z22 <<< ((nI 8).toInt64 &&& 63)) ||| (((X13.2 a1 3) &&& (nI 255)).toInt64)); let X26 : vM := stL X13 a0 1 ((z24 >>> ((nI 2).toInt64 &&& 63)) &&& (((1 : Int64) <<< ((nI 25).toInt64 &&& 63)) - (1 : Int64))); let z29 : Int64 := (((0 : Int64) <<< ((nI 8).toInt64 &&& 63)) ||| (((X26.2 a1 10) &&& (nI 255)).toInt64)); let z31 : Int64 := ((z29 <<< ((nI 8).toInt64 &&& 63)) ||| (((X26.2 a1 9) &&& (nI 255)).toInt64)); let z33 : Int64 := ((z31 <<< ((nI 8).toInt64 &&& 63)) ||| (((X26.2 a1 8) &&& (nI 255)).toInt64)); let z35 : Int64 := ((z33 <<< ((nI 8).toInt64 &&& 63)) ||| (((X26.2 a1 7) &&& (nI 255)).toInt64)); let z37 : Int64 := ((z35 <<< ((nI 8).toInt64 &&& 63)) ||| (((X26.2 a1 6) &&& (nI 255)).toInt64)); let X39 : vM := stL X26 a0 2 ((z37 >>> ((nI 3).toInt64 &&& 63)) &&& (((1 : Int64) <<< ((nI 26).toInt64 &&& 63)) - (1 : Int64))); let z42 : Int64 := (((0 : Int64) <<< ((nI 8).toInt64 &&& 63)) ||| (((X39.2 a1 13) &&& (nI 255)).toInt64)); let z44 : Int64 := ((z42 <<< ((nI 8).toInt64 &&& 63)) ||| (((X39.2 a1 12) &&& (nI 255)).toInt64)); let z46 : Int64 := ((z44 <<< ((nI 8).toInt64 &&& 63)) ||| (((X39.2 a1 11) &&& (nI 255)).toInt64)); let z48 : Int64 := ((z46 <<< ((nI 8).toInt64 &&& 63)) ||| (((X39.2 a1 10) &&& (nI 255)).toInt64)); let z50 : Int64 := ((z48 <<< ((nI 8).toInt64 &&& 63)) ||| (((X39.2 a1 9) &&& (nI 255)).toInt64)); let X52 : vM := stL X39 a0 3 ((z50 >>> ((nI 5).toInt64 &&& 63)) &&& (((1 : Int64) <<< ((nI 25).toInt64 &&& 63)) - (1 : Int64))); let z55 : Int64 := (((0 : Int64) <<< ((nI 8).toInt64 &&& 63)) ||| (((X52.2 a1 16) &&& (nI 255)).toInt64)); let z57 : Int64 := ((z55 <<< ((nI 8).toInt64 &&& 63)) ||| (((X52.2 a1 15) &&& (nI 255)).toInt64)); let z59 : Int64 := ((z57 <<< ((nI 8).toInt64 &&& 63)) ||| (((X52.2 a1 14) &&& (nI 255)).toInt64)); let z61 : Int64 := ((z59 <<< ((nI 8).toInt64 &&& 63)) ||| (((X52.2 a1 13) &&& (nI 255)).toInt64)); let z63 : Int64 := ((z61 <<< ((nI 8).toInt64 &&& 63)) ||| (((X52.2 a1 12) &&& (nI 255)).toInt64)); let X65 : vM := stL X52 a0 4 ((z63 >>> ((nI 6).toInt64 &&& 63)) &&& (((1 : Int64) <<< ((nI 26).toInt64 &&& 63)) - (1 : Int64))); let z68 : Int64 := (((0 : Int64) <<< ((nI 8).toInt64 &&& 63)) ||| (((X65.2 a1 20) &&& (nI 255)).toInt64)); let z70 : Int64 := ((z68 <<< ((nI 8).toInt64 &&& 63)) ||| (((X65.2 a1 19) &&& (nI 255)).toInt64)); let z72 : Int64 := ((z70 <<< ((nI 8).toInt64 &&& 63)) ||| (((X65.2 a1 18) &&& (nI 255)).toInt64)); let z74 : Int64 := ((z72 <<< ((nI 8).toInt64 &&& 63)) ||| (((X65.2 a1 17) &&& (nI 255)).toInt64)); let z76 : Int64 := ((z74 <<< ((nI 8).toInt64 &&& 63)) ||| (((X65.2 a1 16) &&& (nI 255)).toInt64)); let X78 : vM := stL X65 a0 5 ((z76 >>> ((nI 0).toInt64 &&& 63)) &&& (((1 : Int64) <<< ((nI 25).toInt64 &&& 63)) - (1 : Int64))); let z81 : Int64 := (((0 : Int64) <<< ((nI 8).toInt64 &&& 63)) ||| (((X78.2 a1 23) &&& (nI 255)).toInt64)); let z83 : Int64 := ((z81 <<< ((nI 8).toInt64 &&& 63)) ||| (((X78.2 a1 22) &&& (nI 255)).toInt64)); let z85 : Int64 := ((z83 <<< ((nI 8).toInt64 &&& 63)) ||| (((X78.2 a1 21) &&& (nI 255)).toInt64)); let z87 : Int64 := ((z85 <<< ((nI 8).toInt64 &&& 63)) ||| (((X78.2 a1 20) &&& (nI 255)).toInt64)); let z89 : Int64 := ((z87 <<< ((nI 8).toInt64 &&& 63)) ||| (((X78.2 a1 19) &&& (nI 255)).toInt64)); let X91 : vM := stL X78 a0 6 ((z89 >>> ((nI 1).toInt64 &&& 63)) &&& (((1 : Int64) <<< ((nI 26).toInt64 &&& 63)) - (1 : Int64))); let z94 : Int64 := (((0 : Int64) <<< ((nI 8).toInt64 &&& 63)) ||| (((X91.2 a1 26) &&& (nI 255)).toInt64)); let z96 : Int64 := ((z94 <<< ((nI 8).toInt64 &&& 63)) ||| (((X91.2 a1 25) &&& (nI 255)).toInt64)); let z98 : Int64 := ((z96 <<< ((nI 8).toInt64 &&& 63)) ||| (((X91.2 a1 24) &&& (nI 255)).toInt64)); let z100 : Int64 := ((z98 <<< ((nI 8).toInt64 &&& 63)) ||| (((X91.2 a1 23) &&& (nI 255)).toInt64)); let z102 : Int64 := ((z100 <<< ((nI 8).toInt64 &&& 63)) ||| (((X91.2 a1 22) &&& (nI 255)).toInt64)); let X104 : vM := stL X91 a0 7 ((z102 >>> ((nI 3).toInt64 &&& 63)) &&& (((1 : Int64) <<< ((nI 25).toInt64 &&& 63)) - (1 : Int64))); let z107 : Int64 := (((0 : Int64) <<< ((nI 8).toInt64 &&& 63)) ||| (((X104.2 a1 29) &&& (nI 255)).toInt64)); let z109 : Int64 := ((z107 <<< ((nI 8).toInt64 &&& 63)) ||| (((X104.2 a1 28) &&& (nI 255)).toInt64)); let z111 : Int64 := ((z109 <<< ((nI 8).toInt64 &&& 63)) ||| (((X104.2 a1 27) &&& (nI 255)).toInt64)); let z113 : Int64 := ((z111 <<< ((nI 8).toInt64 &&& 63)) ||| (((X104.2 a1 26) &&& (nI 255)).toInt64)); let z115 : Int64 := ((z113 <<< ((nI 8).toInt64 &&& 63)) ||| (((X104.2 a1 25) &&& (nI 255)).toInt64)); let X117 : vM := stL X104 a0 8 ((z115 >>> ((nI 4).toInt64 &&& 63)) &&& (((1 : Int64) <<< ((nI 26).toInt64 &&& 63)) - (1 : Int64))); let z120 : Int64 := (((0 : Int64) <<< ((nI 8).toInt64 &&& 63)) ||| (((X117.2 a1 31) &&& (nI 255)).toInt64)); let z122 : Int64 := ((z120 <<< ((nI 8).toInt64 &&& 63)) ||| (((X117.2 a1 30) &&& (nI 255)).toInt64)); let z124 : Int64 := ((z122 <<< ((nI 8).toInt64 &&& 63)) ||| (((X117.2 a1 29) &&& (nI 255)).toInt64)); let z126 : Int64 := ((z124 <<< ((nI 8).toInt64 &&& 63)) ||| (((X117.2 a1 28) &&& (nI 255)).toInt64)); let X128 : vM := stL X117 a0 9 ((z126 >>> ((nI 6).toInt64 &&& 63)) &&& (((1 : Int64) <<< ((nI 25).toInt64 &&& 63)) - (1 : Int64))); X128)
abbrev rm_F_read : Room := { frames := 1, cells := 0, slots := 0, locals := 40 }
set_option maxHeartbeats 4000000 in
set_option maxRecDepth 100000 in
theorem v_F_read {l : Launch} {D : va_G} {g : ClassId → FieldType → Prop} {E : Nat → Prop} {H0 : Heap} {X : vM} {a0 : Nat} {a1 : Nat} {ts : Nat → Nat} (f0 : sx_A g .long H0 a0 10) (o0 : E a0) (f1 : sx_A g .byte H0 a1 32) (hz : st_H D g E H0 ts) (hV : mm g H0 = X) : Met l y_F_read (.code y_F_read b_F_read 8 none :: G_) rm_F_read (sx_Pc [.ref a0, .ref a1] H0 D g) (vx_Qv g E H0 (LF_F_read X a0 a1 ts)) 0 0 E := by
  refine vx_mv (own := R_F) (by decide) rfl rfl rfl (Nat.le_of_ble_eq_true rfl) ?_
  intro p e s m args below meth c Q ls EE hl hret
  obtain ⟨hx, hb, hml, hown, hts, hG, hK⟩ := id EE
  have hS : sx_S g E E H0 H0 [] := sx_S.rf
  have hl : lv_has ls 8 [(0, .ref a0), (1, .ref a1)] := hl
  refine lv_iconst (v := nI 0) hx hb d_F_read_0 (by decide +kernel) ?_
  refine lv_istore_n (lv' := [(2, .int (nI (0))), (0, .ref a0), (1, .ref a1)]) hx hb d_F_read_1 rfl hl (by decide) rfl (fun ls hl => ?_)
  refine lv_iload_n hx hb d_F_read_2 rfl (lv_at hl 0 rfl) ?_
  refine lv_bipush (v := nI 10) hx hb d_F_read_3 (by decide +kernel) ?_
  refine lv_icmp_ge (tgt := 91) hx hb d_F_read_5 (by decide) (fun q5_0 => absurd (show 10 ≤ 0 by have q5_0 : 10 ≤ 0 := (nI_leI (a := 10) (b := 0) (by omega) (by omega)).mp q5_0; exact q5_0) (by decide)) (fun _ => ?_)
  obtain ⟨z0_, ⟨cz_, z1_, z2_, z3_⟩, z4_⟩ := (hz.kept hS.1) 5 (by decide)
  refine sx_gets EE (hK.2.2.1 5 (by decide)) z1_ z2_ z3_ fl_F_57 d_F_read_8 ?_
  refine lv_iload_n hx hb d_F_read_11 rfl (lv_at hl 0 rfl) ?_
  refine vx_iald hx hb hG hS hV (st_a5 hz) (by omega) (by decide) d_F_read_12 ?_
  refine sx_ti (y := nI 0) (st_H.vI (hz.kept hS.1) hV 5 (by decide) (show 0 < 10 by omega)) ?_
  refine lv_iconst (v := nI 3) hx hb d_F_read_13 (by decide +kernel) ?_
  refine lv_ishr hx hb d_F_read_14 ?_
  refine sx_ti (y := nI (0)) (pk_shrN (by omega) _ 3 (by decide +kernel)) ?_
  refine lv_istore_n (lv' := [(3, .int (nI (0))), (2, .int (nI (0))), (0, .ref a0), (1, .ref a1)]) hx hb d_F_read_15 rfl hl (by decide) rfl (fun ls hl => ?_)
  refine lv_iload_n hx hb d_F_read_16 rfl (lv_at hl 0 rfl) ?_
  refine lv_iconst (v := nI 4) hx hb d_F_read_17 (by decide +kernel) ?_
  refine lv_iadd hx hb d_F_read_18 ?_
  refine sx_ti (y := nI (4)) (nI_add _ _) ?_
  refine lv_bipush (v := nI 31) hx hb d_F_read_19 (by decide +kernel) ?_
  refine va_mmin hx hb (by rw [hml]; exact hl.1.symm) hown (hts (.methodLink R_F 61 Lib.Math.min.name) (by decide +kernel)) (hts (.static Lib.Math.min.name) (by decide +kernel)) (hts (.initialized "java/lang/Math") (by decide +kernel)) (hts _ (G_in ⟨mc_min, rfl⟩)) (Nat.le_of_ble_eq_true rfl) (Nat.le_of_ble_eq_true rfl) (Nat.zero_le _) (Nat.zero_le _) d_F_read_21 ?_
  refine sx_ti (y := nI 4) (by decide +kernel) ?_
  refine lv_istore (lv' := [(4, .int (nI (4))), (3, .int (nI (0))), (2, .int (nI (0))), (0, .ref a0), (1, .ref a1)]) hx hb d_F_read_24 hl (by decide) rfl (fun ls hl => ?_)
  refine lv_lconst (v := 0) hx hb d_F_read_26 (by decide +kernel) ?_
  refine lv_lstore (lv' := [(5, .long (0 : Int64)), (4, .int (nI (4))), (3, .int (nI (0))), (2, .int (nI (0))), (0, .ref a0), (1, .ref a1)]) hx hb d_F_read_27 hl (by decide) rfl (fun ls hl => ?_)
  refine lv_iload hx hb d_F_read_29 (lv_at hl 1 rfl) ?_
  refine lv_istore (lv' := [(7, .int (nI (4))), (5, .long (0 : Int64)), (4, .int (nI (4))), (3, .int (nI (0))), (2, .int (nI (0))), (0, .ref a0), (1, .ref a1)]) hx hb d_F_read_31 hl (by decide) rfl (fun ls hl => ?_)
  refine lv_iload hx hb d_F_read_33 (lv_at hl 0 rfl) ?_
  refine lv_iload_n hx hb d_F_read_35 rfl (lv_at hl 3 rfl) ?_
  refine lv_icmp_lt (tgt := 62) hx hb d_F_read_36 (by decide) (fun q36_1 => absurd (show 4 < 0 by have q36_1 : 4 < 0 := (nI_ltI (a := 4) (b := 0) (by omega) (by omega)).mp q36_1; exact q36_1) (by decide)) (fun _ => ?_)
  refine lv_lload hx hb d_F_read_39 (lv_at hl 1 rfl) ?_
  refine lv_bipush (v := nI 8) hx hb d_F_read_41 (by decide +kernel) ?_
  refine lv_lshl hx hb d_F_read_43 rfl ?_
  refine lv_aload_n hx hb d_F_read_44 rfl (lv_at hl 6 rfl) ?_
  refine lv_iload hx hb d_F_read_45 (lv_at hl 0 rfl) ?_
  refine vx_bald hx hb hG hS hV f1 (by omega) (by decide) d_F_read_47 ?_
  refine lv_sipush (v := nI 255) hx hb d_F_read_48 (by decide +kernel) ?_
  refine lv_iand hx hb d_F_read_51 ?_
  refine lv_i2l hx hb d_F_read_52 rfl ?_
  refine lv_lor hx hb d_F_read_53 ?_
  refine vx_nmL (fun z3 ez3 => ?_)
  refine lv_lstore (lv' := [(5, .long z3), (7, .int (nI (4))), (4, .int (nI (4))), (3, .int (nI (0))), (2, .int (nI (0))), (0, .ref a0), (1, .ref a1)]) hx hb d_F_read_54 hl (by decide) rfl (fun ls hl => ?_)
  refine lv_iinc (v := nI (3)) (lv' := [(7, .int (nI (3))), (5, .long z3), (4, .int (nI (4))), (3, .int (nI (0))), (2, .int (nI (0))), (0, .ref a0), (1, .ref a1)]) hx hb d_F_read_56 hl (k := 1) rfl (vx_dec 1 (by omega)) (by decide) rfl (fun ls hl => ?_)
  refine lv_goto (tgt := 33) hx hb d_F_read_59 (by decide) ?_
  refine lv_iload hx hb d_F_read_33 (lv_at hl 0 rfl) ?_
  refine lv_iload_n hx hb d_F_read_35 rfl (lv_at hl 3 rfl) ?_
  refine lv_icmp_lt (tgt := 62) hx hb d_F_read_36 (by decide) (fun q36_3 => absurd (show 3 < 0 by have q36_3 : 3 < 0 := (nI_ltI (a := 3) (b := 0) (by omega) (by omega)).mp q36_3; exact q36_3) (by decide)) (fun _ => ?_)
  refine lv_lload hx hb d_F_read_39 (lv_at hl 1 rfl) ?_
  refine lv_bipush (v := nI 8) hx hb d_F_read_41 (by decide +kernel) ?_
  refine lv_lshl hx hb d_F_read_43 rfl ?_
  refine lv_aload_n hx hb d_F_read_44 rfl (lv_at hl 6 rfl) ?_
  refine lv_iload hx hb d_F_read_45 (lv_at hl 0 rfl) ?_
  refine vx_bald hx hb hG hS hV f1 (by omega) (by decide) d_F_read_47 ?_
  refine lv_sipush (v := nI 255) hx hb d_F_read_48 (by decide +kernel) ?_
  refine lv_iand hx hb d_F_read_51 ?_
  refine lv_i2l hx hb d_F_read_52 rfl ?_
  refine lv_lor hx hb d_F_read_53 ?_
  refine vx_nmL (fun z5 ez5 => ?_)
  refine lv_lstore (lv' := [(5, .long z5), (7, .int (nI (3))), (4, .int (nI (4))), (3, .int (nI (0))), (2, .int (nI (0))), (0, .ref a0), (1, .ref a1)]) hx hb d_F_read_54 hl (by decide) rfl (fun ls hl => ?_)
  refine lv_iinc (v := nI (2)) (lv' := [(7, .int (nI (2))), (5, .long z5), (4, .int (nI (4))), (3, .int (nI (0))), (2, .int (nI (0))), (0, .ref a0), (1, .ref a1)]) hx hb d_F_read_56 hl (k := 1) rfl (vx_dec 1 (by omega)) (by decide) rfl (fun ls hl => ?_)
  refine lv_goto (tgt := 33) hx hb d_F_read_59 (by decide) ?_
  refine lv_iload hx hb d_F_read_33 (lv_at hl 0 rfl) ?_
  refine lv_iload_n hx hb d_F_read_35 rfl (lv_at hl 3 rfl) ?_
  refine lv_icmp_lt (tgt := 62) hx hb d_F_read_36 (by decide) (fun q36_5 => absurd (show 2 < 0 by have q36_5 : 2 < 0 := (nI_ltI (a := 2) (b := 0) (by omega) (by omega)).mp q36_5; exact q36_5) (by decide)) (fun _ => ?_)
  refine lv_lload hx hb d_F_read_39 (lv_at hl 1 rfl) ?_
  refine lv_bipush (v := nI 8) hx hb d_F_read_41 (by decide +kernel) ?_
  refine lv_lshl hx hb d_F_read_43 rfl ?_
  refine lv_aload_n hx hb d_F_read_44 rfl (lv_at hl 6 rfl) ?_
  refine lv_iload hx hb d_F_read_45 (lv_at hl 0 rfl) ?_
  refine vx_bald hx hb hG hS hV f1 (by omega) (by decide) d_F_read_47 ?_
  refine lv_sipush (v := nI 255) hx hb d_F_read_48 (by decide +kernel) ?_
  refine lv_iand hx hb d_F_read_51 ?_
  refine lv_i2l hx hb d_F_read_52 rfl ?_
  refine lv_lor hx hb d_F_read_53 ?_
  refine vx_nmL (fun z7 ez7 => ?_)
  refine lv_lstore (lv' := [(5, .long z7), (7, .int (nI (2))), (4, .int (nI (4))), (3, .int (nI (0))), (2, .int (nI (0))), (0, .ref a0), (1, .ref a1)]) hx hb d_F_read_54 hl (by decide) rfl (fun ls hl => ?_)
  refine lv_iinc (v := nI (1)) (lv' := [(7, .int (nI (1))), (5, .long z7), (4, .int (nI (4))), (3, .int (nI (0))), (2, .int (nI (0))), (0, .ref a0), (1, .ref a1)]) hx hb d_F_read_56 hl (k := 1) rfl (vx_dec 1 (by omega)) (by decide) rfl (fun ls hl => ?_)
  refine lv_goto (tgt := 33) hx hb d_F_read_59 (by decide) ?_
  refine lv_iload hx hb d_F_read_33 (lv_at hl 0 rfl) ?_
  refine lv_iload_n hx hb d_F_read_35 rfl (lv_at hl 3 rfl) ?_
  refine lv_icmp_lt (tgt := 62) hx hb d_F_read_36 (by decide) (fun q36_7 => absurd (show 1 < 0 by have q36_7 : 1 < 0 := (nI_ltI (a := 1) (b := 0) (by omega) (by omega)).mp q36_7; exact q36_7) (by decide)) (fun _ => ?_)
  refine lv_lload hx hb d_F_read_39 (lv_at hl 1 rfl) ?_
  refine lv_bipush (v := nI 8) hx hb d_F_read_41 (by decide +kernel) ?_
  refine lv_lshl hx hb d_F_read_43 rfl ?_
  refine lv_aload_n hx hb d_F_read_44 rfl (lv_at hl 6 rfl) ?_
  refine lv_iload hx hb d_F_read_45 (lv_at hl 0 rfl) ?_
  refine vx_bald hx hb hG hS hV f1 (by omega) (by decide) d_F_read_47 ?_
  refine lv_sipush (v := nI 255) hx hb d_F_read_48 (by decide +kernel) ?_
  refine lv_iand hx hb d_F_read_51 ?_
  refine lv_i2l hx hb d_F_read_52 rfl ?_
  refine lv_lor hx hb d_F_read_53 ?_
  refine vx_nmL (fun z9 ez9 => ?_)
  refine lv_lstore (lv' := [(5, .long z9), (7, .int (nI (1))), (4, .int (nI (4))), (3, .int (nI (0))), (2, .int (nI (0))), (0, .ref a0), (1, .ref a1)]) hx hb d_F_read_54 hl (by decide) rfl (fun ls hl => ?_)
  refine lv_iinc (v := nI (0)) (lv' := [(7, .int (nI (0))), (5, .long z9), (4, .int (nI (4))), (3, .int (nI (0))), (2, .int (nI (0))), (0, .ref a0), (1, .ref a1)]) hx hb d_F_read_56 hl (k := 1) rfl (vx_dec 1 (by omega)) (by decide) rfl (fun ls hl => ?_)
  refine lv_goto (tgt := 33) hx hb d_F_read_59 (by decide) ?_
  refine lv_iload hx hb d_F_read_33 (lv_at hl 0 rfl) ?_
  refine lv_iload_n hx hb d_F_read_35 rfl (lv_at hl 3 rfl) ?_
  refine lv_icmp_lt (tgt := 62) hx hb d_F_read_36 (by decide) (fun q36_9 => absurd (show 0 < 0 by have q36_9 : 0 < 0 := (nI_ltI (a := 0) (b := 0) (by omega) (by omega)).mp q36_9; exact q36_9) (by decide)) (fun _ => ?_)
  refine lv_lload hx hb d_F_read_39 (lv_at hl 1 rfl) ?_
  refine lv_bipush (v := nI 8) hx hb d_F_read_41 (by decide +kernel) ?_
  refine lv_lshl hx hb d_F_read_43 rfl ?_
  refine lv_aload_n hx hb d_F_read_44 rfl (lv_at hl 6 rfl) ?_
  refine lv_iload hx hb d_F_read_45 (lv_at hl 0 rfl) ?_
  refine vx_bald hx hb hG hS hV f1 (by omega) (by decide) d_F_read_47 ?_
  refine lv_sipush (v := nI 255) hx hb d_F_read_48 (by decide +kernel) ?_
  refine lv_iand hx hb d_F_read_51 ?_
  refine lv_i2l hx hb d_F_read_52 rfl ?_
  refine lv_lor hx hb d_F_read_53 ?_
  refine vx_nmL (fun z11 ez11 => ?_)
  refine lv_lstore (lv' := [(5, .long z11), (7, .int (nI (0))), (4, .int (nI (4))), (3, .int (nI (0))), (2, .int (nI (0))), (0, .ref a0), (1, .ref a1)]) hx hb d_F_read_54 hl (by decide) rfl (fun ls hl => ?_)
  refine lv_iinc (v := nI 0 - 1) (lv' := [(7, .int (nI 0 - 1)), (5, .long z11), (4, .int (nI (4))), (3, .int (nI (0))), (2, .int (nI (0))), (0, .ref a0), (1, .ref a1)]) hx hb d_F_read_56 hl (k := 1) rfl (sx_dn _) (by decide) rfl (fun ls hl => ?_)
  refine lv_goto (tgt := 33) hx hb d_F_read_59 (by decide) ?_
  refine lv_iload hx hb d_F_read_33 (lv_at hl 0 rfl) ?_
  refine lv_iload_n hx hb d_F_read_35 rfl (lv_at hl 3 rfl) ?_
  refine lv_icmp_lt (tgt := 62) hx hb d_F_read_36 (by decide) (fun _ => ?_) (fun q => absurd (by decide +kernel) q)
  refine lv_aload_n hx hb d_F_read_62 rfl (lv_at hl 5 rfl) ?_
  refine lv_iload_n hx hb d_F_read_63 rfl (lv_at hl 4 rfl) ?_
  refine lv_lload hx hb d_F_read_64 (lv_at hl 1 rfl) ?_
  obtain ⟨z0_, ⟨cz_, z1_, z2_, z3_⟩, z4_⟩ := (hz.kept hS.1) 5 (by decide)
  refine sx_gets EE (hK.2.2.1 5 (by decide)) z1_ z2_ z3_ fl_F_57 d_F_read_66 ?_
  refine lv_iload_n hx hb d_F_read_69 rfl (lv_at hl 4 rfl) ?_
  refine vx_iald hx hb hG hS hV (st_a5 hz) (by omega) (by decide) d_F_read_70 ?_
  refine sx_ti (y := nI 0) (st_H.vI (hz.kept hS.1) hV 5 (by decide) (show 0 < 10 by omega)) ?_
  refine lv_bipush (v := nI 7) hx hb d_F_read_71 (by decide +kernel) ?_
  refine lv_iand hx hb d_F_read_73 ?_
  refine sx_ti (y := nI (0)) (pk_andN (by omega) 3 (by decide +kernel)) ?_
  refine lv_lshr hx hb d_F_read_74 rfl ?_
  refine lv_lconst (v := 1) hx hb d_F_read_75 (by decide +kernel) ?_
  refine lv_iload_n hx hb d_F_read_76 rfl (lv_at hl 4 rfl) ?_
  refine vx_gi (sx_runS (As := [.int (nI (0))]) (rest := [.long (1 : Int64), .long (z11 >>> ((nI 0).toInt64 &&& 63)), .int (nI (0)), .ref a0]) EE (v_F_widthOf (X := X) (by omega) hV) w_F_67 rfl ⟨rfl, rfl⟩ ⟨Nat.le_of_ble_eq_true rfl, Nat.le_of_ble_eq_true rfl⟩ ⟨Nat.zero_le _, Nat.zero_le _⟩ hl.1 rfl (Nat.le_of_ble_eq_true rfl) d_F_read_77) hS (fun H locs X_ eX_ hS hV => ?_)
  subst eX_
  refine sx_ti (y := nI 26) rfl ?_
  refine lv_lshl hx hb d_F_read_80 rfl ?_
  refine lv_lconst (v := 1) hx hb d_F_read_81 (by decide +kernel) ?_
  refine lv_lsub hx hb d_F_read_82 ?_
  refine lv_land hx hb d_F_read_83 ?_
  refine vx_last hx hb hG hS hV f0 o0 (by omega) (by decide) d_F_read_84 (fun H locs X13 eX13 hS hV => ?_)
  refine lv_iinc (v := nI (1)) (lv' := [(2, .int (nI (1))), (7, .int (nI 0 - 1)), (5, .long z11), (4, .int (nI (4))), (3, .int (nI (0))), (0, .ref a0), (1, .ref a1)]) hx hb d_F_read_85 hl (k := 4) rfl (sx_inc _ _) (by decide) rfl (fun ls hl => ?_)
  refine lv_goto (tgt := 2) hx hb d_F_read_88 (by decide) ?_
  refine lv_iload_n hx hb d_F_read_2 rfl (lv_at hl 0 rfl) ?_
  refine lv_bipush (v := nI 10) hx hb d_F_read_3 (by decide +kernel) ?_
  refine lv_icmp_ge (tgt := 91) hx hb d_F_read_5 (by decide) (fun q5_13 => absurd (show 10 ≤ 1 by have q5_13 : 10 ≤ 1 := (nI_leI (a := 10) (b := 1) (by omega) (by omega)).mp q5_13; exact q5_13) (by decide)) (fun _ => ?_)
  obtain ⟨z0_, ⟨cz_, z1_, z2_, z3_⟩, z4_⟩ := (hz.kept hS.1) 5 (by decide)
  refine sx_gets EE (hK.2.2.1 5 (by decide)) z1_ z2_ z3_ fl_F_57 d_F_read_8 ?_
  refine lv_iload_n hx hb d_F_read_11 rfl (lv_at hl 0 rfl) ?_
  refine vx_iald hx hb hG hS hV (st_a5 hz) (by omega) (by decide) d_F_read_12 ?_
  refine sx_ti (y := nI 26) (st_H.vI (hz.kept hS.1) hV 5 (by decide) (show 1 < 10 by omega)) ?_
  refine lv_iconst (v := nI 3) hx hb d_F_read_13 (by decide +kernel) ?_
  refine lv_ishr hx hb d_F_read_14 ?_
  refine sx_ti (y := nI (3)) (pk_shrN (by omega) _ 3 (by decide +kernel)) ?_
  refine lv_istore_n (lv' := [(3, .int (nI (3))), (2, .int (nI (1))), (7, .int (nI 0 - 1)), (5, .long z11), (4, .int (nI (4))), (0, .ref a0), (1, .ref a1)]) hx hb d_F_read_15 rfl hl (by decide) rfl (fun ls hl => ?_)
  refine lv_iload_n hx hb d_F_read_16 rfl (lv_at hl 0 rfl) ?_
  refine lv_iconst (v := nI 4) hx hb d_F_read_17 (by decide +kernel) ?_
  refine lv_iadd hx hb d_F_read_18 ?_
  refine sx_ti (y := nI (7)) (nI_add _ _) ?_
  refine lv_bipush (v := nI 31) hx hb d_F_read_19 (by decide +kernel) ?_
  refine va_mmin hx hb (by rw [hml]; exact hl.1.symm) hown (hts (.methodLink R_F 61 Lib.Math.min.name) (by decide +kernel)) (hts (.static Lib.Math.min.name) (by decide +kernel)) (hts (.initialized "java/lang/Math") (by decide +kernel)) (hts _ (G_in ⟨mc_min, rfl⟩)) (Nat.le_of_ble_eq_true rfl) (Nat.le_of_ble_eq_true rfl) (Nat.zero_le _) (Nat.zero_le _) d_F_read_21 ?_
  refine sx_ti (y := nI 7) (by decide +kernel) ?_
  refine lv_istore (lv' := [(4, .int (nI (7))), (3, .int (nI (3))), (2, .int (nI (1))), (7, .int (nI 0 - 1)), (5, .long z11), (0, .ref a0), (1, .ref a1)]) hx hb d_F_read_24 hl (by decide) rfl (fun ls hl => ?_)
  refine lv_lconst (v := 0) hx hb d_F_read_26 (by decide +kernel) ?_
  refine lv_lstore (lv' := [(5, .long (0 : Int64)), (4, .int (nI (7))), (3, .int (nI (3))), (2, .int (nI (1))), (7, .int (nI 0 - 1)), (0, .ref a0), (1, .ref a1)]) hx hb d_F_read_27 hl (by decide) rfl (fun ls hl => ?_)
  refine lv_iload hx hb d_F_read_29 (lv_at hl 1 rfl) ?_
  refine lv_istore (lv' := [(7, .int (nI (7))), (5, .long (0 : Int64)), (4, .int (nI (7))), (3, .int (nI (3))), (2, .int (nI (1))), (0, .ref a0), (1, .ref a1)]) hx hb d_F_read_31 hl (by decide) rfl (fun ls hl => ?_)
  refine lv_iload hx hb d_F_read_33 (lv_at hl 0 rfl) ?_
  refine lv_iload_n hx hb d_F_read_35 rfl (lv_at hl 3 rfl) ?_
  refine lv_icmp_lt (tgt := 62) hx hb d_F_read_36 (by decide) (fun q36_14 => absurd (show 7 < 3 by have q36_14 : 7 < 3 := (nI_ltI (a := 7) (b := 3) (by omega) (by omega)).mp q36_14; exact q36_14) (by decide)) (fun _ => ?_)
  refine lv_lload hx hb d_F_read_39 (lv_at hl 1 rfl) ?_
  refine lv_bipush (v := nI 8) hx hb d_F_read_41 (by decide +kernel) ?_
  refine lv_lshl hx hb d_F_read_43 rfl ?_
  refine lv_aload_n hx hb d_F_read_44 rfl (lv_at hl 6 rfl) ?_
  refine lv_iload hx hb d_F_read_45 (lv_at hl 0 rfl) ?_
  refine vx_bald hx hb hG hS hV f1 (by omega) (by decide) d_F_read_47 ?_
  refine lv_sipush (v := nI 255) hx hb d_F_read_48 (by decide +kernel) ?_
  refine lv_iand hx hb d_F_read_51 ?_
  refine lv_i2l hx hb d_F_read_52 rfl ?_
  refine lv_lor hx hb d_F_read_53 ?_
  refine vx_nmL (fun z16 ez16 => ?_)
  refine lv_lstore (lv' := [(5, .long z16), (7, .int (nI (7))), (4, .int (nI (7))), (3, .int (nI (3))), (2, .int (nI (1))), (0, .ref a0), (1, .ref a1)]) hx hb d_F_read_54 hl (by decide) rfl (fun ls hl => ?_)
  refine lv_iinc (v := nI (6)) (lv' := [(7, .int (nI (6))), (5, .long z16), (4, .int (nI (7))), (3, .int (nI (3))), (2, .int (nI (1))), (0, .ref a0), (1, .ref a1)]) hx hb d_F_read_56 hl (k := 1) rfl (vx_dec 1 (by omega)) (by decide) rfl (fun ls hl => ?_)
  refine lv_goto (tgt := 33) hx hb d_F_read_59 (by decide) ?_
  refine lv_iload hx hb d_F_read_33 (lv_at hl 0 rfl) ?_
  refine lv_iload_n hx hb d_F_read_35 rfl (lv_at hl 3 rfl) ?_
  refine lv_icmp_lt (tgt := 62) hx hb d_F_read_36 (by decide) (fun q36_16 => absurd (show 6 < 3 by have q36_16 : 6 < 3 := (nI_ltI (a := 6) (b := 3) (by omega) (by omega)).mp q36_16; exact q36_16) (by decide)) (fun _ => ?_)
  refine lv_lload hx hb d_F_read_39 (lv_at hl 1 rfl) ?_
  refine lv_bipush (v := nI 8) hx hb d_F_read_41 (by decide +kernel) ?_
  refine lv_lshl hx hb d_F_read_43 rfl ?_
  refine lv_aload_n hx hb d_F_read_44 rfl (lv_at hl 6 rfl) ?_
  refine lv_iload hx hb d_F_read_45 (lv_at hl 0 rfl) ?_
  refine vx_bald hx hb hG hS hV f1 (by omega) (by decide) d_F_read_47 ?_
  refine lv_sipush (v := nI 255) hx hb d_F_read_48 (by decide +kernel) ?_
  refine lv_iand hx hb d_F_read_51 ?_
  refine lv_i2l hx hb d_F_read_52 rfl ?_
  refine lv_lor hx hb d_F_read_53 ?_
  refine vx_nmL (fun z18 ez18 => ?_)
  refine lv_lstore (lv' := [(5, .long z18), (7, .int (nI (6))), (4, .int (nI (7))), (3, .int (nI (3))), (2, .int (nI (1))), (0, .ref a0), (1, .ref a1)]) hx hb d_F_read_54 hl (by decide) rfl (fun ls hl => ?_)
  refine lv_iinc (v := nI (5)) (lv' := [(7, .int (nI (5))), (5, .long z18), (4, .int (nI (7))), (3, .int (nI (3))), (2, .int (nI (1))), (0, .ref a0), (1, .ref a1)]) hx hb d_F_read_56 hl (k := 1) rfl (vx_dec 1 (by omega)) (by decide) rfl (fun ls hl => ?_)
  refine lv_goto (tgt := 33) hx hb d_F_read_59 (by decide) ?_
  refine lv_iload hx hb d_F_read_33 (lv_at hl 0 rfl) ?_
  refine lv_iload_n hx hb d_F_read_35 rfl (lv_at hl 3 rfl) ?_
  refine lv_icmp_lt (tgt := 62) hx hb d_F_read_36 (by decide) (fun q36_18 => absurd (show 5 < 3 by have q36_18 : 5 < 3 := (nI_ltI (a := 5) (b := 3) (by omega) (by omega)).mp q36_18; exact q36_18) (by decide)) (fun _ => ?_)
  refine lv_lload hx hb d_F_read_39 (lv_at hl 1 rfl) ?_
  refine lv_bipush (v := nI 8) hx hb d_F_read_41 (by decide +kernel) ?_
  refine lv_lshl hx hb d_F_read_43 rfl ?_
  refine lv_aload_n hx hb d_F_read_44 rfl (lv_at hl 6 rfl) ?_
  refine lv_iload hx hb d_F_read_45 (lv_at hl 0 rfl) ?_
  refine vx_bald hx hb hG hS hV f1 (by omega) (by decide) d_F_read_47 ?_
  refine lv_sipush (v := nI 255) hx hb d_F_read_48 (by decide +kernel) ?_
  refine lv_iand hx hb d_F_read_51 ?_
  refine lv_i2l hx hb d_F_read_52 rfl ?_
  refine lv_lor hx hb d_F_read_53 ?_
  refine vx_nmL (fun z20 ez20 => ?_)
  refine lv_lstore (lv' := [(5, .long z20), (7, .int (nI (5))), (4, .int (nI (7))), (3, .int (nI (3))), (2, .int (nI (1))), (0, .ref a0), (1, .ref a1)]) hx hb d_F_read_54 hl (by decide) rfl (fun ls hl => ?_)
  refine lv_iinc (v := nI (4)) (lv' := [(7, .int (nI (4))), (5, .long z20), (4, .int (nI (7))), (3, .int (nI (3))), (2, .int (nI (1))), (0, .ref a0), (1, .ref a1)]) hx hb d_F_read_56 hl (k := 1) rfl (vx_dec 1 (by omega)) (by decide) rfl (fun ls hl => ?_)
  refine lv_goto (tgt := 33) hx hb d_F_read_59 (by decide) ?_
  refine lv_iload hx hb d_F_read_33 (lv_at hl 0 rfl) ?_
  refine lv_iload_n hx hb d_F_read_35 rfl (lv_at hl 3 rfl) ?_
  refine lv_icmp_lt (tgt := 62) hx hb d_F_read_36 (by decide) (fun q36_20 => absurd (show 4 < 3 by have q36_20 : 4 < 3 := (nI_ltI (a := 4) (b := 3) (by omega) (by omega)).mp q36_20; exact q36_20) (by decide)) (fun _ => ?_)
  refine lv_lload hx hb d_F_read_39 (lv_at hl 1 rfl) ?_
  refine lv_bipush (v := nI 8) hx hb d_F_read_41 (by decide +kernel) ?_
  refine lv_lshl hx hb d_F_read_43 rfl ?_
  refine lv_aload_n hx hb d_F_read_44 rfl (lv_at hl 6 rfl) ?_
  refine lv_iload hx hb d_F_read_45 (lv_at hl 0 rfl) ?_
  refine vx_bald hx hb hG hS hV f1 (by omega) (by decide) d_F_read_47 ?_
  refine lv_sipush (v := nI 255) hx hb d_F_read_48 (by decide +kernel) ?_
  refine lv_iand hx hb d_F_read_51 ?_
  refine lv_i2l hx hb d_F_read_52 rfl ?_
  refine lv_lor hx hb d_F_read_53 ?_
  refine vx_nmL (fun z22 ez22 => ?_)
  refine lv_lstore (lv' := [(5, .long z22), (7, .int (nI (4))), (4, .int (nI (7))), (3, .int (nI (3))), (2, .int (nI (1))), (0, .ref a0), (1, .ref a1)]) hx hb d_F_read_54 hl (by decide) rfl (fun ls hl => ?_)
  refine lv_iinc (v := nI (3)) (lv' := [(7, .int (nI (3))), (5, .long z22), (4, .int (nI (7))), (3, .int (nI (3))), (2, .int (nI (1))), (0, .ref a0), (1, .ref a1)]) hx hb d_F_read_56 hl (k := 1) rfl (vx_dec 1 (by omega)) (by decide) rfl (fun ls hl => ?_)
  refine lv_goto (tgt := 33) hx hb d_F_read_59 (by decide) ?_
  refine lv_iload hx hb d_F_read_33 (lv_at hl 0 rfl) ?_
  refine lv_iload_n hx hb d_F_read_35 rfl (lv_at hl 3 rfl) ?_
  refine lv_icmp_lt (tgt := 62) hx hb d_F_read_36 (by decide) (fun q36_22 => absurd (show 3 < 3 by have q36_22 : 3 < 3 := (nI_ltI (a := 3) (b := 3) (by omega) (by omega)).mp q36_22; exact q36_22) (by decide)) (fun _ => ?_)
  refine lv_lload hx hb d_F_read_39 (lv_at hl 1 rfl) ?_
  refine lv_bipush (v := nI 8) hx hb d_F_read_41 (by decide +kernel) ?_
  refine lv_lshl hx hb d_F_read_43 rfl ?_
  refine lv_aload_n hx hb d_F_read_44 rfl (lv_at hl 6 rfl) ?_
  refine lv_iload hx hb d_F_read_45 (lv_at hl 0 rfl) ?_
  refine vx_bald hx hb hG hS hV f1 (by omega) (by decide) d_F_read_47 ?_
  refine lv_sipush (v := nI 255) hx hb d_F_read_48 (by decide +kernel) ?_
  refine lv_iand hx hb d_F_read_51 ?_
  refine lv_i2l hx hb d_F_read_52 rfl ?_
  refine lv_lor hx hb d_F_read_53 ?_
  refine vx_nmL (fun z24 ez24 => ?_)
  refine lv_lstore (lv' := [(5, .long z24), (7, .int (nI (3))), (4, .int (nI (7))), (3, .int (nI (3))), (2, .int (nI (1))), (0, .ref a0), (1, .ref a1)]) hx hb d_F_read_54 hl (by decide) rfl (fun ls hl => ?_)
  refine lv_iinc (v := nI (2)) (lv' := [(7, .int (nI (2))), (5, .long z24), (4, .int (nI (7))), (3, .int (nI (3))), (2, .int (nI (1))), (0, .ref a0), (1, .ref a1)]) hx hb d_F_read_56 hl (k := 1) rfl (vx_dec 1 (by omega)) (by decide) rfl (fun ls hl => ?_)
  refine lv_goto (tgt := 33) hx hb d_F_read_59 (by decide) ?_
  refine lv_iload hx hb d_F_read_33 (lv_at hl 0 rfl) ?_
  refine lv_iload_n hx hb d_F_read_35 rfl (lv_at hl 3 rfl) ?_
  refine lv_icmp_lt (tgt := 62) hx hb d_F_read_36 (by decide) (fun _ => ?_) (fun q36_24 => absurd (show 2 < 3 by decide) (by have q36_24 : ¬ (2 < 3) := fun z => q36_24 ((nI_ltI (a := 2) (b := 3) (by omega) (by omega)).mpr z); exact q36_24))
  refine lv_aload_n hx hb d_F_read_62 rfl (lv_at hl 5 rfl) ?_
  refine lv_iload_n hx hb d_F_read_63 rfl (lv_at hl 4 rfl) ?_
  refine lv_lload hx hb d_F_read_64 (lv_at hl 1 rfl) ?_
  obtain ⟨z0_, ⟨cz_, z1_, z2_, z3_⟩, z4_⟩ := (hz.kept hS.1) 5 (by decide)
  refine sx_gets EE (hK.2.2.1 5 (by decide)) z1_ z2_ z3_ fl_F_57 d_F_read_66 ?_
  refine lv_iload_n hx hb d_F_read_69 rfl (lv_at hl 4 rfl) ?_
  refine vx_iald hx hb hG hS hV (st_a5 hz) (by omega) (by decide) d_F_read_70 ?_
  refine sx_ti (y := nI 26) (st_H.vI (hz.kept hS.1) hV 5 (by decide) (show 1 < 10 by omega)) ?_
  refine lv_bipush (v := nI 7) hx hb d_F_read_71 (by decide +kernel) ?_
  refine lv_iand hx hb d_F_read_73 ?_
  refine sx_ti (y := nI (2)) (pk_andN (by omega) 3 (by decide +kernel)) ?_
  refine lv_lshr hx hb d_F_read_74 rfl ?_
  refine lv_lconst (v := 1) hx hb d_F_read_75 (by decide +kernel) ?_
  refine lv_iload_n hx hb d_F_read_76 rfl (lv_at hl 4 rfl) ?_
  refine vx_gi (sx_runS (As := [.int (nI (1))]) (rest := [.long (1 : Int64), .long (z24 >>> ((nI 2).toInt64 &&& 63)), .int (nI (1)), .ref a0]) EE (v_F_widthOf (X := X13) (by omega) hV) w_F_67 rfl ⟨rfl, rfl⟩ ⟨Nat.le_of_ble_eq_true rfl, Nat.le_of_ble_eq_true rfl⟩ ⟨Nat.zero_le _, Nat.zero_le _⟩ hl.1 rfl (Nat.le_of_ble_eq_true rfl) d_F_read_77) hS (fun H locs X_ eX_ hS hV => ?_)
  subst eX_
  refine sx_ti (y := nI 25) rfl ?_
  refine lv_lshl hx hb d_F_read_80 rfl ?_
  refine lv_lconst (v := 1) hx hb d_F_read_81 (by decide +kernel) ?_
  refine lv_lsub hx hb d_F_read_82 ?_
  refine lv_land hx hb d_F_read_83 ?_
  refine vx_last hx hb hG hS hV f0 o0 (by omega) (by decide) d_F_read_84 (fun H locs X26 eX26 hS hV => ?_)
  refine lv_iinc (v := nI (2)) (lv' := [(2, .int (nI (2))), (7, .int (nI (2))), (5, .long z24), (4, .int (nI (7))), (3, .int (nI (3))), (0, .ref a0), (1, .ref a1)]) hx hb d_F_read_85 hl (k := 4) rfl (sx_inc _ _) (by decide) rfl (fun ls hl => ?_)
  refine lv_goto (tgt := 2) hx hb d_F_read_88 (by decide) ?_
  refine lv_iload_n hx hb d_F_read_2 rfl (lv_at hl 0 rfl) ?_
  refine lv_bipush (v := nI 10) hx hb d_F_read_3 (by decide +kernel) ?_
  refine lv_icmp_ge (tgt := 91) hx hb d_F_read_5 (by decide) (fun q5_26 => absurd (show 10 ≤ 2 by have q5_26 : 10 ≤ 2 := (nI_leI (a := 10) (b := 2) (by omega) (by omega)).mp q5_26; exact q5_26) (by decide)) (fun _ => ?_)
  obtain ⟨z0_, ⟨cz_, z1_, z2_, z3_⟩, z4_⟩ := (hz.kept hS.1) 5 (by decide)
  refine sx_gets EE (hK.2.2.1 5 (by decide)) z1_ z2_ z3_ fl_F_57 d_F_read_8 ?_
  refine lv_iload_n hx hb d_F_read_11 rfl (lv_at hl 0 rfl) ?_
  refine vx_iald hx hb hG hS hV (st_a5 hz) (by omega) (by decide) d_F_read_12 ?_
  refine sx_ti (y := nI 51) (st_H.vI (hz.kept hS.1) hV 5 (by decide) (show 2 < 10 by omega)) ?_
  refine lv_iconst (v := nI 3) hx hb d_F_read_13 (by decide +kernel) ?_
  refine lv_ishr hx hb d_F_read_14 ?_
  refine sx_ti (y := nI (6)) (pk_shrN (by omega) _ 3 (by decide +kernel)) ?_
  refine lv_istore_n (lv' := [(3, .int (nI (6))), (2, .int (nI (2))), (7, .int (nI (2))), (5, .long z24), (4, .int (nI (7))), (0, .ref a0), (1, .ref a1)]) hx hb d_F_read_15 rfl hl (by decide) rfl (fun ls hl => ?_)
  refine lv_iload_n hx hb d_F_read_16 rfl (lv_at hl 0 rfl) ?_
  refine lv_iconst (v := nI 4) hx hb d_F_read_17 (by decide +kernel) ?_
  refine lv_iadd hx hb d_F_read_18 ?_
  refine sx_ti (y := nI (10)) (nI_add _ _) ?_
  refine lv_bipush (v := nI 31) hx hb d_F_read_19 (by decide +kernel) ?_
  refine va_mmin hx hb (by rw [hml]; exact hl.1.symm) hown (hts (.methodLink R_F 61 Lib.Math.min.name) (by decide +kernel)) (hts (.static Lib.Math.min.name) (by decide +kernel)) (hts (.initialized "java/lang/Math") (by decide +kernel)) (hts _ (G_in ⟨mc_min, rfl⟩)) (Nat.le_of_ble_eq_true rfl) (Nat.le_of_ble_eq_true rfl) (Nat.zero_le _) (Nat.zero_le _) d_F_read_21 ?_
  refine sx_ti (y := nI 10) (by decide +kernel) ?_
  refine lv_istore (lv' := [(4, .int (nI (10))), (3, .int (nI (6))), (2, .int (nI (2))), (7, .int (nI (2))), (5, .long z24), (0, .ref a0), (1, .ref a1)]) hx hb d_F_read_24 hl (by decide) rfl (fun ls hl => ?_)
  refine lv_lconst (v := 0) hx hb d_F_read_26 (by decide +kernel) ?_
  refine lv_lstore (lv' := [(5, .long (0 : Int64)), (4, .int (nI (10))), (3, .int (nI (6))), (2, .int (nI (2))), (7, .int (nI (2))), (0, .ref a0), (1, .ref a1)]) hx hb d_F_read_27 hl (by decide) rfl (fun ls hl => ?_)
  refine lv_iload hx hb d_F_read_29 (lv_at hl 1 rfl) ?_
  refine lv_istore (lv' := [(7, .int (nI (10))), (5, .long (0 : Int64)), (4, .int (nI (10))), (3, .int (nI (6))), (2, .int (nI (2))), (0, .ref a0), (1, .ref a1)]) hx hb d_F_read_31 hl (by decide) rfl (fun ls hl => ?_)
  refine lv_iload hx hb d_F_read_33 (lv_at hl 0 rfl) ?_
  refine lv_iload_n hx hb d_F_read_35 rfl (lv_at hl 3 rfl) ?_
  refine lv_icmp_lt (tgt := 62) hx hb d_F_read_36 (by decide) (fun q36_27 => absurd (show 10 < 6 by have q36_27 : 10 < 6 := (nI_ltI (a := 10) (b := 6) (by omega) (by omega)).mp q36_27; exact q36_27) (by decide)) (fun _ => ?_)
  refine lv_lload hx hb d_F_read_39 (lv_at hl 1 rfl) ?_
  refine lv_bipush (v := nI 8) hx hb d_F_read_41 (by decide +kernel) ?_
  refine lv_lshl hx hb d_F_read_43 rfl ?_
  refine lv_aload_n hx hb d_F_read_44 rfl (lv_at hl 6 rfl) ?_
  refine lv_iload hx hb d_F_read_45 (lv_at hl 0 rfl) ?_
  refine vx_bald hx hb hG hS hV f1 (by omega) (by decide) d_F_read_47 ?_
  refine lv_sipush (v := nI 255) hx hb d_F_read_48 (by decide +kernel) ?_
  refine lv_iand hx hb d_F_read_51 ?_
  refine lv_i2l hx hb d_F_read_52 rfl ?_
  refine lv_lor hx hb d_F_read_53 ?_
  refine vx_nmL (fun z29 ez29 => ?_)
  refine lv_lstore (lv' := [(5, .long z29), (7, .int (nI (10))), (4, .int (nI (10))), (3, .int (nI (6))), (2, .int (nI (2))), (0, .ref a0), (1, .ref a1)]) hx hb d_F_read_54 hl (by decide) rfl (fun ls hl => ?_)
  refine lv_iinc (v := nI (9)) (lv' := [(7, .int (nI (9))), (5, .long z29), (4, .int (nI (10))), (3, .int (nI (6))), (2, .int (nI (2))), (0, .ref a0), (1, .ref a1)]) hx hb d_F_read_56 hl (k := 1) rfl (vx_dec 1 (by omega)) (by decide) rfl (fun ls hl => ?_)
  refine lv_goto (tgt := 33) hx hb d_F_read_59 (by decide) ?_
  refine lv_iload hx hb d_F_read_33 (lv_at hl 0 rfl) ?_
  refine lv_iload_n hx hb d_F_read_35 rfl (lv_at hl 3 rfl) ?_
  refine lv_icmp_lt (tgt := 62) hx hb d_F_read_36 (by decide) (fun q36_29 => absurd (show 9 < 6 by have q36_29 : 9 < 6 := (nI_ltI (a := 9) (b := 6) (by omega) (by omega)).mp q36_29; exact q36_29) (by decide)) (fun _ => ?_)
  refine lv_lload hx hb d_F_read_39 (lv_at hl 1 rfl) ?_
  refine lv_bipush (v := nI 8) hx hb d_F_read_41 (by decide +kernel) ?_
  refine lv_lshl hx hb d_F_read_43 rfl ?_
  refine lv_aload_n hx hb d_F_read_44 rfl (lv_at hl 6 rfl) ?_
  refine lv_iload hx hb d_F_read_45 (lv_at hl 0 rfl) ?_
  refine vx_bald hx hb hG hS hV f1 (by omega) (by decide) d_F_read_47 ?_
  refine lv_sipush (v := nI 255) hx hb d_F_read_48 (by decide +kernel) ?_
  refine lv_iand hx hb d_F_read_51 ?_
  refine lv_i2l hx hb d_F_read_52 rfl ?_
  refine lv_lor hx hb d_F_read_53 ?_
  refine vx_nmL (fun z31 ez31 => ?_)
  refine lv_lstore (lv' := [(5, .long z31), (7, .int (nI (9))), (4, .int (nI (10))), (3, .int (nI (6))), (2, .int (nI (2))), (0, .ref a0), (1, .ref a1)]) hx hb d_F_read_54 hl (by decide) rfl (fun ls hl => ?_)
  refine lv_iinc (v := nI (8)) (lv' := [(7, .int (nI (8))), (5, .long z31), (4, .int (nI (10))), (3, .int (nI (6))), (2, .int (nI (2))), (0, .ref a0), (1, .ref a1)]) hx hb d_F_read_56 hl (k := 1) rfl (vx_dec 1 (by omega)) (by decide) rfl (fun ls hl => ?_)
  refine lv_goto (tgt := 33) hx hb d_F_read_59 (by decide) ?_
  refine lv_iload hx hb d_F_read_33 (lv_at hl 0 rfl) ?_
  refine lv_iload_n hx hb d_F_read_35 rfl (lv_at hl 3 rfl) ?_
  refine lv_icmp_lt (tgt := 62) hx hb d_F_read_36 (by decide) (fun q36_31 => absurd (show 8 < 6 by have q36_31 : 8 < 6 := (nI_ltI (a := 8) (b := 6) (by omega) (by omega)).mp q36_31; exact q36_31) (by decide)) (fun _ => ?_)
  refine lv_lload hx hb d_F_read_39 (lv_at hl 1 rfl) ?_
  refine lv_bipush (v := nI 8) hx hb d_F_read_41 (by decide +kernel) ?_
  refine lv_lshl hx hb d_F_read_43 rfl ?_
  refine lv_aload_n hx hb d_F_read_44 rfl (lv_at hl 6 rfl) ?_
  refine lv_iload hx hb d_F_read_45 (lv_at hl 0 rfl) ?_
  refine vx_bald hx hb hG hS hV f1 (by omega) (by decide) d_F_read_47 ?_
  refine lv_sipush (v := nI 255) hx hb d_F_read_48 (by decide +kernel) ?_
  refine lv_iand hx hb d_F_read_51 ?_
  refine lv_i2l hx hb d_F_read_52 rfl ?_
  refine lv_lor hx hb d_F_read_53 ?_
  refine vx_nmL (fun z33 ez33 => ?_)
  refine lv_lstore (lv' := [(5, .long z33), (7, .int (nI (8))), (4, .int (nI (10))), (3, .int (nI (6))), (2, .int (nI (2))), (0, .ref a0), (1, .ref a1)]) hx hb d_F_read_54 hl (by decide) rfl (fun ls hl => ?_)
  refine lv_iinc (v := nI (7)) (lv' := [(7, .int (nI (7))), (5, .long z33), (4, .int (nI (10))), (3, .int (nI (6))), (2, .int (nI (2))), (0, .ref a0), (1, .ref a1)]) hx hb d_F_read_56 hl (k := 1) rfl (vx_dec 1 (by omega)) (by decide) rfl (fun ls hl => ?_)
  refine lv_goto (tgt := 33) hx hb d_F_read_59 (by decide) ?_
  refine lv_iload hx hb d_F_read_33 (lv_at hl 0 rfl) ?_
  refine lv_iload_n hx hb d_F_read_35 rfl (lv_at hl 3 rfl) ?_
  refine lv_icmp_lt (tgt := 62) hx hb d_F_read_36 (by decide) (fun q36_33 => absurd (show 7 < 6 by have q36_33 : 7 < 6 := (nI_ltI (a := 7) (b := 6) (by omega) (by omega)).mp q36_33; exact q36_33) (by decide)) (fun _ => ?_)
  refine lv_lload hx hb d_F_read_39 (lv_at hl 1 rfl) ?_
  refine lv_bipush (v := nI 8) hx hb d_F_read_41 (by decide +kernel) ?_
  refine lv_lshl hx hb d_F_read_43 rfl ?_
  refine lv_aload_n hx hb d_F_read_44 rfl (lv_at hl 6 rfl) ?_
  refine lv_iload hx hb d_F_read_45 (lv_at hl 0 rfl) ?_
  refine vx_bald hx hb hG hS hV f1 (by omega) (by decide) d_F_read_47 ?_
  refine lv_sipush (v := nI 255) hx hb d_F_read_48 (by decide +kernel) ?_
  refine lv_iand hx hb d_F_read_51 ?_
  refine lv_i2l hx hb d_F_read_52 rfl ?_
  refine lv_lor hx hb d_F_read_53 ?_
  refine vx_nmL (fun z35 ez35 => ?_)
  refine lv_lstore (lv' := [(5, .long z35), (7, .int (nI (7))), (4, .int (nI (10))), (3, .int (nI (6))), (2, .int (nI (2))), (0, .ref a0), (1, .ref a1)]) hx hb d_F_read_54 hl (by decide) rfl (fun ls hl => ?_)
  refine lv_iinc (v := nI (6)) (lv' := [(7, .int (nI (6))), (5, .long z35), (4, .int (nI (10))), (3, .int (nI (6))), (2, .int (nI (2))), (0, .ref a0), (1, .ref a1)]) hx hb d_F_read_56 hl (k := 1) rfl (vx_dec 1 (by omega)) (by decide) rfl (fun ls hl => ?_)
  refine lv_goto (tgt := 33) hx hb d_F_read_59 (by decide) ?_
  refine lv_iload hx hb d_F_read_33 (lv_at hl 0 rfl) ?_
  refine lv_iload_n hx hb d_F_read_35 rfl (lv_at hl 3 rfl) ?_
  refine lv_icmp_lt (tgt := 62) hx hb d_F_read_36 (by decide) (fun q36_35 => absurd (show 6 < 6 by have q36_35 : 6 < 6 := (nI_ltI (a := 6) (b := 6) (by omega) (by omega)).mp q36_35; exact q36_35) (by decide)) (fun _ => ?_)
  refine lv_lload hx hb d_F_read_39 (lv_at hl 1 rfl) ?_
  refine lv_bipush (v := nI 8) hx hb d_F_read_41 (by decide +kernel) ?_
  refine lv_lshl hx hb d_F_read_43 rfl ?_
  refine lv_aload_n hx hb d_F_read_44 rfl (lv_at hl 6 rfl) ?_
  refine lv_iload hx hb d_F_read_45 (lv_at hl 0 rfl) ?_
  refine vx_bald hx hb hG hS hV f1 (by omega) (by decide) d_F_read_47 ?_
  refine lv_sipush (v := nI 255) hx hb d_F_read_48 (by decide +kernel) ?_
  refine lv_iand hx hb d_F_read_51 ?_
  refine lv_i2l hx hb d_F_read_52 rfl ?_
  refine lv_lor hx hb d_F_read_53 ?_
  refine vx_nmL (fun z37 ez37 => ?_)
  refine lv_lstore (lv' := [(5, .long z37), (7, .int (nI (6))), (4, .int (nI (10))), (3, .int (nI (6))), (2, .int (nI (2))), (0, .ref a0), (1, .ref a1)]) hx hb d_F_read_54 hl (by decide) rfl (fun ls hl => ?_)
  refine lv_iinc (v := nI (5)) (lv' := [(7, .int (nI (5))), (5, .long z37), (4, .int (nI (10))), (3, .int (nI (6))), (2, .int (nI (2))), (0, .ref a0), (1, .ref a1)]) hx hb d_F_read_56 hl (k := 1) rfl (vx_dec 1 (by omega)) (by decide) rfl (fun ls hl => ?_)
  refine lv_goto (tgt := 33) hx hb d_F_read_59 (by decide) ?_
  refine lv_iload hx hb d_F_read_33 (lv_at hl 0 rfl) ?_
  refine lv_iload_n hx hb d_F_read_35 rfl (lv_at hl 3 rfl) ?_
  refine lv_icmp_lt (tgt := 62) hx hb d_F_read_36 (by decide) (fun _ => ?_) (fun q36_37 => absurd (show 5 < 6 by decide) (by have q36_37 : ¬ (5 < 6) := fun z => q36_37 ((nI_ltI (a := 5) (b := 6) (by omega) (by omega)).mpr z); exact q36_37))
  refine lv_aload_n hx hb d_F_read_62 rfl (lv_at hl 5 rfl) ?_
  refine lv_iload_n hx hb d_F_read_63 rfl (lv_at hl 4 rfl) ?_
  refine lv_lload hx hb d_F_read_64 (lv_at hl 1 rfl) ?_
  obtain ⟨z0_, ⟨cz_, z1_, z2_, z3_⟩, z4_⟩ := (hz.kept hS.1) 5 (by decide)
  refine sx_gets EE (hK.2.2.1 5 (by decide)) z1_ z2_ z3_ fl_F_57 d_F_read_66 ?_
  refine lv_iload_n hx hb d_F_read_69 rfl (lv_at hl 4 rfl) ?_
  refine vx_iald hx hb hG hS hV (st_a5 hz) (by omega) (by decide) d_F_read_70 ?_
  refine sx_ti (y := nI 51) (st_H.vI (hz.kept hS.1) hV 5 (by decide) (show 2 < 10 by omega)) ?_
  refine lv_bipush (v := nI 7) hx hb d_F_read_71 (by decide +kernel) ?_
  refine lv_iand hx hb d_F_read_73 ?_
  refine sx_ti (y := nI (3)) (pk_andN (by omega) 3 (by decide +kernel)) ?_
  refine lv_lshr hx hb d_F_read_74 rfl ?_
  refine lv_lconst (v := 1) hx hb d_F_read_75 (by decide +kernel) ?_
  refine lv_iload_n hx hb d_F_read_76 rfl (lv_at hl 4 rfl) ?_
  refine vx_gi (sx_runS (As := [.int (nI (2))]) (rest := [.long (1 : Int64), .long (z37 >>> ((nI 3).toInt64 &&& 63)), .int (nI (2)), .ref a0]) EE (v_F_widthOf (X := X26) (by omega) hV) w_F_67 rfl ⟨rfl, rfl⟩ ⟨Nat.le_of_ble_eq_true rfl, Nat.le_of_ble_eq_true rfl⟩ ⟨Nat.zero_le _, Nat.zero_le _⟩ hl.1 rfl (Nat.le_of_ble_eq_true rfl) d_F_read_77) hS (fun H locs X_ eX_ hS hV => ?_)
  subst eX_
  refine sx_ti (y := nI 26) rfl ?_
  refine lv_lshl hx hb d_F_read_80 rfl ?_
  refine lv_lconst (v := 1) hx hb d_F_read_81 (by decide +kernel) ?_
  refine lv_lsub hx hb d_F_read_82 ?_
  refine lv_land hx hb d_F_read_83 ?_
  refine vx_last hx hb hG hS hV f0 o0 (by omega) (by decide) d_F_read_84 (fun H locs X39 eX39 hS hV => ?_)
  refine lv_iinc (v := nI (3)) (lv' := [(2, .int (nI (3))), (7, .int (nI (5))), (5, .long z37), (4, .int (nI (10))), (3, .int (nI (6))), (0, .ref a0), (1, .ref a1)]) hx hb d_F_read_85 hl (k := 4) rfl (sx_inc _ _) (by decide) rfl (fun ls hl => ?_)
  refine lv_goto (tgt := 2) hx hb d_F_read_88 (by decide) ?_
  refine lv_iload_n hx hb d_F_read_2 rfl (lv_at hl 0 rfl) ?_
  refine lv_bipush (v := nI 10) hx hb d_F_read_3 (by decide +kernel) ?_
  refine lv_icmp_ge (tgt := 91) hx hb d_F_read_5 (by decide) (fun q5_39 => absurd (show 10 ≤ 3 by have q5_39 : 10 ≤ 3 := (nI_leI (a := 10) (b := 3) (by omega) (by omega)).mp q5_39; exact q5_39) (by decide)) (fun _ => ?_)
  obtain ⟨z0_, ⟨cz_, z1_, z2_, z3_⟩, z4_⟩ := (hz.kept hS.1) 5 (by decide)
  refine sx_gets EE (hK.2.2.1 5 (by decide)) z1_ z2_ z3_ fl_F_57 d_F_read_8 ?_
  refine lv_iload_n hx hb d_F_read_11 rfl (lv_at hl 0 rfl) ?_
  refine vx_iald hx hb hG hS hV (st_a5 hz) (by omega) (by decide) d_F_read_12 ?_
  refine sx_ti (y := nI 77) (st_H.vI (hz.kept hS.1) hV 5 (by decide) (show 3 < 10 by omega)) ?_
  refine lv_iconst (v := nI 3) hx hb d_F_read_13 (by decide +kernel) ?_
  refine lv_ishr hx hb d_F_read_14 ?_
  refine sx_ti (y := nI (9)) (pk_shrN (by omega) _ 3 (by decide +kernel)) ?_
  refine lv_istore_n (lv' := [(3, .int (nI (9))), (2, .int (nI (3))), (7, .int (nI (5))), (5, .long z37), (4, .int (nI (10))), (0, .ref a0), (1, .ref a1)]) hx hb d_F_read_15 rfl hl (by decide) rfl (fun ls hl => ?_)
  refine lv_iload_n hx hb d_F_read_16 rfl (lv_at hl 0 rfl) ?_
  refine lv_iconst (v := nI 4) hx hb d_F_read_17 (by decide +kernel) ?_
  refine lv_iadd hx hb d_F_read_18 ?_
  refine sx_ti (y := nI (13)) (nI_add _ _) ?_
  refine lv_bipush (v := nI 31) hx hb d_F_read_19 (by decide +kernel) ?_
  refine va_mmin hx hb (by rw [hml]; exact hl.1.symm) hown (hts (.methodLink R_F 61 Lib.Math.min.name) (by decide +kernel)) (hts (.static Lib.Math.min.name) (by decide +kernel)) (hts (.initialized "java/lang/Math") (by decide +kernel)) (hts _ (G_in ⟨mc_min, rfl⟩)) (Nat.le_of_ble_eq_true rfl) (Nat.le_of_ble_eq_true rfl) (Nat.zero_le _) (Nat.zero_le _) d_F_read_21 ?_
  refine sx_ti (y := nI 13) (by decide +kernel) ?_
  refine lv_istore (lv' := [(4, .int (nI (13))), (3, .int (nI (9))), (2, .int (nI (3))), (7, .int (nI (5))), (5, .long z37), (0, .ref a0), (1, .ref a1)]) hx hb d_F_read_24 hl (by decide) rfl (fun ls hl => ?_)
  refine lv_lconst (v := 0) hx hb d_F_read_26 (by decide +kernel) ?_
  refine lv_lstore (lv' := [(5, .long (0 : Int64)), (4, .int (nI (13))), (3, .int (nI (9))), (2, .int (nI (3))), (7, .int (nI (5))), (0, .ref a0), (1, .ref a1)]) hx hb d_F_read_27 hl (by decide) rfl (fun ls hl => ?_)
  refine lv_iload hx hb d_F_read_29 (lv_at hl 1 rfl) ?_
  refine lv_istore (lv' := [(7, .int (nI (13))), (5, .long (0 : Int64)), (4, .int (nI (13))), (3, .int (nI (9))), (2, .int (nI (3))), (0, .ref a0), (1, .ref a1)]) hx hb d_F_read_31 hl (by decide) rfl (fun ls hl => ?_)
  refine lv_iload hx hb d_F_read_33 (lv_at hl 0 rfl) ?_
  refine lv_iload_n hx hb d_F_read_35 rfl (lv_at hl 3 rfl) ?_
  refine lv_icmp_lt (tgt := 62) hx hb d_F_read_36 (by decide) (fun q36_40 => absurd (show 13 < 9 by have q36_40 : 13 < 9 := (nI_ltI (a := 13) (b := 9) (by omega) (by omega)).mp q36_40; exact q36_40) (by decide)) (fun _ => ?_)
  refine lv_lload hx hb d_F_read_39 (lv_at hl 1 rfl) ?_
  refine lv_bipush (v := nI 8) hx hb d_F_read_41 (by decide +kernel) ?_
  refine lv_lshl hx hb d_F_read_43 rfl ?_
  refine lv_aload_n hx hb d_F_read_44 rfl (lv_at hl 6 rfl) ?_
  refine lv_iload hx hb d_F_read_45 (lv_at hl 0 rfl) ?_
  refine vx_bald hx hb hG hS hV f1 (by omega) (by decide) d_F_read_47 ?_
  refine lv_sipush (v := nI 255) hx hb d_F_read_48 (by decide +kernel) ?_
  refine lv_iand hx hb d_F_read_51 ?_
  refine lv_i2l hx hb d_F_read_52 rfl ?_
  refine lv_lor hx hb d_F_read_53 ?_
  refine vx_nmL (fun z42 ez42 => ?_)
  refine lv_lstore (lv' := [(5, .long z42), (7, .int (nI (13))), (4, .int (nI (13))), (3, .int (nI (9))), (2, .int (nI (3))), (0, .ref a0), (1, .ref a1)]) hx hb d_F_read_54 hl (by decide) rfl (fun ls hl => ?_)
  refine lv_iinc (v := nI (12)) (lv' := [(7, .int (nI (12))), (5, .long z42), (4, .int (nI (13))), (3, .int (nI (9))), (2, .int (nI (3))), (0, .ref a0), (1, .ref a1)]) hx hb d_F_read_56 hl (k := 1) rfl (vx_dec 1 (by omega)) (by decide) rfl (fun ls hl => ?_)
  refine lv_goto (tgt := 33) hx hb d_F_read_59 (by decide) ?_
  refine lv_iload hx hb d_F_read_33 (lv_at hl 0 rfl) ?_
  refine lv_iload_n hx hb d_F_read_35 rfl (lv_at hl 3 rfl) ?_
  refine lv_icmp_lt (tgt := 62) hx hb d_F_read_36 (by decide) (fun q36_42 => absurd (show 12 < 9 by have q36_42 : 12 < 9 := (nI_ltI (a := 12) (b := 9) (by omega) (by omega)).mp q36_42; exact q36_42) (by decide)) (fun _ => ?_)
  refine lv_lload hx hb d_F_read_39 (lv_at hl 1 rfl) ?_
  refine lv_bipush (v := nI 8) hx hb d_F_read_41 (by decide +kernel) ?_
  refine lv_lshl hx hb d_F_read_43 rfl ?_
  refine lv_aload_n hx hb d_F_read_44 rfl (lv_at hl 6 rfl) ?_
  refine lv_iload hx hb d_F_read_45 (lv_at hl 0 rfl) ?_
  refine vx_bald hx hb hG hS hV f1 (by omega) (by decide) d_F_read_47 ?_
  refine lv_sipush (v := nI 255) hx hb d_F_read_48 (by decide +kernel) ?_
  refine lv_iand hx hb d_F_read_51 ?_
  refine lv_i2l hx hb d_F_read_52 rfl ?_
  refine lv_lor hx hb d_F_read_53 ?_
  refine vx_nmL (fun z44 ez44 => ?_)
  refine lv_lstore (lv' := [(5, .long z44), (7, .int (nI (12))), (4, .int (nI (13))), (3, .int (nI (9))), (2, .int (nI (3))), (0, .ref a0), (1, .ref a1)]) hx hb d_F_read_54 hl (by decide) rfl (fun ls hl => ?_)
  refine lv_iinc (v := nI (11)) (lv' := [(7, .int (nI (11))), (5, .long z44), (4, .int (nI (13))), (3, .int (nI (9))), (2, .int (nI (3))), (0, .ref a0), (1, .ref a1)]) hx hb d_F_read_56 hl (k := 1) rfl (vx_dec 1 (by omega)) (by decide) rfl (fun ls hl => ?_)
  refine lv_goto (tgt := 33) hx hb d_F_read_59 (by decide) ?_
  refine lv_iload hx hb d_F_read_33 (lv_at hl 0 rfl) ?_
  refine lv_iload_n hx hb d_F_read_35 rfl (lv_at hl 3 rfl) ?_
  refine lv_icmp_lt (tgt := 62) hx hb d_F_read_36 (by decide) (fun q36_44 => absurd (show 11 < 9 by have q36_44 : 11 < 9 := (nI_ltI (a := 11) (b := 9) (by omega) (by omega)).mp q36_44; exact q36_44) (by decide)) (fun _ => ?_)
  refine lv_lload hx hb d_F_read_39 (lv_at hl 1 rfl) ?_
  refine lv_bipush (v := nI 8) hx hb d_F_read_41 (by decide +kernel) ?_
  refine lv_lshl hx hb d_F_read_43 rfl ?_
  refine lv_aload_n hx hb d_F_read_44 rfl (lv_at hl 6 rfl) ?_
  refine lv_iload hx hb d_F_read_45 (lv_at hl 0 rfl) ?_
  refine vx_bald hx hb hG hS hV f1 (by omega) (by decide) d_F_read_47 ?_
  refine lv_sipush (v := nI 255) hx hb d_F_read_48 (by decide +kernel) ?_
  refine lv_iand hx hb d_F_read_51 ?_
  refine lv_i2l hx hb d_F_read_52 rfl ?_
  refine lv_lor hx hb d_F_read_53 ?_
  refine vx_nmL (fun z46 ez46 => ?_)
  refine lv_lstore (lv' := [(5, .long z46), (7, .int (nI (11))), (4, .int (nI (13))), (3, .int (nI (9))), (2, .int (nI (3))), (0, .ref a0), (1, .ref a1)]) hx hb d_F_read_54 hl (by decide) rfl (fun ls hl => ?_)
  refine lv_iinc (v := nI (10)) (lv' := [(7, .int (nI (10))), (5, .long z46), (4, .int (nI (13))), (3, .int (nI (9))), (2, .int (nI (3))), (0, .ref a0), (1, .ref a1)]) hx hb d_F_read_56 hl (k := 1) rfl (vx_dec 1 (by omega)) (by decide) rfl (fun ls hl => ?_)
  refine lv_goto (tgt := 33) hx hb d_F_read_59 (by decide) ?_
  refine lv_iload hx hb d_F_read_33 (lv_at hl 0 rfl) ?_
  refine lv_iload_n hx hb d_F_read_35 rfl (lv_at hl 3 rfl) ?_
  refine lv_icmp_lt (tgt := 62) hx hb d_F_read_36 (by decide) (fun q36_46 => absurd (show 10 < 9 by have q36_46 : 10 < 9 := (nI_ltI (a := 10) (b := 9) (by omega) (by omega)).mp q36_46; exact q36_46) (by decide)) (fun _ => ?_)
  refine lv_lload hx hb d_F_read_39 (lv_at hl 1 rfl) ?_
  refine lv_bipush (v := nI 8) hx hb d_F_read_41 (by decide +kernel) ?_
  refine lv_lshl hx hb d_F_read_43 rfl ?_
  refine lv_aload_n hx hb d_F_read_44 rfl (lv_at hl 6 rfl) ?_
  refine lv_iload hx hb d_F_read_45 (lv_at hl 0 rfl) ?_
  refine vx_bald hx hb hG hS hV f1 (by omega) (by decide) d_F_read_47 ?_
  refine lv_sipush (v := nI 255) hx hb d_F_read_48 (by decide +kernel) ?_
  refine lv_iand hx hb d_F_read_51 ?_
  refine lv_i2l hx hb d_F_read_52 rfl ?_
  refine lv_lor hx hb d_F_read_53 ?_
  refine vx_nmL (fun z48 ez48 => ?_)
  refine lv_lstore (lv' := [(5, .long z48), (7, .int (nI (10))), (4, .int (nI (13))), (3, .int (nI (9))), (2, .int (nI (3))), (0, .ref a0), (1, .ref a1)]) hx hb d_F_read_54 hl (by decide) rfl (fun ls hl => ?_)
  refine lv_iinc (v := nI (9)) (lv' := [(7, .int (nI (9))), (5, .long z48), (4, .int (nI (13))), (3, .int (nI (9))), (2, .int (nI (3))), (0, .ref a0), (1, .ref a1)]) hx hb d_F_read_56 hl (k := 1) rfl (vx_dec 1 (by omega)) (by decide) rfl (fun ls hl => ?_)
  refine lv_goto (tgt := 33) hx hb d_F_read_59 (by decide) ?_
  refine lv_iload hx hb d_F_read_33 (lv_at hl 0 rfl) ?_
  refine lv_iload_n hx hb d_F_read_35 rfl (lv_at hl 3 rfl) ?_
  refine lv_icmp_lt (tgt := 62) hx hb d_F_read_36 (by decide) (fun q36_48 => absurd (show 9 < 9 by have q36_48 : 9 < 9 := (nI_ltI (a := 9) (b := 9) (by omega) (by omega)).mp q36_48; exact q36_48) (by decide)) (fun _ => ?_)
  refine lv_lload hx hb d_F_read_39 (lv_at hl 1 rfl) ?_
  refine lv_bipush (v := nI 8) hx hb d_F_read_41 (by decide +kernel) ?_
  refine lv_lshl hx hb d_F_read_43 rfl ?_
  refine lv_aload_n hx hb d_F_read_44 rfl (lv_at hl 6 rfl) ?_
  refine lv_iload hx hb d_F_read_45 (lv_at hl 0 rfl) ?_
  refine vx_bald hx hb hG hS hV f1 (by omega) (by decide) d_F_read_47 ?_
  refine lv_sipush (v := nI 255) hx hb d_F_read_48 (by decide +kernel) ?_
  refine lv_iand hx hb d_F_read_51 ?_
  refine lv_i2l hx hb d_F_read_52 rfl ?_
  refine lv_lor hx hb d_F_read_53 ?_
  refine vx_nmL (fun z50 ez50 => ?_)
  refine lv_lstore (lv' := [(5, .long z50), (7, .int (nI (9))), (4, .int (nI (13))), (3, .int (nI (9))), (2, .int (nI (3))), (0, .ref a0), (1, .ref a1)]) hx hb d_F_read_54 hl (by decide) rfl (fun ls hl => ?_)
  refine lv_iinc (v := nI (8)) (lv' := [(7, .int (nI (8))), (5, .long z50), (4, .int (nI (13))), (3, .int (nI (9))), (2, .int (nI (3))), (0, .ref a0), (1, .ref a1)]) hx hb d_F_read_56 hl (k := 1) rfl (vx_dec 1 (by omega)) (by decide) rfl (fun ls hl => ?_)
  refine lv_goto (tgt := 33) hx hb d_F_read_59 (by decide) ?_
  refine lv_iload hx hb d_F_read_33 (lv_at hl 0 rfl) ?_
  refine lv_iload_n hx hb d_F_read_35 rfl (lv_at hl 3 rfl) ?_
  refine lv_icmp_lt (tgt := 62) hx hb d_F_read_36 (by decide) (fun _ => ?_) (fun q36_50 => absurd (show 8 < 9 by decide) (by have q36_50 : ¬ (8 < 9) := fun z => q36_50 ((nI_ltI (a := 8) (b := 9) (by omega) (by omega)).mpr z); exact q36_50))
  refine lv_aload_n hx hb d_F_read_62 rfl (lv_at hl 5 rfl) ?_
  refine lv_iload_n hx hb d_F_read_63 rfl (lv_at hl 4 rfl) ?_
  refine lv_lload hx hb d_F_read_64 (lv_at hl 1 rfl) ?_
  obtain ⟨z0_, ⟨cz_, z1_, z2_, z3_⟩, z4_⟩ := (hz.kept hS.1) 5 (by decide)
  refine sx_gets EE (hK.2.2.1 5 (by decide)) z1_ z2_ z3_ fl_F_57 d_F_read_66 ?_
  refine lv_iload_n hx hb d_F_read_69 rfl (lv_at hl 4 rfl) ?_
  refine vx_iald hx hb hG hS hV (st_a5 hz) (by omega) (by decide) d_F_read_70 ?_
  refine sx_ti (y := nI 77) (st_H.vI (hz.kept hS.1) hV 5 (by decide) (show 3 < 10 by omega)) ?_
  refine lv_bipush (v := nI 7) hx hb d_F_read_71 (by decide +kernel) ?_
  refine lv_iand hx hb d_F_read_73 ?_
  refine sx_ti (y := nI (5)) (pk_andN (by omega) 3 (by decide +kernel)) ?_
  refine lv_lshr hx hb d_F_read_74 rfl ?_
  refine lv_lconst (v := 1) hx hb d_F_read_75 (by decide +kernel) ?_
  refine lv_iload_n hx hb d_F_read_76 rfl (lv_at hl 4 rfl) ?_
  refine vx_gi (sx_runS (As := [.int (nI (3))]) (rest := [.long (1 : Int64), .long (z50 >>> ((nI 5).toInt64 &&& 63)), .int (nI (3)), .ref a0]) EE (v_F_widthOf (X := X39) (by omega) hV) w_F_67 rfl ⟨rfl, rfl⟩ ⟨Nat.le_of_ble_eq_true rfl, Nat.le_of_ble_eq_true rfl⟩ ⟨Nat.zero_le _, Nat.zero_le _⟩ hl.1 rfl (Nat.le_of_ble_eq_true rfl) d_F_read_77) hS (fun H locs X_ eX_ hS hV => ?_)
  subst eX_
  refine sx_ti (y := nI 25) rfl ?_
  refine lv_lshl hx hb d_F_read_80 rfl ?_
  refine lv_lconst (v := 1) hx hb d_F_read_81 (by decide +kernel) ?_
  refine lv_lsub hx hb d_F_read_82 ?_
  refine lv_land hx hb d_F_read_83 ?_
  refine vx_last hx hb hG hS hV f0 o0 (by omega) (by decide) d_F_read_84 (fun H locs X52 eX52 hS hV => ?_)
  refine lv_iinc (v := nI (4)) (lv' := [(2, .int (nI (4))), (7, .int (nI (8))), (5, .long z50), (4, .int (nI (13))), (3, .int (nI (9))), (0, .ref a0), (1, .ref a1)]) hx hb d_F_read_85 hl (k := 4) rfl (sx_inc _ _) (by decide) rfl (fun ls hl => ?_)
  refine lv_goto (tgt := 2) hx hb d_F_read_88 (by decide) ?_
  refine lv_iload_n hx hb d_F_read_2 rfl (lv_at hl 0 rfl) ?_
  refine lv_bipush (v := nI 10) hx hb d_F_read_3 (by decide +kernel) ?_
  refine lv_icmp_ge (tgt := 91) hx hb d_F_read_5 (by decide) (fun q5_52 => absurd (show 10 ≤ 4 by have q5_52 : 10 ≤ 4 := (nI_leI (a := 10) (b := 4) (by omega) (by omega)).mp q5_52; exact q5_52) (by decide)) (fun _ => ?_)
  obtain ⟨z0_, ⟨cz_, z1_, z2_, z3_⟩, z4_⟩ := (hz.kept hS.1) 5 (by decide)
  refine sx_gets EE (hK.2.2.1 5 (by decide)) z1_ z2_ z3_ fl_F_57 d_F_read_8 ?_
  refine lv_iload_n hx hb d_F_read_11 rfl (lv_at hl 0 rfl) ?_
  refine vx_iald hx hb hG hS hV (st_a5 hz) (by omega) (by decide) d_F_read_12 ?_
  refine sx_ti (y := nI 102) (st_H.vI (hz.kept hS.1) hV 5 (by decide) (show 4 < 10 by omega)) ?_
  refine lv_iconst (v := nI 3) hx hb d_F_read_13 (by decide +kernel) ?_
  refine lv_ishr hx hb d_F_read_14 ?_
  refine sx_ti (y := nI (12)) (pk_shrN (by omega) _ 3 (by decide +kernel)) ?_
  refine lv_istore_n (lv' := [(3, .int (nI (12))), (2, .int (nI (4))), (7, .int (nI (8))), (5, .long z50), (4, .int (nI (13))), (0, .ref a0), (1, .ref a1)]) hx hb d_F_read_15 rfl hl (by decide) rfl (fun ls hl => ?_)
  refine lv_iload_n hx hb d_F_read_16 rfl (lv_at hl 0 rfl) ?_
  refine lv_iconst (v := nI 4) hx hb d_F_read_17 (by decide +kernel) ?_
  refine lv_iadd hx hb d_F_read_18 ?_
  refine sx_ti (y := nI (16)) (nI_add _ _) ?_
  refine lv_bipush (v := nI 31) hx hb d_F_read_19 (by decide +kernel) ?_
  refine va_mmin hx hb (by rw [hml]; exact hl.1.symm) hown (hts (.methodLink R_F 61 Lib.Math.min.name) (by decide +kernel)) (hts (.static Lib.Math.min.name) (by decide +kernel)) (hts (.initialized "java/lang/Math") (by decide +kernel)) (hts _ (G_in ⟨mc_min, rfl⟩)) (Nat.le_of_ble_eq_true rfl) (Nat.le_of_ble_eq_true rfl) (Nat.zero_le _) (Nat.zero_le _) d_F_read_21 ?_
  refine sx_ti (y := nI 16) (by decide +kernel) ?_
  refine lv_istore (lv' := [(4, .int (nI (16))), (3, .int (nI (12))), (2, .int (nI (4))), (7, .int (nI (8))), (5, .long z50), (0, .ref a0), (1, .ref a1)]) hx hb d_F_read_24 hl (by decide) rfl (fun ls hl => ?_)
  refine lv_lconst (v := 0) hx hb d_F_read_26 (by decide +kernel) ?_
  refine lv_lstore (lv' := [(5, .long (0 : Int64)), (4, .int (nI (16))), (3, .int (nI (12))), (2, .int (nI (4))), (7, .int (nI (8))), (0, .ref a0), (1, .ref a1)]) hx hb d_F_read_27 hl (by decide) rfl (fun ls hl => ?_)
  refine lv_iload hx hb d_F_read_29 (lv_at hl 1 rfl) ?_
  refine lv_istore (lv' := [(7, .int (nI (16))), (5, .long (0 : Int64)), (4, .int (nI (16))), (3, .int (nI (12))), (2, .int (nI (4))), (0, .ref a0), (1, .ref a1)]) hx hb d_F_read_31 hl (by decide) rfl (fun ls hl => ?_)
  refine lv_iload hx hb d_F_read_33 (lv_at hl 0 rfl) ?_
  refine lv_iload_n hx hb d_F_read_35 rfl (lv_at hl 3 rfl) ?_
  refine lv_icmp_lt (tgt := 62) hx hb d_F_read_36 (by decide) (fun q36_53 => absurd (show 16 < 12 by have q36_53 : 16 < 12 := (nI_ltI (a := 16) (b := 12) (by omega) (by omega)).mp q36_53; exact q36_53) (by decide)) (fun _ => ?_)
  refine lv_lload hx hb d_F_read_39 (lv_at hl 1 rfl) ?_
  refine lv_bipush (v := nI 8) hx hb d_F_read_41 (by decide +kernel) ?_
  refine lv_lshl hx hb d_F_read_43 rfl ?_
  refine lv_aload_n hx hb d_F_read_44 rfl (lv_at hl 6 rfl) ?_
  refine lv_iload hx hb d_F_read_45 (lv_at hl 0 rfl) ?_
  refine vx_bald hx hb hG hS hV f1 (by omega) (by decide) d_F_read_47 ?_
  refine lv_sipush (v := nI 255) hx hb d_F_read_48 (by decide +kernel) ?_
  refine lv_iand hx hb d_F_read_51 ?_
  refine lv_i2l hx hb d_F_read_52 rfl ?_
  refine lv_lor hx hb d_F_read_53 ?_
  refine vx_nmL (fun z55 ez55 => ?_)
  refine lv_lstore (lv' := [(5, .long z55), (7, .int (nI (16))), (4, .int (nI (16))), (3, .int (nI (12))), (2, .int (nI (4))), (0, .ref a0), (1, .ref a1)]) hx hb d_F_read_54 hl (by decide) rfl (fun ls hl => ?_)
  refine lv_iinc (v := nI (15)) (lv' := [(7, .int (nI (15))), (5, .long z55), (4, .int (nI (16))), (3, .int (nI (12))), (2, .int (nI (4))), (0, .ref a0), (1, .ref a1)]) hx hb d_F_read_56 hl (k := 1) rfl (vx_dec 1 (by omega)) (by decide) rfl (fun ls hl => ?_)
  refine lv_goto (tgt := 33) hx hb d_F_read_59 (by decide) ?_
  refine lv_iload hx hb d_F_read_33 (lv_at hl 0 rfl) ?_
  refine lv_iload_n hx hb d_F_read_35 rfl (lv_at hl 3 rfl) ?_
  refine lv_icmp_lt (tgt := 62) hx hb d_F_read_36 (by decide) (fun q36_55 => absurd (show 15 < 12 by have q36_55 : 15 < 12 := (nI_ltI (a := 15) (b := 12) (by omega) (by omega)).mp q36_55; exact q36_55) (by decide)) (fun _ => ?_)
  refine lv_lload hx hb d_F_read_39 (lv_at hl 1 rfl) ?_
  refine lv_bipush (v := nI 8) hx hb d_F_read_41 (by decide +kernel) ?_
  refine lv_lshl hx hb d_F_read_43 rfl ?_
  refine lv_aload_n hx hb d_F_read_44 rfl (lv_at hl 6 rfl) ?_
  refine lv_iload hx hb d_F_read_45 (lv_at hl 0 rfl) ?_
  refine vx_bald hx hb hG hS hV f1 (by omega) (by decide) d_F_read_47 ?_
  refine lv_sipush (v := nI 255) hx hb d_F_read_48 (by decide +kernel) ?_
  refine lv_iand hx hb d_F_read_51 ?_
  refine lv_i2l hx hb d_F_read_52 rfl ?_
  refine lv_lor hx hb d_F_read_53 ?_
  refine vx_nmL (fun z57 ez57 => ?_)
  refine lv_lstore (lv' := [(5, .long z57), (7, .int (nI (15))), (4, .int (nI (16))), (3, .int (nI (12))), (2, .int (nI (4))), (0, .ref a0), (1, .ref a1)]) hx hb d_F_read_54 hl (by decide) rfl (fun ls hl => ?_)
  refine lv_iinc (v := nI (14)) (lv' := [(7, .int (nI (14))), (5, .long z57), (4, .int (nI (16))), (3, .int (nI (12))), (2, .int (nI (4))), (0, .ref a0), (1, .ref a1)]) hx hb d_F_read_56 hl (k := 1) rfl (vx_dec 1 (by omega)) (by decide) rfl (fun ls hl => ?_)
  refine lv_goto (tgt := 33) hx hb d_F_read_59 (by decide) ?_
  refine lv_iload hx hb d_F_read_33 (lv_at hl 0 rfl) ?_
  refine lv_iload_n hx hb d_F_read_35 rfl (lv_at hl 3 rfl) ?_
  refine lv_icmp_lt (tgt := 62) hx hb d_F_read_36 (by decide) (fun q36_57 => absurd (show 14 < 12 by have q36_57 : 14 < 12 := (nI_ltI (a := 14) (b := 12) (by omega) (by omega)).mp q36_57; exact q36_57) (by decide)) (fun _ => ?_)
  refine lv_lload hx hb d_F_read_39 (lv_at hl 1 rfl) ?_
  refine lv_bipush (v := nI 8) hx hb d_F_read_41 (by decide +kernel) ?_
  refine lv_lshl hx hb d_F_read_43 rfl ?_
  refine lv_aload_n hx hb d_F_read_44 rfl (lv_at hl 6 rfl) ?_
  refine lv_iload hx hb d_F_read_45 (lv_at hl 0 rfl) ?_
  refine vx_bald hx hb hG hS hV f1 (by omega) (by decide) d_F_read_47 ?_
  refine lv_sipush (v := nI 255) hx hb d_F_read_48 (by decide +kernel) ?_
  refine lv_iand hx hb d_F_read_51 ?_
  refine lv_i2l hx hb d_F_read_52 rfl ?_
  refine lv_lor hx hb d_F_read_53 ?_
  refine vx_nmL (fun z59 ez59 => ?_)
  refine lv_lstore (lv' := [(5, .long z59), (7, .int (nI (14))), (4, .int (nI (16))), (3, .int (nI (12))), (2, .int (nI (4))), (0, .ref a0), (1, .ref a1)]) hx hb d_F_read_54 hl (by decide) rfl (fun ls hl => ?_)
  refine lv_iinc (v := nI (13)) (lv' := [(7, .int (nI (13))), (5, .long z59), (4, .int (nI (16))), (3, .int (nI (12))), (2, .int (nI (4))), (0, .ref a0), (1, .ref a1)]) hx hb d_F_read_56 hl (k := 1) rfl (vx_dec 1 (by omega)) (by decide) rfl (fun ls hl => ?_)
  refine lv_goto (tgt := 33) hx hb d_F_read_59 (by decide) ?_
  refine lv_iload hx hb d_F_read_33 (lv_at hl 0 rfl) ?_
  refine lv_iload_n hx hb d_F_read_35 rfl (lv_at hl 3 rfl) ?_
  refine lv_icmp_lt (tgt := 62) hx hb d_F_read_36 (by decide) (fun q36_59 => absurd (show 13 < 12 by have q36_59 : 13 < 12 := (nI_ltI (a := 13) (b := 12) (by omega) (by omega)).mp q36_59; exact q36_59) (by decide)) (fun _ => ?_)
  refine lv_lload hx hb d_F_read_39 (lv_at hl 1 rfl) ?_
  refine lv_bipush (v := nI 8) hx hb d_F_read_41 (by decide +kernel) ?_
  refine lv_lshl hx hb d_F_read_43 rfl ?_
  refine lv_aload_n hx hb d_F_read_44 rfl (lv_at hl 6 rfl) ?_
  refine lv_iload hx hb d_F_read_45 (lv_at hl 0 rfl) ?_
  refine vx_bald hx hb hG hS hV f1 (by omega) (by decide) d_F_read_47 ?_
  refine lv_sipush (v := nI 255) hx hb d_F_read_48 (by decide +kernel) ?_
  refine lv_iand hx hb d_F_read_51 ?_
  refine lv_i2l hx hb d_F_read_52 rfl ?_
  refine lv_lor hx hb d_F_read_53 ?_
  refine vx_nmL (fun z61 ez61 => ?_)
  refine lv_lstore (lv' := [(5, .long z61), (7, .int (nI (13))), (4, .int (nI (16))), (3, .int (nI (12))), (2, .int (nI (4))), (0, .ref a0), (1, .ref a1)]) hx hb d_F_read_54 hl (by decide) rfl (fun ls hl => ?_)
  refine lv_iinc (v := nI (12)) (lv' := [(7, .int (nI (12))), (5, .long z61), (4, .int (nI (16))), (3, .int (nI (12))), (2, .int (nI (4))), (0, .ref a0), (1, .ref a1)]) hx hb d_F_read_56 hl (k := 1) rfl (vx_dec 1 (by omega)) (by decide) rfl (fun ls hl => ?_)
  refine lv_goto (tgt := 33) hx hb d_F_read_59 (by decide) ?_
  refine lv_iload hx hb d_F_read_33 (lv_at hl 0 rfl) ?_
  refine lv_iload_n hx hb d_F_read_35 rfl (lv_at hl 3 rfl) ?_
  refine lv_icmp_lt (tgt := 62) hx hb d_F_read_36 (by decide) (fun q36_61 => absurd (show 12 < 12 by have q36_61 : 12 < 12 := (nI_ltI (a := 12) (b := 12) (by omega) (by omega)).mp q36_61; exact q36_61) (by decide)) (fun _ => ?_)
  refine lv_lload hx hb d_F_read_39 (lv_at hl 1 rfl) ?_
  refine lv_bipush (v := nI 8) hx hb d_F_read_41 (by decide +kernel) ?_
  refine lv_lshl hx hb d_F_read_43 rfl ?_
  refine lv_aload_n hx hb d_F_read_44 rfl (lv_at hl 6 rfl) ?_
  refine lv_iload hx hb d_F_read_45 (lv_at hl 0 rfl) ?_
  refine vx_bald hx hb hG hS hV f1 (by omega) (by decide) d_F_read_47 ?_
  refine lv_sipush (v := nI 255) hx hb d_F_read_48 (by decide +kernel) ?_
  refine lv_iand hx hb d_F_read_51 ?_
  refine lv_i2l hx hb d_F_read_52 rfl ?_
  refine lv_lor hx hb d_F_read_53 ?_
  refine vx_nmL (fun z63 ez63 => ?_)
  refine lv_lstore (lv' := [(5, .long z63), (7, .int (nI (12))), (4, .int (nI (16))), (3, .int (nI (12))), (2, .int (nI (4))), (0, .ref a0), (1, .ref a1)]) hx hb d_F_read_54 hl (by decide) rfl (fun ls hl => ?_)
  refine lv_iinc (v := nI (11)) (lv' := [(7, .int (nI (11))), (5, .long z63), (4, .int (nI (16))), (3, .int (nI (12))), (2, .int (nI (4))), (0, .ref a0), (1, .ref a1)]) hx hb d_F_read_56 hl (k := 1) rfl (vx_dec 1 (by omega)) (by decide) rfl (fun ls hl => ?_)
  refine lv_goto (tgt := 33) hx hb d_F_read_59 (by decide) ?_
  refine lv_iload hx hb d_F_read_33 (lv_at hl 0 rfl) ?_
  refine lv_iload_n hx hb d_F_read_35 rfl (lv_at hl 3 rfl) ?_
  refine lv_icmp_lt (tgt := 62) hx hb d_F_read_36 (by decide) (fun _ => ?_) (fun q36_63 => absurd (show 11 < 12 by decide) (by have q36_63 : ¬ (11 < 12) := fun z => q36_63 ((nI_ltI (a := 11) (b := 12) (by omega) (by omega)).mpr z); exact q36_63))
  refine lv_aload_n hx hb d_F_read_62 rfl (lv_at hl 5 rfl) ?_
  refine lv_iload_n hx hb d_F_read_63 rfl (lv_at hl 4 rfl) ?_
  refine lv_lload hx hb d_F_read_64 (lv_at hl 1 rfl) ?_
  obtain ⟨z0_, ⟨cz_, z1_, z2_, z3_⟩, z4_⟩ := (hz.kept hS.1) 5 (by decide)
  refine sx_gets EE (hK.2.2.1 5 (by decide)) z1_ z2_ z3_ fl_F_57 d_F_read_66 ?_
  refine lv_iload_n hx hb d_F_read_69 rfl (lv_at hl 4 rfl) ?_
  refine vx_iald hx hb hG hS hV (st_a5 hz) (by omega) (by decide) d_F_read_70 ?_
  refine sx_ti (y := nI 102) (st_H.vI (hz.kept hS.1) hV 5 (by decide) (show 4 < 10 by omega)) ?_
  refine lv_bipush (v := nI 7) hx hb d_F_read_71 (by decide +kernel) ?_
  refine lv_iand hx hb d_F_read_73 ?_
  refine sx_ti (y := nI (6)) (pk_andN (by omega) 3 (by decide +kernel)) ?_
  refine lv_lshr hx hb d_F_read_74 rfl ?_
  refine lv_lconst (v := 1) hx hb d_F_read_75 (by decide +kernel) ?_
  refine lv_iload_n hx hb d_F_read_76 rfl (lv_at hl 4 rfl) ?_
  refine vx_gi (sx_runS (As := [.int (nI (4))]) (rest := [.long (1 : Int64), .long (z63 >>> ((nI 6).toInt64 &&& 63)), .int (nI (4)), .ref a0]) EE (v_F_widthOf (X := X52) (by omega) hV) w_F_67 rfl ⟨rfl, rfl⟩ ⟨Nat.le_of_ble_eq_true rfl, Nat.le_of_ble_eq_true rfl⟩ ⟨Nat.zero_le _, Nat.zero_le _⟩ hl.1 rfl (Nat.le_of_ble_eq_true rfl) d_F_read_77) hS (fun H locs X_ eX_ hS hV => ?_)
  subst eX_
  refine sx_ti (y := nI 26) rfl ?_
  refine lv_lshl hx hb d_F_read_80 rfl ?_
  refine lv_lconst (v := 1) hx hb d_F_read_81 (by decide +kernel) ?_
  refine lv_lsub hx hb d_F_read_82 ?_
  refine lv_land hx hb d_F_read_83 ?_
  refine vx_last hx hb hG hS hV f0 o0 (by omega) (by decide) d_F_read_84 (fun H locs X65 eX65 hS hV => ?_)
  refine lv_iinc (v := nI (5)) (lv' := [(2, .int (nI (5))), (7, .int (nI (11))), (5, .long z63), (4, .int (nI (16))), (3, .int (nI (12))), (0, .ref a0), (1, .ref a1)]) hx hb d_F_read_85 hl (k := 4) rfl (sx_inc _ _) (by decide) rfl (fun ls hl => ?_)
  refine lv_goto (tgt := 2) hx hb d_F_read_88 (by decide) ?_
  refine lv_iload_n hx hb d_F_read_2 rfl (lv_at hl 0 rfl) ?_
  refine lv_bipush (v := nI 10) hx hb d_F_read_3 (by decide +kernel) ?_
  refine lv_icmp_ge (tgt := 91) hx hb d_F_read_5 (by decide) (fun q5_65 => absurd (show 10 ≤ 5 by have q5_65 : 10 ≤ 5 := (nI_leI (a := 10) (b := 5) (by omega) (by omega)).mp q5_65; exact q5_65) (by decide)) (fun _ => ?_)
  obtain ⟨z0_, ⟨cz_, z1_, z2_, z3_⟩, z4_⟩ := (hz.kept hS.1) 5 (by decide)
  refine sx_gets EE (hK.2.2.1 5 (by decide)) z1_ z2_ z3_ fl_F_57 d_F_read_8 ?_
  refine lv_iload_n hx hb d_F_read_11 rfl (lv_at hl 0 rfl) ?_
  refine vx_iald hx hb hG hS hV (st_a5 hz) (by omega) (by decide) d_F_read_12 ?_
  refine sx_ti (y := nI 128) (st_H.vI (hz.kept hS.1) hV 5 (by decide) (show 5 < 10 by omega)) ?_
  refine lv_iconst (v := nI 3) hx hb d_F_read_13 (by decide +kernel) ?_
  refine lv_ishr hx hb d_F_read_14 ?_
  refine sx_ti (y := nI (16)) (pk_shrN (by omega) _ 3 (by decide +kernel)) ?_
  refine lv_istore_n (lv' := [(3, .int (nI (16))), (2, .int (nI (5))), (7, .int (nI (11))), (5, .long z63), (4, .int (nI (16))), (0, .ref a0), (1, .ref a1)]) hx hb d_F_read_15 rfl hl (by decide) rfl (fun ls hl => ?_)
  refine lv_iload_n hx hb d_F_read_16 rfl (lv_at hl 0 rfl) ?_
  refine lv_iconst (v := nI 4) hx hb d_F_read_17 (by decide +kernel) ?_
  refine lv_iadd hx hb d_F_read_18 ?_
  refine sx_ti (y := nI (20)) (nI_add _ _) ?_
  refine lv_bipush (v := nI 31) hx hb d_F_read_19 (by decide +kernel) ?_
  refine va_mmin hx hb (by rw [hml]; exact hl.1.symm) hown (hts (.methodLink R_F 61 Lib.Math.min.name) (by decide +kernel)) (hts (.static Lib.Math.min.name) (by decide +kernel)) (hts (.initialized "java/lang/Math") (by decide +kernel)) (hts _ (G_in ⟨mc_min, rfl⟩)) (Nat.le_of_ble_eq_true rfl) (Nat.le_of_ble_eq_true rfl) (Nat.zero_le _) (Nat.zero_le _) d_F_read_21 ?_
  refine sx_ti (y := nI 20) (by decide +kernel) ?_
  refine lv_istore (lv' := [(4, .int (nI (20))), (3, .int (nI (16))), (2, .int (nI (5))), (7, .int (nI (11))), (5, .long z63), (0, .ref a0), (1, .ref a1)]) hx hb d_F_read_24 hl (by decide) rfl (fun ls hl => ?_)
  refine lv_lconst (v := 0) hx hb d_F_read_26 (by decide +kernel) ?_
  refine lv_lstore (lv' := [(5, .long (0 : Int64)), (4, .int (nI (20))), (3, .int (nI (16))), (2, .int (nI (5))), (7, .int (nI (11))), (0, .ref a0), (1, .ref a1)]) hx hb d_F_read_27 hl (by decide) rfl (fun ls hl => ?_)
  refine lv_iload hx hb d_F_read_29 (lv_at hl 1 rfl) ?_
  refine lv_istore (lv' := [(7, .int (nI (20))), (5, .long (0 : Int64)), (4, .int (nI (20))), (3, .int (nI (16))), (2, .int (nI (5))), (0, .ref a0), (1, .ref a1)]) hx hb d_F_read_31 hl (by decide) rfl (fun ls hl => ?_)
  refine lv_iload hx hb d_F_read_33 (lv_at hl 0 rfl) ?_
  refine lv_iload_n hx hb d_F_read_35 rfl (lv_at hl 3 rfl) ?_
  refine lv_icmp_lt (tgt := 62) hx hb d_F_read_36 (by decide) (fun q36_66 => absurd (show 20 < 16 by have q36_66 : 20 < 16 := (nI_ltI (a := 20) (b := 16) (by omega) (by omega)).mp q36_66; exact q36_66) (by decide)) (fun _ => ?_)
  refine lv_lload hx hb d_F_read_39 (lv_at hl 1 rfl) ?_
  refine lv_bipush (v := nI 8) hx hb d_F_read_41 (by decide +kernel) ?_
  refine lv_lshl hx hb d_F_read_43 rfl ?_
  refine lv_aload_n hx hb d_F_read_44 rfl (lv_at hl 6 rfl) ?_
  refine lv_iload hx hb d_F_read_45 (lv_at hl 0 rfl) ?_
  refine vx_bald hx hb hG hS hV f1 (by omega) (by decide) d_F_read_47 ?_
  refine lv_sipush (v := nI 255) hx hb d_F_read_48 (by decide +kernel) ?_
  refine lv_iand hx hb d_F_read_51 ?_
  refine lv_i2l hx hb d_F_read_52 rfl ?_
  refine lv_lor hx hb d_F_read_53 ?_
  refine vx_nmL (fun z68 ez68 => ?_)
  refine lv_lstore (lv' := [(5, .long z68), (7, .int (nI (20))), (4, .int (nI (20))), (3, .int (nI (16))), (2, .int (nI (5))), (0, .ref a0), (1, .ref a1)]) hx hb d_F_read_54 hl (by decide) rfl (fun ls hl => ?_)
  refine lv_iinc (v := nI (19)) (lv' := [(7, .int (nI (19))), (5, .long z68), (4, .int (nI (20))), (3, .int (nI (16))), (2, .int (nI (5))), (0, .ref a0), (1, .ref a1)]) hx hb d_F_read_56 hl (k := 1) rfl (vx_dec 1 (by omega)) (by decide) rfl (fun ls hl => ?_)
  refine lv_goto (tgt := 33) hx hb d_F_read_59 (by decide) ?_
  refine lv_iload hx hb d_F_read_33 (lv_at hl 0 rfl) ?_
  refine lv_iload_n hx hb d_F_read_35 rfl (lv_at hl 3 rfl) ?_
  refine lv_icmp_lt (tgt := 62) hx hb d_F_read_36 (by decide) (fun q36_68 => absurd (show 19 < 16 by have q36_68 : 19 < 16 := (nI_ltI (a := 19) (b := 16) (by omega) (by omega)).mp q36_68; exact q36_68) (by decide)) (fun _ => ?_)
  refine lv_lload hx hb d_F_read_39 (lv_at hl 1 rfl) ?_
  refine lv_bipush (v := nI 8) hx hb d_F_read_41 (by decide +kernel) ?_
  refine lv_lshl hx hb d_F_read_43 rfl ?_
  refine lv_aload_n hx hb d_F_read_44 rfl (lv_at hl 6 rfl) ?_
  refine lv_iload hx hb d_F_read_45 (lv_at hl 0 rfl) ?_
  refine vx_bald hx hb hG hS hV f1 (by omega) (by decide) d_F_read_47 ?_
  refine lv_sipush (v := nI 255) hx hb d_F_read_48 (by decide +kernel) ?_
  refine lv_iand hx hb d_F_read_51 ?_
  refine lv_i2l hx hb d_F_read_52 rfl ?_
  refine lv_lor hx hb d_F_read_53 ?_
  refine vx_nmL (fun z70 ez70 => ?_)
  refine lv_lstore (lv' := [(5, .long z70), (7, .int (nI (19))), (4, .int (nI (20))), (3, .int (nI (16))), (2, .int (nI (5))), (0, .ref a0), (1, .ref a1)]) hx hb d_F_read_54 hl (by decide) rfl (fun ls hl => ?_)
  refine lv_iinc (v := nI (18)) (lv' := [(7, .int (nI (18))), (5, .long z70), (4, .int (nI (20))), (3, .int (nI (16))), (2, .int (nI (5))), (0, .ref a0), (1, .ref a1)]) hx hb d_F_read_56 hl (k := 1) rfl (vx_dec 1 (by omega)) (by decide) rfl (fun ls hl => ?_)
  refine lv_goto (tgt := 33) hx hb d_F_read_59 (by decide) ?_
  refine lv_iload hx hb d_F_read_33 (lv_at hl 0 rfl) ?_
  refine lv_iload_n hx hb d_F_read_35 rfl (lv_at hl 3 rfl) ?_
  refine lv_icmp_lt (tgt := 62) hx hb d_F_read_36 (by decide) (fun q36_70 => absurd (show 18 < 16 by have q36_70 : 18 < 16 := (nI_ltI (a := 18) (b := 16) (by omega) (by omega)).mp q36_70; exact q36_70) (by decide)) (fun _ => ?_)
  refine lv_lload hx hb d_F_read_39 (lv_at hl 1 rfl) ?_
  refine lv_bipush (v := nI 8) hx hb d_F_read_41 (by decide +kernel) ?_
  refine lv_lshl hx hb d_F_read_43 rfl ?_
  refine lv_aload_n hx hb d_F_read_44 rfl (lv_at hl 6 rfl) ?_
  refine lv_iload hx hb d_F_read_45 (lv_at hl 0 rfl) ?_
  refine vx_bald hx hb hG hS hV f1 (by omega) (by decide) d_F_read_47 ?_
  refine lv_sipush (v := nI 255) hx hb d_F_read_48 (by decide +kernel) ?_
  refine lv_iand hx hb d_F_read_51 ?_
  refine lv_i2l hx hb d_F_read_52 rfl ?_
  refine lv_lor hx hb d_F_read_53 ?_
  refine vx_nmL (fun z72 ez72 => ?_)
  refine lv_lstore (lv' := [(5, .long z72), (7, .int (nI (18))), (4, .int (nI (20))), (3, .int (nI (16))), (2, .int (nI (5))), (0, .ref a0), (1, .ref a1)]) hx hb d_F_read_54 hl (by decide) rfl (fun ls hl => ?_)
  refine lv_iinc (v := nI (17)) (lv' := [(7, .int (nI (17))), (5, .long z72), (4, .int (nI (20))), (3, .int (nI (16))), (2, .int (nI (5))), (0, .ref a0), (1, .ref a1)]) hx hb d_F_read_56 hl (k := 1) rfl (vx_dec 1 (by omega)) (by decide) rfl (fun ls hl => ?_)
  refine lv_goto (tgt := 33) hx hb d_F_read_59 (by decide) ?_
  refine lv_iload hx hb d_F_read_33 (lv_at hl 0 rfl) ?_
  refine lv_iload_n hx hb d_F_read_35 rfl (lv_at hl 3 rfl) ?_
  refine lv_icmp_lt (tgt := 62) hx hb d_F_read_36 (by decide) (fun q36_72 => absurd (show 17 < 16 by have q36_72 : 17 < 16 := (nI_ltI (a := 17) (b := 16) (by omega) (by omega)).mp q36_72; exact q36_72) (by decide)) (fun _ => ?_)
  refine lv_lload hx hb d_F_read_39 (lv_at hl 1 rfl) ?_
  refine lv_bipush (v := nI 8) hx hb d_F_read_41 (by decide +kernel) ?_
  refine lv_lshl hx hb d_F_read_43 rfl ?_
  refine lv_aload_n hx hb d_F_read_44 rfl (lv_at hl 6 rfl) ?_
  refine lv_iload hx hb d_F_read_45 (lv_at hl 0 rfl) ?_
  refine vx_bald hx hb hG hS hV f1 (by omega) (by decide) d_F_read_47 ?_
  refine lv_sipush (v := nI 255) hx hb d_F_read_48 (by decide +kernel) ?_
  refine lv_iand hx hb d_F_read_51 ?_
  refine lv_i2l hx hb d_F_read_52 rfl ?_
  refine lv_lor hx hb d_F_read_53 ?_
  refine vx_nmL (fun z74 ez74 => ?_)
  refine lv_lstore (lv' := [(5, .long z74), (7, .int (nI (17))), (4, .int (nI (20))), (3, .int (nI (16))), (2, .int (nI (5))), (0, .ref a0), (1, .ref a1)]) hx hb d_F_read_54 hl (by decide) rfl (fun ls hl => ?_)
  refine lv_iinc (v := nI (16)) (lv' := [(7, .int (nI (16))), (5, .long z74), (4, .int (nI (20))), (3, .int (nI (16))), (2, .int (nI (5))), (0, .ref a0), (1, .ref a1)]) hx hb d_F_read_56 hl (k := 1) rfl (vx_dec 1 (by omega)) (by decide) rfl (fun ls hl => ?_)
  refine lv_goto (tgt := 33) hx hb d_F_read_59 (by decide) ?_
  refine lv_iload hx hb d_F_read_33 (lv_at hl 0 rfl) ?_
  refine lv_iload_n hx hb d_F_read_35 rfl (lv_at hl 3 rfl) ?_
  refine lv_icmp_lt (tgt := 62) hx hb d_F_read_36 (by decide) (fun q36_74 => absurd (show 16 < 16 by have q36_74 : 16 < 16 := (nI_ltI (a := 16) (b := 16) (by omega) (by omega)).mp q36_74; exact q36_74) (by decide)) (fun _ => ?_)
  refine lv_lload hx hb d_F_read_39 (lv_at hl 1 rfl) ?_
  refine lv_bipush (v := nI 8) hx hb d_F_read_41 (by decide +kernel) ?_
  refine lv_lshl hx hb d_F_read_43 rfl ?_
  refine lv_aload_n hx hb d_F_read_44 rfl (lv_at hl 6 rfl) ?_
  refine lv_iload hx hb d_F_read_45 (lv_at hl 0 rfl) ?_
  refine vx_bald hx hb hG hS hV f1 (by omega) (by decide) d_F_read_47 ?_
  refine lv_sipush (v := nI 255) hx hb d_F_read_48 (by decide +kernel) ?_
  refine lv_iand hx hb d_F_read_51 ?_
  refine lv_i2l hx hb d_F_read_52 rfl ?_
  refine lv_lor hx hb d_F_read_53 ?_
  refine vx_nmL (fun z76 ez76 => ?_)
  refine lv_lstore (lv' := [(5, .long z76), (7, .int (nI (16))), (4, .int (nI (20))), (3, .int (nI (16))), (2, .int (nI (5))), (0, .ref a0), (1, .ref a1)]) hx hb d_F_read_54 hl (by decide) rfl (fun ls hl => ?_)
  refine lv_iinc (v := nI (15)) (lv' := [(7, .int (nI (15))), (5, .long z76), (4, .int (nI (20))), (3, .int (nI (16))), (2, .int (nI (5))), (0, .ref a0), (1, .ref a1)]) hx hb d_F_read_56 hl (k := 1) rfl (vx_dec 1 (by omega)) (by decide) rfl (fun ls hl => ?_)
  refine lv_goto (tgt := 33) hx hb d_F_read_59 (by decide) ?_
  refine lv_iload hx hb d_F_read_33 (lv_at hl 0 rfl) ?_
  refine lv_iload_n hx hb d_F_read_35 rfl (lv_at hl 3 rfl) ?_
  refine lv_icmp_lt (tgt := 62) hx hb d_F_read_36 (by decide) (fun _ => ?_) (fun q36_76 => absurd (show 15 < 16 by decide) (by have q36_76 : ¬ (15 < 16) := fun z => q36_76 ((nI_ltI (a := 15) (b := 16) (by omega) (by omega)).mpr z); exact q36_76))
  refine lv_aload_n hx hb d_F_read_62 rfl (lv_at hl 5 rfl) ?_
  refine lv_iload_n hx hb d_F_read_63 rfl (lv_at hl 4 rfl) ?_
  refine lv_lload hx hb d_F_read_64 (lv_at hl 1 rfl) ?_
  obtain ⟨z0_, ⟨cz_, z1_, z2_, z3_⟩, z4_⟩ := (hz.kept hS.1) 5 (by decide)
  refine sx_gets EE (hK.2.2.1 5 (by decide)) z1_ z2_ z3_ fl_F_57 d_F_read_66 ?_
  refine lv_iload_n hx hb d_F_read_69 rfl (lv_at hl 4 rfl) ?_
  refine vx_iald hx hb hG hS hV (st_a5 hz) (by omega) (by decide) d_F_read_70 ?_
  refine sx_ti (y := nI 128) (st_H.vI (hz.kept hS.1) hV 5 (by decide) (show 5 < 10 by omega)) ?_
  refine lv_bipush (v := nI 7) hx hb d_F_read_71 (by decide +kernel) ?_
  refine lv_iand hx hb d_F_read_73 ?_
  refine sx_ti (y := nI (0)) (pk_andN (by omega) 3 (by decide +kernel)) ?_
  refine lv_lshr hx hb d_F_read_74 rfl ?_
  refine lv_lconst (v := 1) hx hb d_F_read_75 (by decide +kernel) ?_
  refine lv_iload_n hx hb d_F_read_76 rfl (lv_at hl 4 rfl) ?_
  refine vx_gi (sx_runS (As := [.int (nI (5))]) (rest := [.long (1 : Int64), .long (z76 >>> ((nI 0).toInt64 &&& 63)), .int (nI (5)), .ref a0]) EE (v_F_widthOf (X := X65) (by omega) hV) w_F_67 rfl ⟨rfl, rfl⟩ ⟨Nat.le_of_ble_eq_true rfl, Nat.le_of_ble_eq_true rfl⟩ ⟨Nat.zero_le _, Nat.zero_le _⟩ hl.1 rfl (Nat.le_of_ble_eq_true rfl) d_F_read_77) hS (fun H locs X_ eX_ hS hV => ?_)
  subst eX_
  refine sx_ti (y := nI 25) rfl ?_
  refine lv_lshl hx hb d_F_read_80 rfl ?_
  refine lv_lconst (v := 1) hx hb d_F_read_81 (by decide +kernel) ?_
  refine lv_lsub hx hb d_F_read_82 ?_
  refine lv_land hx hb d_F_read_83 ?_
  refine vx_last hx hb hG hS hV f0 o0 (by omega) (by decide) d_F_read_84 (fun H locs X78 eX78 hS hV => ?_)
  refine lv_iinc (v := nI (6)) (lv' := [(2, .int (nI (6))), (7, .int (nI (15))), (5, .long z76), (4, .int (nI (20))), (3, .int (nI (16))), (0, .ref a0), (1, .ref a1)]) hx hb d_F_read_85 hl (k := 4) rfl (sx_inc _ _) (by decide) rfl (fun ls hl => ?_)
  refine lv_goto (tgt := 2) hx hb d_F_read_88 (by decide) ?_
  refine lv_iload_n hx hb d_F_read_2 rfl (lv_at hl 0 rfl) ?_
  refine lv_bipush (v := nI 10) hx hb d_F_read_3 (by decide +kernel) ?_
  refine lv_icmp_ge (tgt := 91) hx hb d_F_read_5 (by decide) (fun q5_78 => absurd (show 10 ≤ 6 by have q5_78 : 10 ≤ 6 := (nI_leI (a := 10) (b := 6) (by omega) (by omega)).mp q5_78; exact q5_78) (by decide)) (fun _ => ?_)
  obtain ⟨z0_, ⟨cz_, z1_, z2_, z3_⟩, z4_⟩ := (hz.kept hS.1) 5 (by decide)
  refine sx_gets EE (hK.2.2.1 5 (by decide)) z1_ z2_ z3_ fl_F_57 d_F_read_8 ?_
  refine lv_iload_n hx hb d_F_read_11 rfl (lv_at hl 0 rfl) ?_
  refine vx_iald hx hb hG hS hV (st_a5 hz) (by omega) (by decide) d_F_read_12 ?_
  refine sx_ti (y := nI 153) (st_H.vI (hz.kept hS.1) hV 5 (by decide) (show 6 < 10 by omega)) ?_
  refine lv_iconst (v := nI 3) hx hb d_F_read_13 (by decide +kernel) ?_
  refine lv_ishr hx hb d_F_read_14 ?_
  refine sx_ti (y := nI (19)) (pk_shrN (by omega) _ 3 (by decide +kernel)) ?_
  refine lv_istore_n (lv' := [(3, .int (nI (19))), (2, .int (nI (6))), (7, .int (nI (15))), (5, .long z76), (4, .int (nI (20))), (0, .ref a0), (1, .ref a1)]) hx hb d_F_read_15 rfl hl (by decide) rfl (fun ls hl => ?_)
  refine lv_iload_n hx hb d_F_read_16 rfl (lv_at hl 0 rfl) ?_
  refine lv_iconst (v := nI 4) hx hb d_F_read_17 (by decide +kernel) ?_
  refine lv_iadd hx hb d_F_read_18 ?_
  refine sx_ti (y := nI (23)) (nI_add _ _) ?_
  refine lv_bipush (v := nI 31) hx hb d_F_read_19 (by decide +kernel) ?_
  refine va_mmin hx hb (by rw [hml]; exact hl.1.symm) hown (hts (.methodLink R_F 61 Lib.Math.min.name) (by decide +kernel)) (hts (.static Lib.Math.min.name) (by decide +kernel)) (hts (.initialized "java/lang/Math") (by decide +kernel)) (hts _ (G_in ⟨mc_min, rfl⟩)) (Nat.le_of_ble_eq_true rfl) (Nat.le_of_ble_eq_true rfl) (Nat.zero_le _) (Nat.zero_le _) d_F_read_21 ?_
  refine sx_ti (y := nI 23) (by decide +kernel) ?_
  refine lv_istore (lv' := [(4, .int (nI (23))), (3, .int (nI (19))), (2, .int (nI (6))), (7, .int (nI (15))), (5, .long z76), (0, .ref a0), (1, .ref a1)]) hx hb d_F_read_24 hl (by decide) rfl (fun ls hl => ?_)
  refine lv_lconst (v := 0) hx hb d_F_read_26 (by decide +kernel) ?_
  refine lv_lstore (lv' := [(5, .long (0 : Int64)), (4, .int (nI (23))), (3, .int (nI (19))), (2, .int (nI (6))), (7, .int (nI (15))), (0, .ref a0), (1, .ref a1)]) hx hb d_F_read_27 hl (by decide) rfl (fun ls hl => ?_)
  refine lv_iload hx hb d_F_read_29 (lv_at hl 1 rfl) ?_
  refine lv_istore (lv' := [(7, .int (nI (23))), (5, .long (0 : Int64)), (4, .int (nI (23))), (3, .int (nI (19))), (2, .int (nI (6))), (0, .ref a0), (1, .ref a1)]) hx hb d_F_read_31 hl (by decide) rfl (fun ls hl => ?_)
  refine lv_iload hx hb d_F_read_33 (lv_at hl 0 rfl) ?_
  refine lv_iload_n hx hb d_F_read_35 rfl (lv_at hl 3 rfl) ?_
  refine lv_icmp_lt (tgt := 62) hx hb d_F_read_36 (by decide) (fun q36_79 => absurd (show 23 < 19 by have q36_79 : 23 < 19 := (nI_ltI (a := 23) (b := 19) (by omega) (by omega)).mp q36_79; exact q36_79) (by decide)) (fun _ => ?_)
  refine lv_lload hx hb d_F_read_39 (lv_at hl 1 rfl) ?_
  refine lv_bipush (v := nI 8) hx hb d_F_read_41 (by decide +kernel) ?_
  refine lv_lshl hx hb d_F_read_43 rfl ?_
  refine lv_aload_n hx hb d_F_read_44 rfl (lv_at hl 6 rfl) ?_
  refine lv_iload hx hb d_F_read_45 (lv_at hl 0 rfl) ?_
  refine vx_bald hx hb hG hS hV f1 (by omega) (by decide) d_F_read_47 ?_
  refine lv_sipush (v := nI 255) hx hb d_F_read_48 (by decide +kernel) ?_
  refine lv_iand hx hb d_F_read_51 ?_
  refine lv_i2l hx hb d_F_read_52 rfl ?_
  refine lv_lor hx hb d_F_read_53 ?_
  refine vx_nmL (fun z81 ez81 => ?_)
  refine lv_lstore (lv' := [(5, .long z81), (7, .int (nI (23))), (4, .int (nI (23))), (3, .int (nI (19))), (2, .int (nI (6))), (0, .ref a0), (1, .ref a1)]) hx hb d_F_read_54 hl (by decide) rfl (fun ls hl => ?_)
  refine lv_iinc (v := nI (22)) (lv' := [(7, .int (nI (22))), (5, .long z81), (4, .int (nI (23))), (3, .int (nI (19))), (2, .int (nI (6))), (0, .ref a0), (1, .ref a1)]) hx hb d_F_read_56 hl (k := 1) rfl (vx_dec 1 (by omega)) (by decide) rfl (fun ls hl => ?_)
  refine lv_goto (tgt := 33) hx hb d_F_read_59 (by decide) ?_
  refine lv_iload hx hb d_F_read_33 (lv_at hl 0 rfl) ?_
  refine lv_iload_n hx hb d_F_read_35 rfl (lv_at hl 3 rfl) ?_
  refine lv_icmp_lt (tgt := 62) hx hb d_F_read_36 (by decide) (fun q36_81 => absurd (show 22 < 19 by have q36_81 : 22 < 19 := (nI_ltI (a := 22) (b := 19) (by omega) (by omega)).mp q36_81; exact q36_81) (by decide)) (fun _ => ?_)
  refine lv_lload hx hb d_F_read_39 (lv_at hl 1 rfl) ?_
  refine lv_bipush (v := nI 8) hx hb d_F_read_41 (by decide +kernel) ?_
  refine lv_lshl hx hb d_F_read_43 rfl ?_
  refine lv_aload_n hx hb d_F_read_44 rfl (lv_at hl 6 rfl) ?_
  refine lv_iload hx hb d_F_read_45 (lv_at hl 0 rfl) ?_
  refine vx_bald hx hb hG hS hV f1 (by omega) (by decide) d_F_read_47 ?_
  refine lv_sipush (v := nI 255) hx hb d_F_read_48 (by decide +kernel) ?_
  refine lv_iand hx hb d_F_read_51 ?_
  refine lv_i2l hx hb d_F_read_52 rfl ?_
  refine lv_lor hx hb d_F_read_53 ?_
  refine vx_nmL (fun z83 ez83 => ?_)
  refine lv_lstore (lv' := [(5, .long z83), (7, .int (nI (22))), (4, .int (nI (23))), (3, .int (nI (19))), (2, .int (nI (6))), (0, .ref a0), (1, .ref a1)]) hx hb d_F_read_54 hl (by decide) rfl (fun ls hl => ?_)
  refine lv_iinc (v := nI (21)) (lv' := [(7, .int (nI (21))), (5, .long z83), (4, .int (nI (23))), (3, .int (nI (19))), (2, .int (nI (6))), (0, .ref a0), (1, .ref a1)]) hx hb d_F_read_56 hl (k := 1) rfl (vx_dec 1 (by omega)) (by decide) rfl (fun ls hl => ?_)
  refine lv_goto (tgt := 33) hx hb d_F_read_59 (by decide) ?_
  refine lv_iload hx hb d_F_read_33 (lv_at hl 0 rfl) ?_
  refine lv_iload_n hx hb d_F_read_35 rfl (lv_at hl 3 rfl) ?_
  refine lv_icmp_lt (tgt := 62) hx hb d_F_read_36 (by decide) (fun q36_83 => absurd (show 21 < 19 by have q36_83 : 21 < 19 := (nI_ltI (a := 21) (b := 19) (by omega) (by omega)).mp q36_83; exact q36_83) (by decide)) (fun _ => ?_)
  refine lv_lload hx hb d_F_read_39 (lv_at hl 1 rfl) ?_
  refine lv_bipush (v := nI 8) hx hb d_F_read_41 (by decide +kernel) ?_
  refine lv_lshl hx hb d_F_read_43 rfl ?_
  refine lv_aload_n hx hb d_F_read_44 rfl (lv_at hl 6 rfl) ?_
  refine lv_iload hx hb d_F_read_45 (lv_at hl 0 rfl) ?_
  refine vx_bald hx hb hG hS hV f1 (by omega) (by decide) d_F_read_47 ?_
  refine lv_sipush (v := nI 255) hx hb d_F_read_48 (by decide +kernel) ?_
  refine lv_iand hx hb d_F_read_51 ?_
  refine lv_i2l hx hb d_F_read_52 rfl ?_
  refine lv_lor hx hb d_F_read_53 ?_
  refine vx_nmL (fun z85 ez85 => ?_)
  refine lv_lstore (lv' := [(5, .long z85), (7, .int (nI (21))), (4, .int (nI (23))), (3, .int (nI (19))), (2, .int (nI (6))), (0, .ref a0), (1, .ref a1)]) hx hb d_F_read_54 hl (by decide) rfl (fun ls hl => ?_)
  refine lv_iinc (v := nI (20)) (lv' := [(7, .int (nI (20))), (5, .long z85), (4, .int (nI (23))), (3, .int (nI (19))), (2, .int (nI (6))), (0, .ref a0), (1, .ref a1)]) hx hb d_F_read_56 hl (k := 1) rfl (vx_dec 1 (by omega)) (by decide) rfl (fun ls hl => ?_)
  refine lv_goto (tgt := 33) hx hb d_F_read_59 (by decide) ?_
  refine lv_iload hx hb d_F_read_33 (lv_at hl 0 rfl) ?_
  refine lv_iload_n hx hb d_F_read_35 rfl (lv_at hl 3 rfl) ?_
  refine lv_icmp_lt (tgt := 62) hx hb d_F_read_36 (by decide) (fun q36_85 => absurd (show 20 < 19 by have q36_85 : 20 < 19 := (nI_ltI (a := 20) (b := 19) (by omega) (by omega)).mp q36_85; exact q36_85) (by decide)) (fun _ => ?_)
  refine lv_lload hx hb d_F_read_39 (lv_at hl 1 rfl) ?_
  refine lv_bipush (v := nI 8) hx hb d_F_read_41 (by decide +kernel) ?_
  refine lv_lshl hx hb d_F_read_43 rfl ?_
  refine lv_aload_n hx hb d_F_read_44 rfl (lv_at hl 6 rfl) ?_
  refine lv_iload hx hb d_F_read_45 (lv_at hl 0 rfl) ?_
  refine vx_bald hx hb hG hS hV f1 (by omega) (by decide) d_F_read_47 ?_
  refine lv_sipush (v := nI 255) hx hb d_F_read_48 (by decide +kernel) ?_
  refine lv_iand hx hb d_F_read_51 ?_
  refine lv_i2l hx hb d_F_read_52 rfl ?_
  refine lv_lor hx hb d_F_read_53 ?_
  refine vx_nmL (fun z87 ez87 => ?_)
  refine lv_lstore (lv' := [(5, .long z87), (7, .int (nI (20))), (4, .int (nI (23))), (3, .int (nI (19))), (2, .int (nI (6))), (0, .ref a0), (1, .ref a1)]) hx hb d_F_read_54 hl (by decide) rfl (fun ls hl => ?_)
  refine lv_iinc (v := nI (19)) (lv' := [(7, .int (nI (19))), (5, .long z87), (4, .int (nI (23))), (3, .int (nI (19))), (2, .int (nI (6))), (0, .ref a0), (1, .ref a1)]) hx hb d_F_read_56 hl (k := 1) rfl (vx_dec 1 (by omega)) (by decide) rfl (fun ls hl => ?_)
  refine lv_goto (tgt := 33) hx hb d_F_read_59 (by decide) ?_
  refine lv_iload hx hb d_F_read_33 (lv_at hl 0 rfl) ?_
  refine lv_iload_n hx hb d_F_read_35 rfl (lv_at hl 3 rfl) ?_
  refine lv_icmp_lt (tgt := 62) hx hb d_F_read_36 (by decide) (fun q36_87 => absurd (show 19 < 19 by have q36_87 : 19 < 19 := (nI_ltI (a := 19) (b := 19) (by omega) (by omega)).mp q36_87; exact q36_87) (by decide)) (fun _ => ?_)
  refine lv_lload hx hb d_F_read_39 (lv_at hl 1 rfl) ?_
  refine lv_bipush (v := nI 8) hx hb d_F_read_41 (by decide +kernel) ?_
  refine lv_lshl hx hb d_F_read_43 rfl ?_
  refine lv_aload_n hx hb d_F_read_44 rfl (lv_at hl 6 rfl) ?_
  refine lv_iload hx hb d_F_read_45 (lv_at hl 0 rfl) ?_
  refine vx_bald hx hb hG hS hV f1 (by omega) (by decide) d_F_read_47 ?_
  refine lv_sipush (v := nI 255) hx hb d_F_read_48 (by decide +kernel) ?_
  refine lv_iand hx hb d_F_read_51 ?_
  refine lv_i2l hx hb d_F_read_52 rfl ?_
  refine lv_lor hx hb d_F_read_53 ?_
  refine vx_nmL (fun z89 ez89 => ?_)
  refine lv_lstore (lv' := [(5, .long z89), (7, .int (nI (19))), (4, .int (nI (23))), (3, .int (nI (19))), (2, .int (nI (6))), (0, .ref a0), (1, .ref a1)]) hx hb d_F_read_54 hl (by decide) rfl (fun ls hl => ?_)
  refine lv_iinc (v := nI (18)) (lv' := [(7, .int (nI (18))), (5, .long z89), (4, .int (nI (23))), (3, .int (nI (19))), (2, .int (nI (6))), (0, .ref a0), (1, .ref a1)]) hx hb d_F_read_56 hl (k := 1) rfl (vx_dec 1 (by omega)) (by decide) rfl (fun ls hl => ?_)
  refine lv_goto (tgt := 33) hx hb d_F_read_59 (by decide) ?_
  refine lv_iload hx hb d_F_read_33 (lv_at hl 0 rfl) ?_
  refine lv_iload_n hx hb d_F_read_35 rfl (lv_at hl 3 rfl) ?_
  refine lv_icmp_lt (tgt := 62) hx hb d_F_read_36 (by decide) (fun _ => ?_) (fun q36_89 => absurd (show 18 < 19 by decide) (by have q36_89 : ¬ (18 < 19) := fun z => q36_89 ((nI_ltI (a := 18) (b := 19) (by omega) (by omega)).mpr z); exact q36_89))
  refine lv_aload_n hx hb d_F_read_62 rfl (lv_at hl 5 rfl) ?_
  refine lv_iload_n hx hb d_F_read_63 rfl (lv_at hl 4 rfl) ?_
  refine lv_lload hx hb d_F_read_64 (lv_at hl 1 rfl) ?_
  obtain ⟨z0_, ⟨cz_, z1_, z2_, z3_⟩, z4_⟩ := (hz.kept hS.1) 5 (by decide)
  refine sx_gets EE (hK.2.2.1 5 (by decide)) z1_ z2_ z3_ fl_F_57 d_F_read_66 ?_
  refine lv_iload_n hx hb d_F_read_69 rfl (lv_at hl 4 rfl) ?_
  refine vx_iald hx hb hG hS hV (st_a5 hz) (by omega) (by decide) d_F_read_70 ?_
  refine sx_ti (y := nI 153) (st_H.vI (hz.kept hS.1) hV 5 (by decide) (show 6 < 10 by omega)) ?_
  refine lv_bipush (v := nI 7) hx hb d_F_read_71 (by decide +kernel) ?_
  refine lv_iand hx hb d_F_read_73 ?_
  refine sx_ti (y := nI (1)) (pk_andN (by omega) 3 (by decide +kernel)) ?_
  refine lv_lshr hx hb d_F_read_74 rfl ?_
  refine lv_lconst (v := 1) hx hb d_F_read_75 (by decide +kernel) ?_
  refine lv_iload_n hx hb d_F_read_76 rfl (lv_at hl 4 rfl) ?_
  refine vx_gi (sx_runS (As := [.int (nI (6))]) (rest := [.long (1 : Int64), .long (z89 >>> ((nI 1).toInt64 &&& 63)), .int (nI (6)), .ref a0]) EE (v_F_widthOf (X := X78) (by omega) hV) w_F_67 rfl ⟨rfl, rfl⟩ ⟨Nat.le_of_ble_eq_true rfl, Nat.le_of_ble_eq_true rfl⟩ ⟨Nat.zero_le _, Nat.zero_le _⟩ hl.1 rfl (Nat.le_of_ble_eq_true rfl) d_F_read_77) hS (fun H locs X_ eX_ hS hV => ?_)
  subst eX_
  refine sx_ti (y := nI 26) rfl ?_
  refine lv_lshl hx hb d_F_read_80 rfl ?_
  refine lv_lconst (v := 1) hx hb d_F_read_81 (by decide +kernel) ?_
  refine lv_lsub hx hb d_F_read_82 ?_
  refine lv_land hx hb d_F_read_83 ?_
  refine vx_last hx hb hG hS hV f0 o0 (by omega) (by decide) d_F_read_84 (fun H locs X91 eX91 hS hV => ?_)
  refine lv_iinc (v := nI (7)) (lv' := [(2, .int (nI (7))), (7, .int (nI (18))), (5, .long z89), (4, .int (nI (23))), (3, .int (nI (19))), (0, .ref a0), (1, .ref a1)]) hx hb d_F_read_85 hl (k := 4) rfl (sx_inc _ _) (by decide) rfl (fun ls hl => ?_)
  refine lv_goto (tgt := 2) hx hb d_F_read_88 (by decide) ?_
  refine lv_iload_n hx hb d_F_read_2 rfl (lv_at hl 0 rfl) ?_
  refine lv_bipush (v := nI 10) hx hb d_F_read_3 (by decide +kernel) ?_
  refine lv_icmp_ge (tgt := 91) hx hb d_F_read_5 (by decide) (fun q5_91 => absurd (show 10 ≤ 7 by have q5_91 : 10 ≤ 7 := (nI_leI (a := 10) (b := 7) (by omega) (by omega)).mp q5_91; exact q5_91) (by decide)) (fun _ => ?_)
  obtain ⟨z0_, ⟨cz_, z1_, z2_, z3_⟩, z4_⟩ := (hz.kept hS.1) 5 (by decide)
  refine sx_gets EE (hK.2.2.1 5 (by decide)) z1_ z2_ z3_ fl_F_57 d_F_read_8 ?_
  refine lv_iload_n hx hb d_F_read_11 rfl (lv_at hl 0 rfl) ?_
  refine vx_iald hx hb hG hS hV (st_a5 hz) (by omega) (by decide) d_F_read_12 ?_
  refine sx_ti (y := nI 179) (st_H.vI (hz.kept hS.1) hV 5 (by decide) (show 7 < 10 by omega)) ?_
  refine lv_iconst (v := nI 3) hx hb d_F_read_13 (by decide +kernel) ?_
  refine lv_ishr hx hb d_F_read_14 ?_
  refine sx_ti (y := nI (22)) (pk_shrN (by omega) _ 3 (by decide +kernel)) ?_
  refine lv_istore_n (lv' := [(3, .int (nI (22))), (2, .int (nI (7))), (7, .int (nI (18))), (5, .long z89), (4, .int (nI (23))), (0, .ref a0), (1, .ref a1)]) hx hb d_F_read_15 rfl hl (by decide) rfl (fun ls hl => ?_)
  refine lv_iload_n hx hb d_F_read_16 rfl (lv_at hl 0 rfl) ?_
  refine lv_iconst (v := nI 4) hx hb d_F_read_17 (by decide +kernel) ?_
  refine lv_iadd hx hb d_F_read_18 ?_
  refine sx_ti (y := nI (26)) (nI_add _ _) ?_
  refine lv_bipush (v := nI 31) hx hb d_F_read_19 (by decide +kernel) ?_
  refine va_mmin hx hb (by rw [hml]; exact hl.1.symm) hown (hts (.methodLink R_F 61 Lib.Math.min.name) (by decide +kernel)) (hts (.static Lib.Math.min.name) (by decide +kernel)) (hts (.initialized "java/lang/Math") (by decide +kernel)) (hts _ (G_in ⟨mc_min, rfl⟩)) (Nat.le_of_ble_eq_true rfl) (Nat.le_of_ble_eq_true rfl) (Nat.zero_le _) (Nat.zero_le _) d_F_read_21 ?_
  refine sx_ti (y := nI 26) (by decide +kernel) ?_
  refine lv_istore (lv' := [(4, .int (nI (26))), (3, .int (nI (22))), (2, .int (nI (7))), (7, .int (nI (18))), (5, .long z89), (0, .ref a0), (1, .ref a1)]) hx hb d_F_read_24 hl (by decide) rfl (fun ls hl => ?_)
  refine lv_lconst (v := 0) hx hb d_F_read_26 (by decide +kernel) ?_
  refine lv_lstore (lv' := [(5, .long (0 : Int64)), (4, .int (nI (26))), (3, .int (nI (22))), (2, .int (nI (7))), (7, .int (nI (18))), (0, .ref a0), (1, .ref a1)]) hx hb d_F_read_27 hl (by decide) rfl (fun ls hl => ?_)
  refine lv_iload hx hb d_F_read_29 (lv_at hl 1 rfl) ?_
  refine lv_istore (lv' := [(7, .int (nI (26))), (5, .long (0 : Int64)), (4, .int (nI (26))), (3, .int (nI (22))), (2, .int (nI (7))), (0, .ref a0), (1, .ref a1)]) hx hb d_F_read_31 hl (by decide) rfl (fun ls hl => ?_)
  refine lv_iload hx hb d_F_read_33 (lv_at hl 0 rfl) ?_
  refine lv_iload_n hx hb d_F_read_35 rfl (lv_at hl 3 rfl) ?_
  refine lv_icmp_lt (tgt := 62) hx hb d_F_read_36 (by decide) (fun q36_92 => absurd (show 26 < 22 by have q36_92 : 26 < 22 := (nI_ltI (a := 26) (b := 22) (by omega) (by omega)).mp q36_92; exact q36_92) (by decide)) (fun _ => ?_)
  refine lv_lload hx hb d_F_read_39 (lv_at hl 1 rfl) ?_
  refine lv_bipush (v := nI 8) hx hb d_F_read_41 (by decide +kernel) ?_
  refine lv_lshl hx hb d_F_read_43 rfl ?_
  refine lv_aload_n hx hb d_F_read_44 rfl (lv_at hl 6 rfl) ?_
  refine lv_iload hx hb d_F_read_45 (lv_at hl 0 rfl) ?_
  refine vx_bald hx hb hG hS hV f1 (by omega) (by decide) d_F_read_47 ?_
  refine lv_sipush (v := nI 255) hx hb d_F_read_48 (by decide +kernel) ?_
  refine lv_iand hx hb d_F_read_51 ?_
  refine lv_i2l hx hb d_F_read_52 rfl ?_
  refine lv_lor hx hb d_F_read_53 ?_
  refine vx_nmL (fun z94 ez94 => ?_)
  refine lv_lstore (lv' := [(5, .long z94), (7, .int (nI (26))), (4, .int (nI (26))), (3, .int (nI (22))), (2, .int (nI (7))), (0, .ref a0), (1, .ref a1)]) hx hb d_F_read_54 hl (by decide) rfl (fun ls hl => ?_)
  refine lv_iinc (v := nI (25)) (lv' := [(7, .int (nI (25))), (5, .long z94), (4, .int (nI (26))), (3, .int (nI (22))), (2, .int (nI (7))), (0, .ref a0), (1, .ref a1)]) hx hb d_F_read_56 hl (k := 1) rfl (vx_dec 1 (by omega)) (by decide) rfl (fun ls hl => ?_)
  refine lv_goto (tgt := 33) hx hb d_F_read_59 (by decide) ?_
  refine lv_iload hx hb d_F_read_33 (lv_at hl 0 rfl) ?_
  refine lv_iload_n hx hb d_F_read_35 rfl (lv_at hl 3 rfl) ?_
  refine lv_icmp_lt (tgt := 62) hx hb d_F_read_36 (by decide) (fun q36_94 => absurd (show 25 < 22 by have q36_94 : 25 < 22 := (nI_ltI (a := 25) (b := 22) (by omega) (by omega)).mp q36_94; exact q36_94) (by decide)) (fun _ => ?_)
  refine lv_lload hx hb d_F_read_39 (lv_at hl 1 rfl) ?_
  refine lv_bipush (v := nI 8) hx hb d_F_read_41 (by decide +kernel) ?_
  refine lv_lshl hx hb d_F_read_43 rfl ?_
  refine lv_aload_n hx hb d_F_read_44 rfl (lv_at hl 6 rfl) ?_
  refine lv_iload hx hb d_F_read_45 (lv_at hl 0 rfl) ?_
  refine vx_bald hx hb hG hS hV f1 (by omega) (by decide) d_F_read_47 ?_
  refine lv_sipush (v := nI 255) hx hb d_F_read_48 (by decide +kernel) ?_
  refine lv_iand hx hb d_F_read_51 ?_
  refine lv_i2l hx hb d_F_read_52 rfl ?_
  refine lv_lor hx hb d_F_read_53 ?_
  refine vx_nmL (fun z96 ez96 => ?_)
  refine lv_lstore (lv' := [(5, .long z96), (7, .int (nI (25))), (4, .int (nI (26))), (3, .int (nI (22))), (2, .int (nI (7))), (0, .ref a0), (1, .ref a1)]) hx hb d_F_read_54 hl (by decide) rfl (fun ls hl => ?_)
  refine lv_iinc (v := nI (24)) (lv' := [(7, .int (nI (24))), (5, .long z96), (4, .int (nI (26))), (3, .int (nI (22))), (2, .int (nI (7))), (0, .ref a0), (1, .ref a1)]) hx hb d_F_read_56 hl (k := 1) rfl (vx_dec 1 (by omega)) (by decide) rfl (fun ls hl => ?_)
  refine lv_goto (tgt := 33) hx hb d_F_read_59 (by decide) ?_
  refine lv_iload hx hb d_F_read_33 (lv_at hl 0 rfl) ?_
  refine lv_iload_n hx hb d_F_read_35 rfl (lv_at hl 3 rfl) ?_
  refine lv_icmp_lt (tgt := 62) hx hb d_F_read_36 (by decide) (fun q36_96 => absurd (show 24 < 22 by have q36_96 : 24 < 22 := (nI_ltI (a := 24) (b := 22) (by omega) (by omega)).mp q36_96; exact q36_96) (by decide)) (fun _ => ?_)
  refine lv_lload hx hb d_F_read_39 (lv_at hl 1 rfl) ?_
  refine lv_bipush (v := nI 8) hx hb d_F_read_41 (by decide +kernel) ?_
  refine lv_lshl hx hb d_F_read_43 rfl ?_
  refine lv_aload_n hx hb d_F_read_44 rfl (lv_at hl 6 rfl) ?_
  refine lv_iload hx hb d_F_read_45 (lv_at hl 0 rfl) ?_
  refine vx_bald hx hb hG hS hV f1 (by omega) (by decide) d_F_read_47 ?_
  refine lv_sipush (v := nI 255) hx hb d_F_read_48 (by decide +kernel) ?_
  refine lv_iand hx hb d_F_read_51 ?_
  refine lv_i2l hx hb d_F_read_52 rfl ?_
  refine lv_lor hx hb d_F_read_53 ?_
  refine vx_nmL (fun z98 ez98 => ?_)
  refine lv_lstore (lv' := [(5, .long z98), (7, .int (nI (24))), (4, .int (nI (26))), (3, .int (nI (22))), (2, .int (nI (7))), (0, .ref a0), (1, .ref a1)]) hx hb d_F_read_54 hl (by decide) rfl (fun ls hl => ?_)
  refine lv_iinc (v := nI (23)) (lv' := [(7, .int (nI (23))), (5, .long z98), (4, .int (nI (26))), (3, .int (nI (22))), (2, .int (nI (7))), (0, .ref a0), (1, .ref a1)]) hx hb d_F_read_56 hl (k := 1) rfl (vx_dec 1 (by omega)) (by decide) rfl (fun ls hl => ?_)
  refine lv_goto (tgt := 33) hx hb d_F_read_59 (by decide) ?_
  refine lv_iload hx hb d_F_read_33 (lv_at hl 0 rfl) ?_
  refine lv_iload_n hx hb d_F_read_35 rfl (lv_at hl 3 rfl) ?_
  refine lv_icmp_lt (tgt := 62) hx hb d_F_read_36 (by decide) (fun q36_98 => absurd (show 23 < 22 by have q36_98 : 23 < 22 := (nI_ltI (a := 23) (b := 22) (by omega) (by omega)).mp q36_98; exact q36_98) (by decide)) (fun _ => ?_)
  refine lv_lload hx hb d_F_read_39 (lv_at hl 1 rfl) ?_
  refine lv_bipush (v := nI 8) hx hb d_F_read_41 (by decide +kernel) ?_
  refine lv_lshl hx hb d_F_read_43 rfl ?_
  refine lv_aload_n hx hb d_F_read_44 rfl (lv_at hl 6 rfl) ?_
  refine lv_iload hx hb d_F_read_45 (lv_at hl 0 rfl) ?_
  refine vx_bald hx hb hG hS hV f1 (by omega) (by decide) d_F_read_47 ?_
  refine lv_sipush (v := nI 255) hx hb d_F_read_48 (by decide +kernel) ?_
  refine lv_iand hx hb d_F_read_51 ?_
  refine lv_i2l hx hb d_F_read_52 rfl ?_
  refine lv_lor hx hb d_F_read_53 ?_
  refine vx_nmL (fun z100 ez100 => ?_)
  refine lv_lstore (lv' := [(5, .long z100), (7, .int (nI (23))), (4, .int (nI (26))), (3, .int (nI (22))), (2, .int (nI (7))), (0, .ref a0), (1, .ref a1)]) hx hb d_F_read_54 hl (by decide) rfl (fun ls hl => ?_)
  refine lv_iinc (v := nI (22)) (lv' := [(7, .int (nI (22))), (5, .long z100), (4, .int (nI (26))), (3, .int (nI (22))), (2, .int (nI (7))), (0, .ref a0), (1, .ref a1)]) hx hb d_F_read_56 hl (k := 1) rfl (vx_dec 1 (by omega)) (by decide) rfl (fun ls hl => ?_)
  refine lv_goto (tgt := 33) hx hb d_F_read_59 (by decide) ?_
  refine lv_iload hx hb d_F_read_33 (lv_at hl 0 rfl) ?_
  refine lv_iload_n hx hb d_F_read_35 rfl (lv_at hl 3 rfl) ?_
  refine lv_icmp_lt (tgt := 62) hx hb d_F_read_36 (by decide) (fun q36_100 => absurd (show 22 < 22 by have q36_100 : 22 < 22 := (nI_ltI (a := 22) (b := 22) (by omega) (by omega)).mp q36_100; exact q36_100) (by decide)) (fun _ => ?_)
  refine lv_lload hx hb d_F_read_39 (lv_at hl 1 rfl) ?_
  refine lv_bipush (v := nI 8) hx hb d_F_read_41 (by decide +kernel) ?_
  refine lv_lshl hx hb d_F_read_43 rfl ?_
  refine lv_aload_n hx hb d_F_read_44 rfl (lv_at hl 6 rfl) ?_
  refine lv_iload hx hb d_F_read_45 (lv_at hl 0 rfl) ?_
  refine vx_bald hx hb hG hS hV f1 (by omega) (by decide) d_F_read_47 ?_
  refine lv_sipush (v := nI 255) hx hb d_F_read_48 (by decide +kernel) ?_
  refine lv_iand hx hb d_F_read_51 ?_
  refine lv_i2l hx hb d_F_read_52 rfl ?_
  refine lv_lor hx hb d_F_read_53 ?_
  refine vx_nmL (fun z102 ez102 => ?_)
  refine lv_lstore (lv' := [(5, .long z102), (7, .int (nI (22))), (4, .int (nI (26))), (3, .int (nI (22))), (2, .int (nI (7))), (0, .ref a0), (1, .ref a1)]) hx hb d_F_read_54 hl (by decide) rfl (fun ls hl => ?_)
  refine lv_iinc (v := nI (21)) (lv' := [(7, .int (nI (21))), (5, .long z102), (4, .int (nI (26))), (3, .int (nI (22))), (2, .int (nI (7))), (0, .ref a0), (1, .ref a1)]) hx hb d_F_read_56 hl (k := 1) rfl (vx_dec 1 (by omega)) (by decide) rfl (fun ls hl => ?_)
  refine lv_goto (tgt := 33) hx hb d_F_read_59 (by decide) ?_
  refine lv_iload hx hb d_F_read_33 (lv_at hl 0 rfl) ?_
  refine lv_iload_n hx hb d_F_read_35 rfl (lv_at hl 3 rfl) ?_
  refine lv_icmp_lt (tgt := 62) hx hb d_F_read_36 (by decide) (fun _ => ?_) (fun q36_102 => absurd (show 21 < 22 by decide) (by have q36_102 : ¬ (21 < 22) := fun z => q36_102 ((nI_ltI (a := 21) (b := 22) (by omega) (by omega)).mpr z); exact q36_102))
  refine lv_aload_n hx hb d_F_read_62 rfl (lv_at hl 5 rfl) ?_
  refine lv_iload_n hx hb d_F_read_63 rfl (lv_at hl 4 rfl) ?_
  refine lv_lload hx hb d_F_read_64 (lv_at hl 1 rfl) ?_
  obtain ⟨z0_, ⟨cz_, z1_, z2_, z3_⟩, z4_⟩ := (hz.kept hS.1) 5 (by decide)
  refine sx_gets EE (hK.2.2.1 5 (by decide)) z1_ z2_ z3_ fl_F_57 d_F_read_66 ?_
  refine lv_iload_n hx hb d_F_read_69 rfl (lv_at hl 4 rfl) ?_
  refine vx_iald hx hb hG hS hV (st_a5 hz) (by omega) (by decide) d_F_read_70 ?_
  refine sx_ti (y := nI 179) (st_H.vI (hz.kept hS.1) hV 5 (by decide) (show 7 < 10 by omega)) ?_
  refine lv_bipush (v := nI 7) hx hb d_F_read_71 (by decide +kernel) ?_
  refine lv_iand hx hb d_F_read_73 ?_
  refine sx_ti (y := nI (3)) (pk_andN (by omega) 3 (by decide +kernel)) ?_
  refine lv_lshr hx hb d_F_read_74 rfl ?_
  refine lv_lconst (v := 1) hx hb d_F_read_75 (by decide +kernel) ?_
  refine lv_iload_n hx hb d_F_read_76 rfl (lv_at hl 4 rfl) ?_
  refine vx_gi (sx_runS (As := [.int (nI (7))]) (rest := [.long (1 : Int64), .long (z102 >>> ((nI 3).toInt64 &&& 63)), .int (nI (7)), .ref a0]) EE (v_F_widthOf (X := X91) (by omega) hV) w_F_67 rfl ⟨rfl, rfl⟩ ⟨Nat.le_of_ble_eq_true rfl, Nat.le_of_ble_eq_true rfl⟩ ⟨Nat.zero_le _, Nat.zero_le _⟩ hl.1 rfl (Nat.le_of_ble_eq_true rfl) d_F_read_77) hS (fun H locs X_ eX_ hS hV => ?_)
  subst eX_
  refine sx_ti (y := nI 25) rfl ?_
  refine lv_lshl hx hb d_F_read_80 rfl ?_
  refine lv_lconst (v := 1) hx hb d_F_read_81 (by decide +kernel) ?_
  refine lv_lsub hx hb d_F_read_82 ?_
  refine lv_land hx hb d_F_read_83 ?_
  refine vx_last hx hb hG hS hV f0 o0 (by omega) (by decide) d_F_read_84 (fun H locs X104 eX104 hS hV => ?_)
  refine lv_iinc (v := nI (8)) (lv' := [(2, .int (nI (8))), (7, .int (nI (21))), (5, .long z102), (4, .int (nI (26))), (3, .int (nI (22))), (0, .ref a0), (1, .ref a1)]) hx hb d_F_read_85 hl (k := 4) rfl (sx_inc _ _) (by decide) rfl (fun ls hl => ?_)
  refine lv_goto (tgt := 2) hx hb d_F_read_88 (by decide) ?_
  refine lv_iload_n hx hb d_F_read_2 rfl (lv_at hl 0 rfl) ?_
  refine lv_bipush (v := nI 10) hx hb d_F_read_3 (by decide +kernel) ?_
  refine lv_icmp_ge (tgt := 91) hx hb d_F_read_5 (by decide) (fun q5_104 => absurd (show 10 ≤ 8 by have q5_104 : 10 ≤ 8 := (nI_leI (a := 10) (b := 8) (by omega) (by omega)).mp q5_104; exact q5_104) (by decide)) (fun _ => ?_)
  obtain ⟨z0_, ⟨cz_, z1_, z2_, z3_⟩, z4_⟩ := (hz.kept hS.1) 5 (by decide)
  refine sx_gets EE (hK.2.2.1 5 (by decide)) z1_ z2_ z3_ fl_F_57 d_F_read_8 ?_
  refine lv_iload_n hx hb d_F_read_11 rfl (lv_at hl 0 rfl) ?_
  refine vx_iald hx hb hG hS hV (st_a5 hz) (by omega) (by decide) d_F_read_12 ?_
  refine sx_ti (y := nI 204) (st_H.vI (hz.kept hS.1) hV 5 (by decide) (show 8 < 10 by omega)) ?_
  refine lv_iconst (v := nI 3) hx hb d_F_read_13 (by decide +kernel) ?_
  refine lv_ishr hx hb d_F_read_14 ?_
  refine sx_ti (y := nI (25)) (pk_shrN (by omega) _ 3 (by decide +kernel)) ?_
  refine lv_istore_n (lv' := [(3, .int (nI (25))), (2, .int (nI (8))), (7, .int (nI (21))), (5, .long z102), (4, .int (nI (26))), (0, .ref a0), (1, .ref a1)]) hx hb d_F_read_15 rfl hl (by decide) rfl (fun ls hl => ?_)
  refine lv_iload_n hx hb d_F_read_16 rfl (lv_at hl 0 rfl) ?_
  refine lv_iconst (v := nI 4) hx hb d_F_read_17 (by decide +kernel) ?_
  refine lv_iadd hx hb d_F_read_18 ?_
  refine sx_ti (y := nI (29)) (nI_add _ _) ?_
  refine lv_bipush (v := nI 31) hx hb d_F_read_19 (by decide +kernel) ?_
  refine va_mmin hx hb (by rw [hml]; exact hl.1.symm) hown (hts (.methodLink R_F 61 Lib.Math.min.name) (by decide +kernel)) (hts (.static Lib.Math.min.name) (by decide +kernel)) (hts (.initialized "java/lang/Math") (by decide +kernel)) (hts _ (G_in ⟨mc_min, rfl⟩)) (Nat.le_of_ble_eq_true rfl) (Nat.le_of_ble_eq_true rfl) (Nat.zero_le _) (Nat.zero_le _) d_F_read_21 ?_
  refine sx_ti (y := nI 29) (by decide +kernel) ?_
  refine lv_istore (lv' := [(4, .int (nI (29))), (3, .int (nI (25))), (2, .int (nI (8))), (7, .int (nI (21))), (5, .long z102), (0, .ref a0), (1, .ref a1)]) hx hb d_F_read_24 hl (by decide) rfl (fun ls hl => ?_)
  refine lv_lconst (v := 0) hx hb d_F_read_26 (by decide +kernel) ?_
  refine lv_lstore (lv' := [(5, .long (0 : Int64)), (4, .int (nI (29))), (3, .int (nI (25))), (2, .int (nI (8))), (7, .int (nI (21))), (0, .ref a0), (1, .ref a1)]) hx hb d_F_read_27 hl (by decide) rfl (fun ls hl => ?_)
  refine lv_iload hx hb d_F_read_29 (lv_at hl 1 rfl) ?_
  refine lv_istore (lv' := [(7, .int (nI (29))), (5, .long (0 : Int64)), (4, .int (nI (29))), (3, .int (nI (25))), (2, .int (nI (8))), (0, .ref a0), (1, .ref a1)]) hx hb d_F_read_31 hl (by decide) rfl (fun ls hl => ?_)
  refine lv_iload hx hb d_F_read_33 (lv_at hl 0 rfl) ?_
  refine lv_iload_n hx hb d_F_read_35 rfl (lv_at hl 3 rfl) ?_
  refine lv_icmp_lt (tgt := 62) hx hb d_F_read_36 (by decide) (fun q36_105 => absurd (show 29 < 25 by have q36_105 : 29 < 25 := (nI_ltI (a := 29) (b := 25) (by omega) (by omega)).mp q36_105; exact q36_105) (by decide)) (fun _ => ?_)
  refine lv_lload hx hb d_F_read_39 (lv_at hl 1 rfl) ?_
  refine lv_bipush (v := nI 8) hx hb d_F_read_41 (by decide +kernel) ?_
  refine lv_lshl hx hb d_F_read_43 rfl ?_
  refine lv_aload_n hx hb d_F_read_44 rfl (lv_at hl 6 rfl) ?_
  refine lv_iload hx hb d_F_read_45 (lv_at hl 0 rfl) ?_
  refine vx_bald hx hb hG hS hV f1 (by omega) (by decide) d_F_read_47 ?_
  refine lv_sipush (v := nI 255) hx hb d_F_read_48 (by decide +kernel) ?_
  refine lv_iand hx hb d_F_read_51 ?_
  refine lv_i2l hx hb d_F_read_52 rfl ?_
  refine lv_lor hx hb d_F_read_53 ?_
  refine vx_nmL (fun z107 ez107 => ?_)
  refine lv_lstore (lv' := [(5, .long z107), (7, .int (nI (29))), (4, .int (nI (29))), (3, .int (nI (25))), (2, .int (nI (8))), (0, .ref a0), (1, .ref a1)]) hx hb d_F_read_54 hl (by decide) rfl (fun ls hl => ?_)
  refine lv_iinc (v := nI (28)) (lv' := [(7, .int (nI (28))), (5, .long z107), (4, .int (nI (29))), (3, .int (nI (25))), (2, .int (nI (8))), (0, .ref a0), (1, .ref a1)]) hx hb d_F_read_56 hl (k := 1) rfl (vx_dec 1 (by omega)) (by decide) rfl (fun ls hl => ?_)
  refine lv_goto (tgt := 33) hx hb d_F_read_59 (by decide) ?_
  refine lv_iload hx hb d_F_read_33 (lv_at hl 0 rfl) ?_
  refine lv_iload_n hx hb d_F_read_35 rfl (lv_at hl 3 rfl) ?_
  refine lv_icmp_lt (tgt := 62) hx hb d_F_read_36 (by decide) (fun q36_107 => absurd (show 28 < 25 by have q36_107 : 28 < 25 := (nI_ltI (a := 28) (b := 25) (by omega) (by omega)).mp q36_107; exact q36_107) (by decide)) (fun _ => ?_)
  refine lv_lload hx hb d_F_read_39 (lv_at hl 1 rfl) ?_
  refine lv_bipush (v := nI 8) hx hb d_F_read_41 (by decide +kernel) ?_
  refine lv_lshl hx hb d_F_read_43 rfl ?_
  refine lv_aload_n hx hb d_F_read_44 rfl (lv_at hl 6 rfl) ?_
  refine lv_iload hx hb d_F_read_45 (lv_at hl 0 rfl) ?_
  refine vx_bald hx hb hG hS hV f1 (by omega) (by decide) d_F_read_47 ?_
  refine lv_sipush (v := nI 255) hx hb d_F_read_48 (by decide +kernel) ?_
  refine lv_iand hx hb d_F_read_51 ?_
  refine lv_i2l hx hb d_F_read_52 rfl ?_
  refine lv_lor hx hb d_F_read_53 ?_
  refine vx_nmL (fun z109 ez109 => ?_)
  refine lv_lstore (lv' := [(5, .long z109), (7, .int (nI (28))), (4, .int (nI (29))), (3, .int (nI (25))), (2, .int (nI (8))), (0, .ref a0), (1, .ref a1)]) hx hb d_F_read_54 hl (by decide) rfl (fun ls hl => ?_)
  refine lv_iinc (v := nI (27)) (lv' := [(7, .int (nI (27))), (5, .long z109), (4, .int (nI (29))), (3, .int (nI (25))), (2, .int (nI (8))), (0, .ref a0), (1, .ref a1)]) hx hb d_F_read_56 hl (k := 1) rfl (vx_dec 1 (by omega)) (by decide) rfl (fun ls hl => ?_)
  refine lv_goto (tgt := 33) hx hb d_F_read_59 (by decide) ?_
  refine lv_iload hx hb d_F_read_33 (lv_at hl 0 rfl) ?_
  refine lv_iload_n hx hb d_F_read_35 rfl (lv_at hl 3 rfl) ?_
  refine lv_icmp_lt (tgt := 62) hx hb d_F_read_36 (by decide) (fun q36_109 => absurd (show 27 < 25 by have q36_109 : 27 < 25 := (nI_ltI (a := 27) (b := 25) (by omega) (by omega)).mp q36_109; exact q36_109) (by decide)) (fun _ => ?_)
  refine lv_lload hx hb d_F_read_39 (lv_at hl 1 rfl) ?_
  refine lv_bipush (v := nI 8) hx hb d_F_read_41 (by decide +kernel) ?_
  refine lv_lshl hx hb d_F_read_43 rfl ?_
  refine lv_aload_n hx hb d_F_read_44 rfl (lv_at hl 6 rfl) ?_
  refine lv_iload hx hb d_F_read_45 (lv_at hl 0 rfl) ?_
  refine vx_bald hx hb hG hS hV f1 (by omega) (by decide) d_F_read_47 ?_
  refine lv_sipush (v := nI 255) hx hb d_F_read_48 (by decide +kernel) ?_
  refine lv_iand hx hb d_F_read_51 ?_
  refine lv_i2l hx hb d_F_read_52 rfl ?_
  refine lv_lor hx hb d_F_read_53 ?_
  refine vx_nmL (fun z111 ez111 => ?_)
  refine lv_lstore (lv' := [(5, .long z111), (7, .int (nI (27))), (4, .int (nI (29))), (3, .int (nI (25))), (2, .int (nI (8))), (0, .ref a0), (1, .ref a1)]) hx hb d_F_read_54 hl (by decide) rfl (fun ls hl => ?_)
  refine lv_iinc (v := nI (26)) (lv' := [(7, .int (nI (26))), (5, .long z111), (4, .int (nI (29))), (3, .int (nI (25))), (2, .int (nI (8))), (0, .ref a0), (1, .ref a1)]) hx hb d_F_read_56 hl (k := 1) rfl (vx_dec 1 (by omega)) (by decide) rfl (fun ls hl => ?_)
  refine lv_goto (tgt := 33) hx hb d_F_read_59 (by decide) ?_
  refine lv_iload hx hb d_F_read_33 (lv_at hl 0 rfl) ?_
  refine lv_iload_n hx hb d_F_read_35 rfl (lv_at hl 3 rfl) ?_
  refine lv_icmp_lt (tgt := 62) hx hb d_F_read_36 (by decide) (fun q36_111 => absurd (show 26 < 25 by have q36_111 : 26 < 25 := (nI_ltI (a := 26) (b := 25) (by omega) (by omega)).mp q36_111; exact q36_111) (by decide)) (fun _ => ?_)
  refine lv_lload hx hb d_F_read_39 (lv_at hl 1 rfl) ?_
  refine lv_bipush (v := nI 8) hx hb d_F_read_41 (by decide +kernel) ?_
  refine lv_lshl hx hb d_F_read_43 rfl ?_
  refine lv_aload_n hx hb d_F_read_44 rfl (lv_at hl 6 rfl) ?_
  refine lv_iload hx hb d_F_read_45 (lv_at hl 0 rfl) ?_
  refine vx_bald hx hb hG hS hV f1 (by omega) (by decide) d_F_read_47 ?_
  refine lv_sipush (v := nI 255) hx hb d_F_read_48 (by decide +kernel) ?_
  refine lv_iand hx hb d_F_read_51 ?_
  refine lv_i2l hx hb d_F_read_52 rfl ?_
  refine lv_lor hx hb d_F_read_53 ?_
  refine vx_nmL (fun z113 ez113 => ?_)
  refine lv_lstore (lv' := [(5, .long z113), (7, .int (nI (26))), (4, .int (nI (29))), (3, .int (nI (25))), (2, .int (nI (8))), (0, .ref a0), (1, .ref a1)]) hx hb d_F_read_54 hl (by decide) rfl (fun ls hl => ?_)
  refine lv_iinc (v := nI (25)) (lv' := [(7, .int (nI (25))), (5, .long z113), (4, .int (nI (29))), (3, .int (nI (25))), (2, .int (nI (8))), (0, .ref a0), (1, .ref a1)]) hx hb d_F_read_56 hl (k := 1) rfl (vx_dec 1 (by omega)) (by decide) rfl (fun ls hl => ?_)
  refine lv_goto (tgt := 33) hx hb d_F_read_59 (by decide) ?_
  refine lv_iload hx hb d_F_read_33 (lv_at hl 0 rfl) ?_
  refine lv_iload_n hx hb d_F_read_35 rfl (lv_at hl 3 rfl) ?_
  refine lv_icmp_lt (tgt := 62) hx hb d_F_read_36 (by decide) (fun q36_113 => absurd (show 25 < 25 by have q36_113 : 25 < 25 := (nI_ltI (a := 25) (b := 25) (by omega) (by omega)).mp q36_113; exact q36_113) (by decide)) (fun _ => ?_)
  refine lv_lload hx hb d_F_read_39 (lv_at hl 1 rfl) ?_
  refine lv_bipush (v := nI 8) hx hb d_F_read_41 (by decide +kernel) ?_
  refine lv_lshl hx hb d_F_read_43 rfl ?_
  refine lv_aload_n hx hb d_F_read_44 rfl (lv_at hl 6 rfl) ?_
  refine lv_iload hx hb d_F_read_45 (lv_at hl 0 rfl) ?_
  refine vx_bald hx hb hG hS hV f1 (by omega) (by decide) d_F_read_47 ?_
  refine lv_sipush (v := nI 255) hx hb d_F_read_48 (by decide +kernel) ?_
  refine lv_iand hx hb d_F_read_51 ?_
  refine lv_i2l hx hb d_F_read_52 rfl ?_
  refine lv_lor hx hb d_F_read_53 ?_
  refine vx_nmL (fun z115 ez115 => ?_)
  refine lv_lstore (lv' := [(5, .long z115), (7, .int (nI (25))), (4, .int (nI (29))), (3, .int (nI (25))), (2, .int (nI (8))), (0, .ref a0), (1, .ref a1)]) hx hb d_F_read_54 hl (by decide) rfl (fun ls hl => ?_)
  refine lv_iinc (v := nI (24)) (lv' := [(7, .int (nI (24))), (5, .long z115), (4, .int (nI (29))), (3, .int (nI (25))), (2, .int (nI (8))), (0, .ref a0), (1, .ref a1)]) hx hb d_F_read_56 hl (k := 1) rfl (vx_dec 1 (by omega)) (by decide) rfl (fun ls hl => ?_)
  refine lv_goto (tgt := 33) hx hb d_F_read_59 (by decide) ?_
  refine lv_iload hx hb d_F_read_33 (lv_at hl 0 rfl) ?_
  refine lv_iload_n hx hb d_F_read_35 rfl (lv_at hl 3 rfl) ?_
  refine lv_icmp_lt (tgt := 62) hx hb d_F_read_36 (by decide) (fun _ => ?_) (fun q36_115 => absurd (show 24 < 25 by decide) (by have q36_115 : ¬ (24 < 25) := fun z => q36_115 ((nI_ltI (a := 24) (b := 25) (by omega) (by omega)).mpr z); exact q36_115))
  refine lv_aload_n hx hb d_F_read_62 rfl (lv_at hl 5 rfl) ?_
  refine lv_iload_n hx hb d_F_read_63 rfl (lv_at hl 4 rfl) ?_
  refine lv_lload hx hb d_F_read_64 (lv_at hl 1 rfl) ?_
  obtain ⟨z0_, ⟨cz_, z1_, z2_, z3_⟩, z4_⟩ := (hz.kept hS.1) 5 (by decide)
  refine sx_gets EE (hK.2.2.1 5 (by decide)) z1_ z2_ z3_ fl_F_57 d_F_read_66 ?_
  refine lv_iload_n hx hb d_F_read_69 rfl (lv_at hl 4 rfl) ?_
  refine vx_iald hx hb hG hS hV (st_a5 hz) (by omega) (by decide) d_F_read_70 ?_
  refine sx_ti (y := nI 204) (st_H.vI (hz.kept hS.1) hV 5 (by decide) (show 8 < 10 by omega)) ?_
  refine lv_bipush (v := nI 7) hx hb d_F_read_71 (by decide +kernel) ?_
  refine lv_iand hx hb d_F_read_73 ?_
  refine sx_ti (y := nI (4)) (pk_andN (by omega) 3 (by decide +kernel)) ?_
  refine lv_lshr hx hb d_F_read_74 rfl ?_
  refine lv_lconst (v := 1) hx hb d_F_read_75 (by decide +kernel) ?_
  refine lv_iload_n hx hb d_F_read_76 rfl (lv_at hl 4 rfl) ?_
  refine vx_gi (sx_runS (As := [.int (nI (8))]) (rest := [.long (1 : Int64), .long (z115 >>> ((nI 4).toInt64 &&& 63)), .int (nI (8)), .ref a0]) EE (v_F_widthOf (X := X104) (by omega) hV) w_F_67 rfl ⟨rfl, rfl⟩ ⟨Nat.le_of_ble_eq_true rfl, Nat.le_of_ble_eq_true rfl⟩ ⟨Nat.zero_le _, Nat.zero_le _⟩ hl.1 rfl (Nat.le_of_ble_eq_true rfl) d_F_read_77) hS (fun H locs X_ eX_ hS hV => ?_)
  subst eX_
  refine sx_ti (y := nI 26) rfl ?_
  refine lv_lshl hx hb d_F_read_80 rfl ?_
  refine lv_lconst (v := 1) hx hb d_F_read_81 (by decide +kernel) ?_
  refine lv_lsub hx hb d_F_read_82 ?_
  refine lv_land hx hb d_F_read_83 ?_
  refine vx_last hx hb hG hS hV f0 o0 (by omega) (by decide) d_F_read_84 (fun H locs X117 eX117 hS hV => ?_)
  refine lv_iinc (v := nI (9)) (lv' := [(2, .int (nI (9))), (7, .int (nI (24))), (5, .long z115), (4, .int (nI (29))), (3, .int (nI (25))), (0, .ref a0), (1, .ref a1)]) hx hb d_F_read_85 hl (k := 4) rfl (sx_inc _ _) (by decide) rfl (fun ls hl => ?_)
  refine lv_goto (tgt := 2) hx hb d_F_read_88 (by decide) ?_
  refine lv_iload_n hx hb d_F_read_2 rfl (lv_at hl 0 rfl) ?_
  refine lv_bipush (v := nI 10) hx hb d_F_read_3 (by decide +kernel) ?_
  refine lv_icmp_ge (tgt := 91) hx hb d_F_read_5 (by decide) (fun q5_117 => absurd (show 10 ≤ 9 by have q5_117 : 10 ≤ 9 := (nI_leI (a := 10) (b := 9) (by omega) (by omega)).mp q5_117; exact q5_117) (by decide)) (fun _ => ?_)
  obtain ⟨z0_, ⟨cz_, z1_, z2_, z3_⟩, z4_⟩ := (hz.kept hS.1) 5 (by decide)
  refine sx_gets EE (hK.2.2.1 5 (by decide)) z1_ z2_ z3_ fl_F_57 d_F_read_8 ?_
  refine lv_iload_n hx hb d_F_read_11 rfl (lv_at hl 0 rfl) ?_
  refine vx_iald hx hb hG hS hV (st_a5 hz) (by omega) (by decide) d_F_read_12 ?_
  refine sx_ti (y := nI 230) (st_H.vI (hz.kept hS.1) hV 5 (by decide) (show 9 < 10 by omega)) ?_
  refine lv_iconst (v := nI 3) hx hb d_F_read_13 (by decide +kernel) ?_
  refine lv_ishr hx hb d_F_read_14 ?_
  refine sx_ti (y := nI (28)) (pk_shrN (by omega) _ 3 (by decide +kernel)) ?_
  refine lv_istore_n (lv' := [(3, .int (nI (28))), (2, .int (nI (9))), (7, .int (nI (24))), (5, .long z115), (4, .int (nI (29))), (0, .ref a0), (1, .ref a1)]) hx hb d_F_read_15 rfl hl (by decide) rfl (fun ls hl => ?_)
  refine lv_iload_n hx hb d_F_read_16 rfl (lv_at hl 0 rfl) ?_
  refine lv_iconst (v := nI 4) hx hb d_F_read_17 (by decide +kernel) ?_
  refine lv_iadd hx hb d_F_read_18 ?_
  refine sx_ti (y := nI (32)) (nI_add _ _) ?_
  refine lv_bipush (v := nI 31) hx hb d_F_read_19 (by decide +kernel) ?_
  refine va_mmin hx hb (by rw [hml]; exact hl.1.symm) hown (hts (.methodLink R_F 61 Lib.Math.min.name) (by decide +kernel)) (hts (.static Lib.Math.min.name) (by decide +kernel)) (hts (.initialized "java/lang/Math") (by decide +kernel)) (hts _ (G_in ⟨mc_min, rfl⟩)) (Nat.le_of_ble_eq_true rfl) (Nat.le_of_ble_eq_true rfl) (Nat.zero_le _) (Nat.zero_le _) d_F_read_21 ?_
  refine sx_ti (y := nI 31) (by decide +kernel) ?_
  refine lv_istore (lv' := [(4, .int (nI (31))), (3, .int (nI (28))), (2, .int (nI (9))), (7, .int (nI (24))), (5, .long z115), (0, .ref a0), (1, .ref a1)]) hx hb d_F_read_24 hl (by decide) rfl (fun ls hl => ?_)
  refine lv_lconst (v := 0) hx hb d_F_read_26 (by decide +kernel) ?_
  refine lv_lstore (lv' := [(5, .long (0 : Int64)), (4, .int (nI (31))), (3, .int (nI (28))), (2, .int (nI (9))), (7, .int (nI (24))), (0, .ref a0), (1, .ref a1)]) hx hb d_F_read_27 hl (by decide) rfl (fun ls hl => ?_)
  refine lv_iload hx hb d_F_read_29 (lv_at hl 1 rfl) ?_
  refine lv_istore (lv' := [(7, .int (nI (31))), (5, .long (0 : Int64)), (4, .int (nI (31))), (3, .int (nI (28))), (2, .int (nI (9))), (0, .ref a0), (1, .ref a1)]) hx hb d_F_read_31 hl (by decide) rfl (fun ls hl => ?_)
  refine lv_iload hx hb d_F_read_33 (lv_at hl 0 rfl) ?_
  refine lv_iload_n hx hb d_F_read_35 rfl (lv_at hl 3 rfl) ?_
  refine lv_icmp_lt (tgt := 62) hx hb d_F_read_36 (by decide) (fun q36_118 => absurd (show 31 < 28 by have q36_118 : 31 < 28 := (nI_ltI (a := 31) (b := 28) (by omega) (by omega)).mp q36_118; exact q36_118) (by decide)) (fun _ => ?_)
  refine lv_lload hx hb d_F_read_39 (lv_at hl 1 rfl) ?_
  refine lv_bipush (v := nI 8) hx hb d_F_read_41 (by decide +kernel) ?_
  refine lv_lshl hx hb d_F_read_43 rfl ?_
  refine lv_aload_n hx hb d_F_read_44 rfl (lv_at hl 6 rfl) ?_
  refine lv_iload hx hb d_F_read_45 (lv_at hl 0 rfl) ?_
  refine vx_bald hx hb hG hS hV f1 (by omega) (by decide) d_F_read_47 ?_
  refine lv_sipush (v := nI 255) hx hb d_F_read_48 (by decide +kernel) ?_
  refine lv_iand hx hb d_F_read_51 ?_
  refine lv_i2l hx hb d_F_read_52 rfl ?_
  refine lv_lor hx hb d_F_read_53 ?_
  refine vx_nmL (fun z120 ez120 => ?_)
  refine lv_lstore (lv' := [(5, .long z120), (7, .int (nI (31))), (4, .int (nI (31))), (3, .int (nI (28))), (2, .int (nI (9))), (0, .ref a0), (1, .ref a1)]) hx hb d_F_read_54 hl (by decide) rfl (fun ls hl => ?_)
  refine lv_iinc (v := nI (30)) (lv' := [(7, .int (nI (30))), (5, .long z120), (4, .int (nI (31))), (3, .int (nI (28))), (2, .int (nI (9))), (0, .ref a0), (1, .ref a1)]) hx hb d_F_read_56 hl (k := 1) rfl (vx_dec 1 (by omega)) (by decide) rfl (fun ls hl => ?_)
  refine lv_goto (tgt := 33) hx hb d_F_read_59 (by decide) ?_
  refine lv_iload hx hb d_F_read_33 (lv_at hl 0 rfl) ?_
  refine lv_iload_n hx hb d_F_read_35 rfl (lv_at hl 3 rfl) ?_
  refine lv_icmp_lt (tgt := 62) hx hb d_F_read_36 (by decide) (fun q36_120 => absurd (show 30 < 28 by have q36_120 : 30 < 28 := (nI_ltI (a := 30) (b := 28) (by omega) (by omega)).mp q36_120; exact q36_120) (by decide)) (fun _ => ?_)
  refine lv_lload hx hb d_F_read_39 (lv_at hl 1 rfl) ?_
  refine lv_bipush (v := nI 8) hx hb d_F_read_41 (by decide +kernel) ?_
  refine lv_lshl hx hb d_F_read_43 rfl ?_
  refine lv_aload_n hx hb d_F_read_44 rfl (lv_at hl 6 rfl) ?_
  refine lv_iload hx hb d_F_read_45 (lv_at hl 0 rfl) ?_
  refine vx_bald hx hb hG hS hV f1 (by omega) (by decide) d_F_read_47 ?_
  refine lv_sipush (v := nI 255) hx hb d_F_read_48 (by decide +kernel) ?_
  refine lv_iand hx hb d_F_read_51 ?_
  refine lv_i2l hx hb d_F_read_52 rfl ?_
  refine lv_lor hx hb d_F_read_53 ?_
  refine vx_nmL (fun z122 ez122 => ?_)
  refine lv_lstore (lv' := [(5, .long z122), (7, .int (nI (30))), (4, .int (nI (31))), (3, .int (nI (28))), (2, .int (nI (9))), (0, .ref a0), (1, .ref a1)]) hx hb d_F_read_54 hl (by decide) rfl (fun ls hl => ?_)
  refine lv_iinc (v := nI (29)) (lv' := [(7, .int (nI (29))), (5, .long z122), (4, .int (nI (31))), (3, .int (nI (28))), (2, .int (nI (9))), (0, .ref a0), (1, .ref a1)]) hx hb d_F_read_56 hl (k := 1) rfl (vx_dec 1 (by omega)) (by decide) rfl (fun ls hl => ?_)
  refine lv_goto (tgt := 33) hx hb d_F_read_59 (by decide) ?_
  refine lv_iload hx hb d_F_read_33 (lv_at hl 0 rfl) ?_
  refine lv_iload_n hx hb d_F_read_35 rfl (lv_at hl 3 rfl) ?_
  refine lv_icmp_lt (tgt := 62) hx hb d_F_read_36 (by decide) (fun q36_122 => absurd (show 29 < 28 by have q36_122 : 29 < 28 := (nI_ltI (a := 29) (b := 28) (by omega) (by omega)).mp q36_122; exact q36_122) (by decide)) (fun _ => ?_)
  refine lv_lload hx hb d_F_read_39 (lv_at hl 1 rfl) ?_
  refine lv_bipush (v := nI 8) hx hb d_F_read_41 (by decide +kernel) ?_
  refine lv_lshl hx hb d_F_read_43 rfl ?_
  refine lv_aload_n hx hb d_F_read_44 rfl (lv_at hl 6 rfl) ?_
  refine lv_iload hx hb d_F_read_45 (lv_at hl 0 rfl) ?_
  refine vx_bald hx hb hG hS hV f1 (by omega) (by decide) d_F_read_47 ?_
  refine lv_sipush (v := nI 255) hx hb d_F_read_48 (by decide +kernel) ?_
  refine lv_iand hx hb d_F_read_51 ?_
  refine lv_i2l hx hb d_F_read_52 rfl ?_
  refine lv_lor hx hb d_F_read_53 ?_
  refine vx_nmL (fun z124 ez124 => ?_)
  refine lv_lstore (lv' := [(5, .long z124), (7, .int (nI (29))), (4, .int (nI (31))), (3, .int (nI (28))), (2, .int (nI (9))), (0, .ref a0), (1, .ref a1)]) hx hb d_F_read_54 hl (by decide) rfl (fun ls hl => ?_)
  refine lv_iinc (v := nI (28)) (lv' := [(7, .int (nI (28))), (5, .long z124), (4, .int (nI (31))), (3, .int (nI (28))), (2, .int (nI (9))), (0, .ref a0), (1, .ref a1)]) hx hb d_F_read_56 hl (k := 1) rfl (vx_dec 1 (by omega)) (by decide) rfl (fun ls hl => ?_)
  refine lv_goto (tgt := 33) hx hb d_F_read_59 (by decide) ?_
  refine lv_iload hx hb d_F_read_33 (lv_at hl 0 rfl) ?_
  refine lv_iload_n hx hb d_F_read_35 rfl (lv_at hl 3 rfl) ?_
  refine lv_icmp_lt (tgt := 62) hx hb d_F_read_36 (by decide) (fun q36_124 => absurd (show 28 < 28 by have q36_124 : 28 < 28 := (nI_ltI (a := 28) (b := 28) (by omega) (by omega)).mp q36_124; exact q36_124) (by decide)) (fun _ => ?_)
  refine lv_lload hx hb d_F_read_39 (lv_at hl 1 rfl) ?_
  refine lv_bipush (v := nI 8) hx hb d_F_read_41 (by decide +kernel) ?_
  refine lv_lshl hx hb d_F_read_43 rfl ?_
  refine lv_aload_n hx hb d_F_read_44 rfl (lv_at hl 6 rfl) ?_
  refine lv_iload hx hb d_F_read_45 (lv_at hl 0 rfl) ?_
  refine vx_bald hx hb hG hS hV f1 (by omega) (by decide) d_F_read_47 ?_
  refine lv_sipush (v := nI 255) hx hb d_F_read_48 (by decide +kernel) ?_
  refine lv_iand hx hb d_F_read_51 ?_
  refine lv_i2l hx hb d_F_read_52 rfl ?_
  refine lv_lor hx hb d_F_read_53 ?_
  refine vx_nmL (fun z126 ez126 => ?_)
  refine lv_lstore (lv' := [(5, .long z126), (7, .int (nI (28))), (4, .int (nI (31))), (3, .int (nI (28))), (2, .int (nI (9))), (0, .ref a0), (1, .ref a1)]) hx hb d_F_read_54 hl (by decide) rfl (fun ls hl => ?_)
  refine lv_iinc (v := nI (27)) (lv' := [(7, .int (nI (27))), (5, .long z126), (4, .int (nI (31))), (3, .int (nI (28))), (2, .int (nI (9))), (0, .ref a0), (1, .ref a1)]) hx hb d_F_read_56 hl (k := 1) rfl (vx_dec 1 (by omega)) (by decide) rfl (fun ls hl => ?_)
  refine lv_goto (tgt := 33) hx hb d_F_read_59 (by decide) ?_
  refine lv_iload hx hb d_F_read_33 (lv_at hl 0 rfl) ?_
  refine lv_iload_n hx hb d_F_read_35 rfl (lv_at hl 3 rfl) ?_
  refine lv_icmp_lt (tgt := 62) hx hb d_F_read_36 (by decide) (fun _ => ?_) (fun q36_126 => absurd (show 27 < 28 by decide) (by have q36_126 : ¬ (27 < 28) := fun z => q36_126 ((nI_ltI (a := 27) (b := 28) (by omega) (by omega)).mpr z); exact q36_126))
  refine lv_aload_n hx hb d_F_read_62 rfl (lv_at hl 5 rfl) ?_
  refine lv_iload_n hx hb d_F_read_63 rfl (lv_at hl 4 rfl) ?_
  refine lv_lload hx hb d_F_read_64 (lv_at hl 1 rfl) ?_
  obtain ⟨z0_, ⟨cz_, z1_, z2_, z3_⟩, z4_⟩ := (hz.kept hS.1) 5 (by decide)
  refine sx_gets EE (hK.2.2.1 5 (by decide)) z1_ z2_ z3_ fl_F_57 d_F_read_66 ?_
  refine lv_iload_n hx hb d_F_read_69 rfl (lv_at hl 4 rfl) ?_
  refine vx_iald hx hb hG hS hV (st_a5 hz) (by omega) (by decide) d_F_read_70 ?_
  refine sx_ti (y := nI 230) (st_H.vI (hz.kept hS.1) hV 5 (by decide) (show 9 < 10 by omega)) ?_
  refine lv_bipush (v := nI 7) hx hb d_F_read_71 (by decide +kernel) ?_
  refine lv_iand hx hb d_F_read_73 ?_
  refine sx_ti (y := nI (6)) (pk_andN (by omega) 3 (by decide +kernel)) ?_
  refine lv_lshr hx hb d_F_read_74 rfl ?_
  refine lv_lconst (v := 1) hx hb d_F_read_75 (by decide +kernel) ?_
  refine lv_iload_n hx hb d_F_read_76 rfl (lv_at hl 4 rfl) ?_
  refine vx_gi (sx_runS (As := [.int (nI (9))]) (rest := [.long (1 : Int64), .long (z126 >>> ((nI 6).toInt64 &&& 63)), .int (nI (9)), .ref a0]) EE (v_F_widthOf (X := X117) (by omega) hV) w_F_67 rfl ⟨rfl, rfl⟩ ⟨Nat.le_of_ble_eq_true rfl, Nat.le_of_ble_eq_true rfl⟩ ⟨Nat.zero_le _, Nat.zero_le _⟩ hl.1 rfl (Nat.le_of_ble_eq_true rfl) d_F_read_77) hS (fun H locs X_ eX_ hS hV => ?_)
  subst eX_
  refine sx_ti (y := nI 25) rfl ?_
  refine lv_lshl hx hb d_F_read_80 rfl ?_
  refine lv_lconst (v := 1) hx hb d_F_read_81 (by decide +kernel) ?_
  refine lv_lsub hx hb d_F_read_82 ?_
  refine lv_land hx hb d_F_read_83 ?_
  refine vx_last hx hb hG hS hV f0 o0 (by omega) (by decide) d_F_read_84 (fun H locs X128 eX128 hS hV => ?_)
  refine lv_iinc (v := nI (10)) (lv' := [(2, .int (nI (10))), (7, .int (nI (27))), (5, .long z126), (4, .int (nI (31))), (3, .int (nI (28))), (0, .ref a0), (1, .ref a1)]) hx hb d_F_read_85 hl (k := 4) rfl (sx_inc _ _) (by decide) rfl (fun ls hl => ?_)
  refine lv_goto (tgt := 2) hx hb d_F_read_88 (by decide) ?_
  refine lv_iload_n hx hb d_F_read_2 rfl (lv_at hl 0 rfl) ?_
  refine lv_bipush (v := nI 10) hx hb d_F_read_3 (by decide +kernel) ?_
  refine lv_icmp_ge (tgt := 91) hx hb d_F_read_5 (by decide) (fun _ => ?_) (fun q5_128 => absurd (show 10 ≤ 10 by decide) (by have q5_128 : ¬ (10 ≤ 10) := fun z => q5_128 ((nI_leI (a := 10) (b := 10) (by omega) (by omega)).mpr z); exact q5_128))
  exact hret _ _ _ _ _ (by subst ez3 ez5 ez7 ez9 ez11 eX13 ez16 ez18 ez20 ez22 ez24 eX26 ez29 ez31 ez33 ez35 ez37 eX39 ez42 ez44 ez46 ez48 ez50 eX52 ez55 ez57 ez59 ez61 ez63 eX65 ez68 ez70 ez72 ez74 ez76 eX78 ez81 ez83 ez85 ez87 ez89 eX91 ez94 ez96 ez98 ez100 ez102 eX104 ez107 ez109 ez111 ez113 ez115 eX117 ez120 ez122 ez124 ez126 eX128; exact rfl) hS hV d_F_read_91
