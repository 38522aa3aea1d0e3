def LF_F_times (X : vM) (a0 : Nat) (a1 : Nat) (a2 : Nat) : vM := (let z1 : Int64 := (X.1 a1 0); let z2 : Int64 := (X.1 a1 1); let z3 : Int64 := (X.1 a1 2); let z4 : Int64 := (X.1 a1 3); let z5 : Int64 := (X.1 a1 4); let z6 : Int64 := (X.1 a1 5); let z7 : Int64 := (X.1 a1 6); let z8 : Int64 := (X.1 a1 7); let z9 : Int64 := (X.1 a1 8); let z10 : Int64 := (X.1 a1 9); let z11 : Int64 := (X.1 a2 0); let z12 : Int64 := (X.1 a2 1); let z13 : Int64 := (X.1 a2 2); let z14 : Int64 := (X.1 a2 3); let z15 : Int64 := (X.1 a2 4); let z16 : Int64 := (X.1 a2 5); let z17 : Int64 := (X.1 a2 6); let z18 : Int64 := (X.1 a2 7); let z19 : Int64 := (X.1 a2 8); let z20 : Int64 := (X.1 a2 9); let z21 : Int64 := ((2 : Int64) * z2); let z22 : Int64 := ((2 : Int64) * z4); let z23 : Int64 := ((2 : Int64) * z6); let z24 : Int64 := ((2 : Int64) * z8); let z25 : Int64 := ((2 : Int64) * z10); let X26 : vM := stL X a0 0 ((z1 * z11) + ((19 : Int64) * (((((((((z21 * z20) + (z3 * z19)) + (z22 * z18)) + (z5 * z17)) + (z23 * z16)) + (z7 * z15)) + (z24 * z14)) + (z9 * z13)) + (z25 * z12)))); let X27 : vM := stL X26 a0 1 (((z1 * z12) + (z2 * z11)) + ((19 : Int64) * ((((((((z3 * z20) + (z4 * z19)) + (z5 * z18)) + (z6 * z17)) + (z7 * z16)) + (z8 * z15)) + (z9 * z14)) + (z10 * z13)))); let X28 : vM := stL X27 a0 2 ((((z1 * z13) + (z21 * z12)) + (z3 * z11)) + ((19 : Int64) * (((((((z22 * z20) + (z5 * z19)) + (z23 * z18)) + (z7 * z17)) + (z24 * z16)) + (z9 * z15)) + (z25 * z14)))); let X29 : vM := stL X28 a0 3 (((((z1 * z14) + (z2 * z13)) + (z3 * z12)) + (z4 * z11)) + ((19 : Int64) * ((((((z5 * z20) + (z6 * z19)) + (z7 * z18)) + (z8 * z17)) + (z9 * z16)) + (z10 * z15)))); let X30 : vM := stL X29 a0 4 ((((((z1 * z15) + (z21 * z14)) + (z3 * z13)) + (z22 * z12)) + (z5 * z11)) + ((19 : Int64) * (((((z23 * z20) + (z7 * z19)) + (z24 * z18)) + (z9 * z17)) + (z25 * z16)))); let X31 : vM := stL X30 a0 5 (((((((z1 * z16) + (z2 * z15)) + (z3 * z14)) + (z4 * z13)) + (z5 * z12)) + (z6 * z11)) + ((19 : Int64) * ((((z7 * z20) + (z8 * z19)) + (z9 * z18)) + (z10 * z17)))); let X32 : vM := stL X31 a0 6 ((((((((z1 * z17) + (z21 * z16)) + (z3 * z15)) + (z22 * z14)) + (z5 * z13)) + (z23 * z12)) + (z7 * z11)) + ((19 : Int64) * (((z24 * z20) + (z9 * z19)) + (z25 * z18)))); let X33 : vM := stL X32 a0 7 (((((((((z1 * z18) + (z2 * z17)) + (z3 * z16)) + (z4 * z15)) + (z5 * z14)) + (z6 * z13)) + (z7 * z12)) + (z8 * z11)) + ((19 : Int64) * ((z9 * z20) + (z10 * z19)))); let X34 : vM := stL X33 a0 8 ((((((((((z1 * z19) + (z21 * z18)) + (z3 * z17)) + (z22 * z16)) + (z5 * z15)) + (z23 * z14)) + (z7 * z13)) + (z24 * z12)) + (z9 * z11)) + ((19 : Int64) * (z25 * z20))); let X35 : vM := stL X34 a0 9 ((((((((((z1 * z20) + (z2 * z19)) + (z3 * z18)) + (z4 * z17)) + (z5 * z16)) + (z6 * z15)) + (z7 * z14)) + (z8 * z13)) + (z9 * z12)) + (z10 * z11)); let X36 : vM := (LF_F_carry X35 a0); X36)
abbrev rm_F_times : Room := { frames := 1, cells := 0, slots := 0, locals := 27 }
set_option maxHeartbeats 4000000 in
set_option maxRecDepth 100000 in
theorem v_F_times {l : Launch} {D : va_G} {g : ClassId → FieldType → Prop} {E : Nat → Prop} {H0 : Heap} {X : vM} {a0 : Nat} {a1 : Nat} {a2 : Nat} (f0 : sx_A g .long H0 a0 10) (o0 : E a0) (f1 : sx_A g .long H0 a1 10) (f2 : sx_A g .long H0 a2 10) (hV : mm g H0 = X) : Met l y_F_times (.code y_F_times b_F_times 53 none :: G_) rm_F_times (sx_Pc [.ref a0, .ref a1, .ref a2] H0 D g) (vx_Qv g E H0 (LF_F_times X a0 a1 a2)) 0 0 E := by
  refine vx_mv (own := R_F) (by decide) rfl rfl rfl (Nat.le_of_ble_eq_true rfl) ?_
  intro p e s m args below meth c Q ls EE hl hret
  obtain ⟨hx, hb, hml, hown, hts, hG, hK⟩ := id EE
  have hS : sx_S g E E H0 H0 [] := sx_S.rf
  have hl : lv_has ls 53 [(0, .ref a0), (1, .ref a1), (2, .ref a2)] := hl
  refine lv_aload_n hx hb d_F_times_0 rfl (lv_at hl 1 rfl) ?_
  refine lv_iconst (v := nI 0) hx hb d_F_times_1 (by decide +kernel) ?_
  refine vx_lald hx hb hG hS hV f1 (by omega) (by decide) d_F_times_2 ?_
  refine vx_nmL (fun z1 ez1 => ?_)
  refine lv_lstore_n (lv' := [(3, .long z1), (0, .ref a0), (1, .ref a1), (2, .ref a2)]) hx hb d_F_times_3 rfl hl (by decide) rfl (fun ls hl => ?_)
  refine lv_aload_n hx hb d_F_times_4 rfl (lv_at hl 2 rfl) ?_
  refine lv_iconst (v := nI 1) hx hb d_F_times_5 (by decide +kernel) ?_
  refine vx_lald hx hb hG hS hV f1 (by omega) (by decide) d_F_times_6 ?_
  refine vx_nmL (fun z2 ez2 => ?_)
  refine lv_lstore (lv' := [(5, .long z2), (3, .long z1), (0, .ref a0), (1, .ref a1), (2, .ref a2)]) hx hb d_F_times_7 hl (by decide) rfl (fun ls hl => ?_)
  refine lv_aload_n hx hb d_F_times_9 rfl (lv_at hl 3 rfl) ?_
  refine lv_iconst (v := nI 2) hx hb d_F_times_10 (by decide +kernel) ?_
  refine vx_lald hx hb hG hS hV f1 (by omega) (by decide) d_F_times_11 ?_
  refine vx_nmL (fun z3 ez3 => ?_)
  refine lv_lstore (lv' := [(7, .long z3), (5, .long z2), (3, .long z1), (0, .ref a0), (1, .ref a1), (2, .ref a2)]) hx hb d_F_times_12 hl (by decide) rfl (fun ls hl => ?_)
  refine lv_aload_n hx hb d_F_times_14 rfl (lv_at hl 4 rfl) ?_
  refine lv_iconst (v := nI 3) hx hb d_F_times_15 (by decide +kernel) ?_
  refine vx_lald hx hb hG hS hV f1 (by omega) (by decide) d_F_times_16 ?_
  refine vx_nmL (fun z4 ez4 => ?_)
  refine lv_lstore (lv' := [(9, .long z4), (7, .long z3), (5, .long z2), (3, .long z1), (0, .ref a0), (1, .ref a1), (2, .ref a2)]) hx hb d_F_times_17 hl (by decide) rfl (fun ls hl => ?_)
  refine lv_aload_n hx hb d_F_times_19 rfl (lv_at hl 5 rfl) ?_
  refine lv_iconst (v := nI 4) hx hb d_F_times_20 (by decide +kernel) ?_
  refine vx_lald hx hb hG hS hV f1 (by omega) (by decide) d_F_times_21 ?_
  refine vx_nmL (fun z5 ez5 => ?_)
  refine lv_lstore (lv' := [(11, .long z5), (9, .long z4), (7, .long z3), (5, .long z2), (3, .long z1), (0, .ref a0), (1, .ref a1), (2, .ref a2)]) hx hb d_F_times_22 hl (by decide) rfl (fun ls hl => ?_)
  refine lv_aload_n hx hb d_F_times_24 rfl (lv_at hl 6 rfl) ?_
  refine lv_iconst (v := nI 5) hx hb d_F_times_25 (by decide +kernel) ?_
  refine vx_lald hx hb hG hS hV f1 (by omega) (by decide) d_F_times_26 ?_
  refine vx_nmL (fun z6 ez6 => ?_)
  refine lv_lstore (lv' := [(13, .long z6), (11, .long z5), (9, .long z4), (7, .long z3), (5, .long z2), (3, .long z1), (0, .ref a0), (1, .ref a1), (2, .ref a2)]) hx hb d_F_times_27 hl (by decide) rfl (fun ls hl => ?_)
  refine lv_aload_n hx hb d_F_times_29 rfl (lv_at hl 7 rfl) ?_
  refine lv_bipush (v := nI 6) hx hb d_F_times_30 (by decide +kernel) ?_
  refine vx_lald hx hb hG hS hV f1 (by omega) (by decide) d_F_times_32 ?_
  refine vx_nmL (fun z7 ez7 => ?_)
  refine lv_lstore (lv' := [(15, .long z7), (13, .long z6), (11, .long z5), (9, .long z4), (7, .long z3), (5, .long z2), (3, .long z1), (0, .ref a0), (1, .ref a1), (2, .ref a2)]) hx hb d_F_times_33 hl (by decide) rfl (fun ls hl => ?_)
  refine lv_aload_n hx hb d_F_times_35 rfl (lv_at hl 8 rfl) ?_
  refine lv_bipush (v := nI 7) hx hb d_F_times_36 (by decide +kernel) ?_
  refine vx_lald hx hb hG hS hV f1 (by omega) (by decide) d_F_times_38 ?_
  refine vx_nmL (fun z8 ez8 => ?_)
  refine lv_lstore (lv' := [(17, .long z8), (15, .long z7), (13, .long z6), (11, .long z5), (9, .long z4), (7, .long z3), (5, .long z2), (3, .long z1), (0, .ref a0), (1, .ref a1), (2, .ref a2)]) hx hb d_F_times_39 hl (by decide) rfl (fun ls hl => ?_)
  refine lv_aload_n hx hb d_F_times_41 rfl (lv_at hl 9 rfl) ?_
  refine lv_bipush (v := nI 8) hx hb d_F_times_42 (by decide +kernel) ?_
  refine vx_lald hx hb hG hS hV f1 (by omega) (by decide) d_F_times_44 ?_
  refine vx_nmL (fun z9 ez9 => ?_)
  refine lv_lstore (lv' := [(19, .long z9), (17, .long z8), (15, .long z7), (13, .long z6), (11, .long z5), (9, .long z4), (7, .long z3), (5, .long z2), (3, .long z1), (0, .ref a0), (1, .ref a1), (2, .ref a2)]) hx hb d_F_times_45 hl (by decide) rfl (fun ls hl => ?_)
  refine lv_aload_n hx hb d_F_times_47 rfl (lv_at hl 10 rfl) ?_
  refine lv_bipush (v := nI 9) hx hb d_F_times_48 (by decide +kernel) ?_
  refine vx_lald hx hb hG hS hV f1 (by omega) (by decide) d_F_times_50 ?_
  refine vx_nmL (fun z10 ez10 => ?_)
  refine lv_lstore (lv' := [(21, .long z10), (19, .long z9), (17, .long z8), (15, .long z7), (13, .long z6), (11, .long z5), (9, .long z4), (7, .long z3), (5, .long z2), (3, .long z1), (0, .ref a0), (1, .ref a1), (2, .ref a2)]) hx hb d_F_times_51 hl (by decide) rfl (fun ls hl => ?_)
  refine lv_aload_n hx hb d_F_times_53 rfl (lv_at hl 12 rfl) ?_
  refine lv_iconst (v := nI 0) hx hb d_F_times_54 (by decide +kernel) ?_
  refine vx_lald hx hb hG hS hV f2 (by omega) (by decide) d_F_times_55 ?_
  refine vx_nmL (fun z11 ez11 => ?_)
  refine lv_lstore (lv' := [(23, .long z11), (21, .long z10), (19, .long z9), (17, .long z8), (15, .long z7), (13, .long z6), (11, .long z5), (9, .long z4), (7, .long z3), (5, .long z2), (3, .long z1), (0, .ref a0), (1, .ref a1), (2, .ref a2)]) hx hb d_F_times_56 hl (by decide) rfl (fun ls hl => ?_)
  refine lv_aload_n hx hb d_F_times_58 rfl (lv_at hl 13 rfl) ?_
  refine lv_iconst (v := nI 1) hx hb d_F_times_59 (by decide +kernel) ?_
  refine vx_lald hx hb hG hS hV f2 (by omega) (by decide) d_F_times_60 ?_
  refine vx_nmL (fun z12 ez12 => ?_)
  refine lv_lstore (lv' := [(25, .long z12), (23, .long z11), (21, .long z10), (19, .long z9), (17, .long z8), (15, .long z7), (13, .long z6), (11, .long z5), (9, .long z4), (7, .long z3), (5, .long z2), (3, .long z1), (0, .ref a0), (1, .ref a1), (2, .ref a2)]) hx hb d_F_times_61 hl (by decide) rfl (fun ls hl => ?_)
  refine lv_aload_n hx hb d_F_times_63 rfl (lv_at hl 14 rfl) ?_
  refine lv_iconst (v := nI 2) hx hb d_F_times_64 (by decide +kernel) ?_
  refine vx_lald hx hb hG hS hV f2 (by omega) (by decide) d_F_times_65 ?_
  refine vx_nmL (fun z13 ez13 => ?_)
  refine lv_lstore (lv' := [(27, .long z13), (25, .long z12), (23, .long z11), (21, .long z10), (19, .long z9), (17, .long z8), (15, .long z7), (13, .long z6), (11, .long z5), (9, .long z4), (7, .long z3), (5, .long z2), (3, .long z1), (0, .ref a0), (1, .ref a1), (2, .ref a2)]) hx hb d_F_times_66 hl (by decide) rfl (fun ls hl => ?_)
  refine lv_aload_n hx hb d_F_times_68 rfl (lv_at hl 15 rfl) ?_
  refine lv_iconst (v := nI 3) hx hb d_F_times_69 (by decide +kernel) ?_
  refine vx_lald hx hb hG hS hV f2 (by omega) (by decide) d_F_times_70 ?_
  refine vx_nmL (fun z14 ez14 => ?_)
  refine lv_lstore (lv' := [(29, .long z14), (27, .long z13), (25, .long z12), (23, .long z11), (21, .long z10), (19, .long z9), (17, .long z8), (15, .long z7), (13, .long z6), (11, .long z5), (9, .long z4), (7, .long z3), (5, .long z2), (3, .long z1), (0, .ref a0), (1, .ref a1), (2, .ref a2)]) hx hb d_F_times_71 hl (by decide) rfl (fun ls hl => ?_)
  refine lv_aload_n hx hb d_F_times_73 rfl (lv_at hl 16 rfl) ?_
  refine lv_iconst (v := nI 4) hx hb d_F_times_74 (by decide +kernel) ?_
  refine vx_lald hx hb hG hS hV f2 (by omega) (by decide) d_F_times_75 ?_
  refine vx_nmL (fun z15 ez15 => ?_)
  refine lv_lstore (lv' := [(31, .long z15), (29, .long z14), (27, .long z13), (25, .long z12), (23, .long z11), (21, .long z10), (19, .long z9), (17, .long z8), (15, .long z7), (13, .long z6), (11, .long z5), (9, .long z4), (7, .long z3), (5, .long z2), (3, .long z1), (0, .ref a0), (1, .ref a1), (2, .ref a2)]) hx hb d_F_times_76 hl (by decide) rfl (fun ls hl => ?_)
  refine lv_aload_n hx hb d_F_times_78 rfl (lv_at hl 17 rfl) ?_
  refine lv_iconst (v := nI 5) hx hb d_F_times_79 (by decide +kernel) ?_
  refine vx_lald hx hb hG hS hV f2 (by omega) (by decide) d_F_times_80 ?_
  refine vx_nmL (fun z16 ez16 => ?_)
  refine lv_lstore (lv' := [(33, .long z16), (31, .long z15), (29, .long z14), (27, .long z13), (25, .long z12), (23, .long z11), (21, .long z10), (19, .long z9), (17, .long z8), (15, .long z7), (13, .long z6), (11, .long z5), (9, .long z4), (7, .long z3), (5, .long z2), (3, .long z1), (0, .ref a0), (1, .ref a1), (2, .ref a2)]) hx hb d_F_times_81 hl (by decide) rfl (fun ls hl => ?_)
  refine lv_aload_n hx hb d_F_times_83 rfl (lv_at hl 18 rfl) ?_
  refine lv_bipush (v := nI 6) hx hb d_F_times_84 (by decide +kernel) ?_
  refine vx_lald hx hb hG hS hV f2 (by omega) (by decide) d_F_times_86 ?_
  refine vx_nmL (fun z17 ez17 => ?_)
  refine lv_lstore (lv' := [(35, .long z17), (33, .long z16), (31, .long z15), (29, .long z14), (27, .long z13), (25, .long z12), (23, .long z11), (21, .long z10), (19, .long z9), (17, .long z8), (15, .long z7), (13, .long z6), (11, .long z5), (9, .long z4), (7, .long z3), (5, .long z2), (3, .long z1), (0, .ref a0), (1, .ref a1), (2, .ref a2)]) hx hb d_F_times_87 hl (by decide) rfl (fun ls hl => ?_)
  refine lv_aload_n hx hb d_F_times_89 rfl (lv_at hl 19 rfl) ?_
  refine lv_bipush (v := nI 7) hx hb d_F_times_90 (by decide +kernel) ?_
  refine vx_lald hx hb hG hS hV f2 (by omega) (by decide) d_F_times_92 ?_
  refine vx_nmL (fun z18 ez18 => ?_)
  refine lv_lstore (lv' := [(37, .long z18), (35, .long z17), (33, .long z16), (31, .long z15), (29, .long z14), (27, .long z13), (25, .long z12), (23, .long z11), (21, .long z10), (19, .long z9), (17, .long z8), (15, .long z7), (13, .long z6), (11, .long z5), (9, .long z4), (7, .long z3), (5, .long z2), (3, .long z1), (0, .ref a0), (1, .ref a1), (2, .ref a2)]) hx hb d_F_times_93 hl (by decide) rfl (fun ls hl => ?_)
  refine lv_aload_n hx hb d_F_times_95 rfl (lv_at hl 20 rfl) ?_
  refine lv_bipush (v := nI 8) hx hb d_F_times_96 (by decide +kernel) ?_
  refine vx_lald hx hb hG hS hV f2 (by omega) (by decide) d_F_times_98 ?_
  refine vx_nmL (fun z19 ez19 => ?_)
  refine lv_lstore (lv' := [(39, .long z19), (37, .long z18), (35, .long z17), (33, .long z16), (31, .long z15), (29, .long z14), (27, .long z13), (25, .long z12), (23, .long z11), (21, .long z10), (19, .long z9), (17, .long z8), (15, .long z7), (13, .long z6), (11, .long z5), (9, .long z4), (7, .long z3), (5, .long z2), (3, .long z1), (0, .ref a0), (1, .ref a1), (2, .ref a2)]) hx hb d_F_times_99 hl (by decide) rfl (fun ls hl => ?_)
  refine lv_aload_n hx hb d_F_times_101 rfl (lv_at hl 21 rfl) ?_
  refine lv_bipush (v := nI 9) hx hb d_F_times_102 (by decide +kernel) ?_
  refine vx_lald hx hb hG hS hV f2 (by omega) (by decide) d_F_times_104 ?_
  refine vx_nmL (fun z20 ez20 => ?_)
  refine lv_lstore (lv' := [(41, .long z20), (39, .long z19), (37, .long z18), (35, .long z17), (33, .long z16), (31, .long z15), (29, .long z14), (27, .long z13), (25, .long z12), (23, .long z11), (21, .long z10), (19, .long z9), (17, .long z8), (15, .long z7), (13, .long z6), (11, .long z5), (9, .long z4), (7, .long z3), (5, .long z2), (3, .long z1), (0, .ref a0), (1, .ref a1), (2, .ref a2)]) hx hb d_F_times_105 hl (by decide) rfl (fun ls hl => ?_)
  refine lv_ldc2 (v := (2)) hx hb hown (hts (.constantLong R_F 49 (2)) (by decide +kernel)) d_F_times_107 ?_
  refine lv_lload hx hb d_F_times_110 (lv_at hl 18 rfl) ?_
  refine lv_lmul hx hb d_F_times_112 ?_
  refine vx_nmL (fun z21 ez21 => ?_)
  refine lv_lstore (lv' := [(43, .long z21), (41, .long z20), (39, .long z19), (37, .long z18), (35, .long z17), (33, .long z16), (31, .long z15), (29, .long z14), (27, .long z13), (25, .long z12), (23, .long z11), (21, .long z10), (19, .long z9), (17, .long z8), (15, .long z7), (13, .long z6), (11, .long z5), (9, .long z4), (7, .long z3), (5, .long z2), (3, .long z1), (0, .ref a0), (1, .ref a1), (2, .ref a2)]) hx hb d_F_times_113 hl (by decide) rfl (fun ls hl => ?_)
  refine lv_ldc2 (v := (2)) hx hb hown (hts (.constantLong R_F 49 (2)) (by decide +kernel)) d_F_times_115 ?_
  refine lv_lload hx hb d_F_times_118 (lv_at hl 17 rfl) ?_
  refine lv_lmul hx hb d_F_times_120 ?_
  refine vx_nmL (fun z22 ez22 => ?_)
  refine lv_lstore (lv' := [(45, .long z22), (43, .long z21), (41, .long z20), (39, .long z19), (37, .long z18), (35, .long z17), (33, .long z16), (31, .long z15), (29, .long z14), (27, .long z13), (25, .long z12), (23, .long z11), (21, .long z10), (19, .long z9), (17, .long z8), (15, .long z7), (13, .long z6), (11, .long z5), (9, .long z4), (7, .long z3), (5, .long z2), (3, .long z1), (0, .ref a0), (1, .ref a1), (2, .ref a2)]) hx hb d_F_times_121 hl (by decide) rfl (fun ls hl => ?_)
  refine lv_ldc2 (v := (2)) hx hb hown (hts (.constantLong R_F 49 (2)) (by decide +kernel)) d_F_times_123 ?_
  refine lv_lload hx hb d_F_times_126 (lv_at hl 16 rfl) ?_
  refine lv_lmul hx hb d_F_times_128 ?_
  refine vx_nmL (fun z23 ez23 => ?_)
  refine lv_lstore (lv' := [(47, .long z23), (45, .long z22), (43, .long z21), (41, .long z20), (39, .long z19), (37, .long z18), (35, .long z17), (33, .long z16), (31, .long z15), (29, .long z14), (27, .long z13), (25, .long z12), (23, .long z11), (21, .long z10), (19, .long z9), (17, .long z8), (15, .long z7), (13, .long z6), (11, .long z5), (9, .long z4), (7, .long z3), (5, .long z2), (3, .long z1), (0, .ref a0), (1, .ref a1), (2, .ref a2)]) hx hb d_F_times_129 hl (by decide) rfl (fun ls hl => ?_)
  refine lv_ldc2 (v := (2)) hx hb hown (hts (.constantLong R_F 49 (2)) (by decide +kernel)) d_F_times_131 ?_
  refine lv_lload hx hb d_F_times_134 (lv_at hl 15 rfl) ?_
  refine lv_lmul hx hb d_F_times_136 ?_
  refine vx_nmL (fun z24 ez24 => ?_)
  refine lv_lstore (lv' := [(49, .long z24), (47, .long z23), (45, .long z22), (43, .long z21), (41, .long z20), (39, .long z19), (37, .long z18), (35, .long z17), (33, .long z16), (31, .long z15), (29, .long z14), (27, .long z13), (25, .long z12), (23, .long z11), (21, .long z10), (19, .long z9), (17, .long z8), (15, .long z7), (13, .long z6), (11, .long z5), (9, .long z4), (7, .long z3), (5, .long z2), (3, .long z1), (0, .ref a0), (1, .ref a1), (2, .ref a2)]) hx hb d_F_times_137 hl (by decide) rfl (fun ls hl => ?_)
  refine lv_ldc2 (v := (2)) hx hb hown (hts (.constantLong R_F 49 (2)) (by decide +kernel)) d_F_times_139 ?_
  refine lv_lload hx hb d_F_times_142 (lv_at hl 14 rfl) ?_
  refine lv_lmul hx hb d_F_times_144 ?_
  refine vx_nmL (fun z25 ez25 => ?_)
  refine lv_lstore (lv' := [(51, .long z25), (49, .long z24), (47, .long z23), (45, .long z22), (43, .long z21), (41, .long z20), (39, .long z19), (37, .long z18), (35, .long z17), (33, .long z16), (31, .long z15), (29, .long z14), (27, .long z13), (25, .long z12), (23, .long z11), (21, .long z10), (19, .long z9), (17, .long z8), (15, .long z7), (13, .long z6), (11, .long z5), (9, .long z4), (7, .long z3), (5, .long z2), (3, .long z1), (0, .ref a0), (1, .ref a1), (2, .ref a2)]) hx hb d_F_times_145 hl (by decide) rfl (fun ls hl => ?_)
  refine lv_aload_n hx hb d_F_times_147 rfl (lv_at hl 25 rfl) ?_
  refine lv_iconst (v := nI 0) hx hb d_F_times_148 (by decide +kernel) ?_
  refine lv_lload_n hx hb d_F_times_149 rfl (lv_at hl 24 rfl) ?_
  refine lv_lload hx hb d_F_times_150 (lv_at hl 14 rfl) ?_
  refine lv_lmul hx hb d_F_times_152 ?_
  refine lv_ldc2 (v := (19)) hx hb hown (hts (.constantLong R_F 51 (19)) (by decide +kernel)) d_F_times_153 ?_
  refine lv_lload hx hb d_F_times_156 (lv_at hl 4 rfl) ?_
  refine lv_lload hx hb d_F_times_158 (lv_at hl 5 rfl) ?_
  refine lv_lmul hx hb d_F_times_160 ?_
  refine lv_lload hx hb d_F_times_161 (lv_at hl 22 rfl) ?_
  refine lv_lload hx hb d_F_times_163 (lv_at hl 6 rfl) ?_
  refine lv_lmul hx hb d_F_times_165 ?_
  refine lv_ladd hx hb d_F_times_166 ?_
  refine lv_lload hx hb d_F_times_167 (lv_at hl 3 rfl) ?_
  refine lv_lload hx hb d_F_times_169 (lv_at hl 7 rfl) ?_
  refine lv_lmul hx hb d_F_times_171 ?_
  refine lv_ladd hx hb d_F_times_172 ?_
  refine lv_lload hx hb d_F_times_173 (lv_at hl 20 rfl) ?_
  refine lv_lload hx hb d_F_times_175 (lv_at hl 8 rfl) ?_
  refine lv_lmul hx hb d_F_times_177 ?_
  refine lv_ladd hx hb d_F_times_178 ?_
  refine lv_lload hx hb d_F_times_179 (lv_at hl 2 rfl) ?_
  refine lv_lload hx hb d_F_times_181 (lv_at hl 9 rfl) ?_
  refine lv_lmul hx hb d_F_times_183 ?_
  refine lv_ladd hx hb d_F_times_184 ?_
  refine lv_lload hx hb d_F_times_185 (lv_at hl 18 rfl) ?_
  refine lv_lload hx hb d_F_times_187 (lv_at hl 10 rfl) ?_
  refine lv_lmul hx hb d_F_times_189 ?_
  refine lv_ladd hx hb d_F_times_190 ?_
  refine lv_lload hx hb d_F_times_191 (lv_at hl 1 rfl) ?_
  refine lv_lload hx hb d_F_times_193 (lv_at hl 11 rfl) ?_
  refine lv_lmul hx hb d_F_times_195 ?_
  refine lv_ladd hx hb d_F_times_196 ?_
  refine lv_lload hx hb d_F_times_197 (lv_at hl 16 rfl) ?_
  refine lv_lload hx hb d_F_times_199 (lv_at hl 12 rfl) ?_
  refine lv_lmul hx hb d_F_times_201 ?_
  refine lv_ladd hx hb d_F_times_202 ?_
  refine lv_lload hx hb d_F_times_203 (lv_at hl 0 rfl) ?_
  refine lv_lload hx hb d_F_times_205 (lv_at hl 13 rfl) ?_
  refine lv_lmul hx hb d_F_times_207 ?_
  refine lv_ladd hx hb d_F_times_208 ?_
  refine lv_lmul hx hb d_F_times_209 ?_
  refine lv_ladd hx hb d_F_times_210 ?_
  refine vx_last hx hb hG hS hV f0 o0 (by omega) (by decide) d_F_times_211 (fun H locs X26 eX26 hS hV => ?_)
  refine lv_aload_n hx hb d_F_times_212 rfl (lv_at hl 25 rfl) ?_
  refine lv_iconst (v := nI 1) hx hb d_F_times_213 (by decide +kernel) ?_
  refine lv_lload_n hx hb d_F_times_214 rfl (lv_at hl 24 rfl) ?_
  refine lv_lload hx hb d_F_times_215 (lv_at hl 13 rfl) ?_
  refine lv_lmul hx hb d_F_times_217 ?_
  refine lv_lload hx hb d_F_times_218 (lv_at hl 23 rfl) ?_
  refine lv_lload hx hb d_F_times_220 (lv_at hl 14 rfl) ?_
  refine lv_lmul hx hb d_F_times_222 ?_
  refine lv_ladd hx hb d_F_times_223 ?_
  refine lv_ldc2 (v := (19)) hx hb hown (hts (.constantLong R_F 51 (19)) (by decide +kernel)) d_F_times_224 ?_
  refine lv_lload hx hb d_F_times_227 (lv_at hl 22 rfl) ?_
  refine lv_lload hx hb d_F_times_229 (lv_at hl 5 rfl) ?_
  refine lv_lmul hx hb d_F_times_231 ?_
  refine lv_lload hx hb d_F_times_232 (lv_at hl 21 rfl) ?_
  refine lv_lload hx hb d_F_times_234 (lv_at hl 6 rfl) ?_
  refine lv_lmul hx hb d_F_times_236 ?_
  refine lv_ladd hx hb d_F_times_237 ?_
  refine lv_lload hx hb d_F_times_238 (lv_at hl 20 rfl) ?_
  refine lv_lload hx hb d_F_times_240 (lv_at hl 7 rfl) ?_
  refine lv_lmul hx hb d_F_times_242 ?_
  refine lv_ladd hx hb d_F_times_243 ?_
  refine lv_lload hx hb d_F_times_244 (lv_at hl 19 rfl) ?_
  refine lv_lload hx hb d_F_times_246 (lv_at hl 8 rfl) ?_
  refine lv_lmul hx hb d_F_times_248 ?_
  refine lv_ladd hx hb d_F_times_249 ?_
  refine lv_lload hx hb d_F_times_250 (lv_at hl 18 rfl) ?_
  refine lv_lload hx hb d_F_times_252 (lv_at hl 9 rfl) ?_
  refine lv_lmul hx hb d_F_times_254 ?_
  refine lv_ladd hx hb d_F_times_255 ?_
  refine lv_lload hx hb d_F_times_256 (lv_at hl 17 rfl) ?_
  refine lv_lload hx hb d_F_times_258 (lv_at hl 10 rfl) ?_
  refine lv_lmul hx hb d_F_times_260 ?_
  refine lv_ladd hx hb d_F_times_261 ?_
  refine lv_lload hx hb d_F_times_262 (lv_at hl 16 rfl) ?_
  refine lv_lload hx hb d_F_times_264 (lv_at hl 11 rfl) ?_
  refine lv_lmul hx hb d_F_times_266 ?_
  refine lv_ladd hx hb d_F_times_267 ?_
  refine lv_lload hx hb d_F_times_268 (lv_at hl 15 rfl) ?_
  refine lv_lload hx hb d_F_times_270 (lv_at hl 12 rfl) ?_
  refine lv_lmul hx hb d_F_times_272 ?_
  refine lv_ladd hx hb d_F_times_273 ?_
  refine lv_lmul hx hb d_F_times_274 ?_
  refine lv_ladd hx hb d_F_times_275 ?_
  refine vx_last hx hb hG hS hV f0 o0 (by omega) (by decide) d_F_times_276 (fun H locs X27 eX27 hS hV => ?_)
  refine lv_aload_n hx hb d_F_times_277 rfl (lv_at hl 25 rfl) ?_
  refine lv_iconst (v := nI 2) hx hb d_F_times_278 (by decide +kernel) ?_
  refine lv_lload_n hx hb d_F_times_279 rfl (lv_at hl 24 rfl) ?_
  refine lv_lload hx hb d_F_times_280 (lv_at hl 12 rfl) ?_
  refine lv_lmul hx hb d_F_times_282 ?_
  refine lv_lload hx hb d_F_times_283 (lv_at hl 4 rfl) ?_
  refine lv_lload hx hb d_F_times_285 (lv_at hl 13 rfl) ?_
  refine lv_lmul hx hb d_F_times_287 ?_
  refine lv_ladd hx hb d_F_times_288 ?_
  refine lv_lload hx hb d_F_times_289 (lv_at hl 22 rfl) ?_
  refine lv_lload hx hb d_F_times_291 (lv_at hl 14 rfl) ?_
  refine lv_lmul hx hb d_F_times_293 ?_
  refine lv_ladd hx hb d_F_times_294 ?_
  refine lv_ldc2 (v := (19)) hx hb hown (hts (.constantLong R_F 51 (19)) (by decide +kernel)) d_F_times_295 ?_
  refine lv_lload hx hb d_F_times_298 (lv_at hl 3 rfl) ?_
  refine lv_lload hx hb d_F_times_300 (lv_at hl 5 rfl) ?_
  refine lv_lmul hx hb d_F_times_302 ?_
  refine lv_lload hx hb d_F_times_303 (lv_at hl 20 rfl) ?_
  refine lv_lload hx hb d_F_times_305 (lv_at hl 6 rfl) ?_
  refine lv_lmul hx hb d_F_times_307 ?_
  refine lv_ladd hx hb d_F_times_308 ?_
  refine lv_lload hx hb d_F_times_309 (lv_at hl 2 rfl) ?_
  refine lv_lload hx hb d_F_times_311 (lv_at hl 7 rfl) ?_
  refine lv_lmul hx hb d_F_times_313 ?_
  refine lv_ladd hx hb d_F_times_314 ?_
  refine lv_lload hx hb d_F_times_315 (lv_at hl 18 rfl) ?_
  refine lv_lload hx hb d_F_times_317 (lv_at hl 8 rfl) ?_
  refine lv_lmul hx hb d_F_times_319 ?_
  refine lv_ladd hx hb d_F_times_320 ?_
  refine lv_lload hx hb d_F_times_321 (lv_at hl 1 rfl) ?_
  refine lv_lload hx hb d_F_times_323 (lv_at hl 9 rfl) ?_
  refine lv_lmul hx hb d_F_times_325 ?_
  refine lv_ladd hx hb d_F_times_326 ?_
  refine lv_lload hx hb d_F_times_327 (lv_at hl 16 rfl) ?_
  refine lv_lload hx hb d_F_times_329 (lv_at hl 10 rfl) ?_
  refine lv_lmul hx hb d_F_times_331 ?_
  refine lv_ladd hx hb d_F_times_332 ?_
  refine lv_lload hx hb d_F_times_333 (lv_at hl 0 rfl) ?_
  refine lv_lload hx hb d_F_times_335 (lv_at hl 11 rfl) ?_
  refine lv_lmul hx hb d_F_times_337 ?_
  refine lv_ladd hx hb d_F_times_338 ?_
  refine lv_lmul hx hb d_F_times_339 ?_
  refine lv_ladd hx hb d_F_times_340 ?_
  refine vx_last hx hb hG hS hV f0 o0 (by omega) (by decide) d_F_times_341 (fun H locs X28 eX28 hS hV => ?_)
  refine lv_aload_n hx hb d_F_times_342 rfl (lv_at hl 25 rfl) ?_
  refine lv_iconst (v := nI 3) hx hb d_F_times_343 (by decide +kernel) ?_
  refine lv_lload_n hx hb d_F_times_344 rfl (lv_at hl 24 rfl) ?_
  refine lv_lload hx hb d_F_times_345 (lv_at hl 11 rfl) ?_
  refine lv_lmul hx hb d_F_times_347 ?_
  refine lv_lload hx hb d_F_times_348 (lv_at hl 23 rfl) ?_
  refine lv_lload hx hb d_F_times_350 (lv_at hl 12 rfl) ?_
  refine lv_lmul hx hb d_F_times_352 ?_
  refine lv_ladd hx hb d_F_times_353 ?_
  refine lv_lload hx hb d_F_times_354 (lv_at hl 22 rfl) ?_
  refine lv_lload hx hb d_F_times_356 (lv_at hl 13 rfl) ?_
  refine lv_lmul hx hb d_F_times_358 ?_
  refine lv_ladd hx hb d_F_times_359 ?_
  refine lv_lload hx hb d_F_times_360 (lv_at hl 21 rfl) ?_
  refine lv_lload hx hb d_F_times_362 (lv_at hl 14 rfl) ?_
  refine lv_lmul hx hb d_F_times_364 ?_
  refine lv_ladd hx hb d_F_times_365 ?_
  refine lv_ldc2 (v := (19)) hx hb hown (hts (.constantLong R_F 51 (19)) (by decide +kernel)) d_F_times_366 ?_
  refine lv_lload hx hb d_F_times_369 (lv_at hl 20 rfl) ?_
  refine lv_lload hx hb d_F_times_371 (lv_at hl 5 rfl) ?_
  refine lv_lmul hx hb d_F_times_373 ?_
  refine lv_lload hx hb d_F_times_374 (lv_at hl 19 rfl) ?_
  refine lv_lload hx hb d_F_times_376 (lv_at hl 6 rfl) ?_
  refine lv_lmul hx hb d_F_times_378 ?_
  refine lv_ladd hx hb d_F_times_379 ?_
  refine lv_lload hx hb d_F_times_380 (lv_at hl 18 rfl) ?_
  refine lv_lload hx hb d_F_times_382 (lv_at hl 7 rfl) ?_
  refine lv_lmul hx hb d_F_times_384 ?_
  refine lv_ladd hx hb d_F_times_385 ?_
  refine lv_lload hx hb d_F_times_386 (lv_at hl 17 rfl) ?_
  refine lv_lload hx hb d_F_times_388 (lv_at hl 8 rfl) ?_
  refine lv_lmul hx hb d_F_times_390 ?_
  refine lv_ladd hx hb d_F_times_391 ?_
  refine lv_lload hx hb d_F_times_392 (lv_at hl 16 rfl) ?_
  refine lv_lload hx hb d_F_times_394 (lv_at hl 9 rfl) ?_
  refine lv_lmul hx hb d_F_times_396 ?_
  refine lv_ladd hx hb d_F_times_397 ?_
  refine lv_lload hx hb d_F_times_398 (lv_at hl 15 rfl) ?_
  refine lv_lload hx hb d_F_times_400 (lv_at hl 10 rfl) ?_
  refine lv_lmul hx hb d_F_times_402 ?_
  refine lv_ladd hx hb d_F_times_403 ?_
  refine lv_lmul hx hb d_F_times_404 ?_
  refine lv_ladd hx hb d_F_times_405 ?_
  refine vx_last hx hb hG hS hV f0 o0 (by omega) (by decide) d_F_times_406 (fun H locs X29 eX29 hS hV => ?_)
  refine lv_aload_n hx hb d_F_times_407 rfl (lv_at hl 25 rfl) ?_
  refine lv_iconst (v := nI 4) hx hb d_F_times_408 (by decide +kernel) ?_
  refine lv_lload_n hx hb d_F_times_409 rfl (lv_at hl 24 rfl) ?_
  refine lv_lload hx hb d_F_times_410 (lv_at hl 10 rfl) ?_
  refine lv_lmul hx hb d_F_times_412 ?_
  refine lv_lload hx hb d_F_times_413 (lv_at hl 4 rfl) ?_
  refine lv_lload hx hb d_F_times_415 (lv_at hl 11 rfl) ?_
  refine lv_lmul hx hb d_F_times_417 ?_
  refine lv_ladd hx hb d_F_times_418 ?_
  refine lv_lload hx hb d_F_times_419 (lv_at hl 22 rfl) ?_
  refine lv_lload hx hb d_F_times_421 (lv_at hl 12 rfl) ?_
  refine lv_lmul hx hb d_F_times_423 ?_
  refine lv_ladd hx hb d_F_times_424 ?_
  refine lv_lload hx hb d_F_times_425 (lv_at hl 3 rfl) ?_
  refine lv_lload hx hb d_F_times_427 (lv_at hl 13 rfl) ?_
  refine lv_lmul hx hb d_F_times_429 ?_
  refine lv_ladd hx hb d_F_times_430 ?_
  refine lv_lload hx hb d_F_times_431 (lv_at hl 20 rfl) ?_
  refine lv_lload hx hb d_F_times_433 (lv_at hl 14 rfl) ?_
  refine lv_lmul hx hb d_F_times_435 ?_
  refine lv_ladd hx hb d_F_times_436 ?_
  refine lv_ldc2 (v := (19)) hx hb hown (hts (.constantLong R_F 51 (19)) (by decide +kernel)) d_F_times_437 ?_
  refine lv_lload hx hb d_F_times_440 (lv_at hl 2 rfl) ?_
  refine lv_lload hx hb d_F_times_442 (lv_at hl 5 rfl) ?_
  refine lv_lmul hx hb d_F_times_444 ?_
  refine lv_lload hx hb d_F_times_445 (lv_at hl 18 rfl) ?_
  refine lv_lload hx hb d_F_times_447 (lv_at hl 6 rfl) ?_
  refine lv_lmul hx hb d_F_times_449 ?_
  refine lv_ladd hx hb d_F_times_450 ?_
  refine lv_lload hx hb d_F_times_451 (lv_at hl 1 rfl) ?_
  refine lv_lload hx hb d_F_times_453 (lv_at hl 7 rfl) ?_
  refine lv_lmul hx hb d_F_times_455 ?_
  refine lv_ladd hx hb d_F_times_456 ?_
  refine lv_lload hx hb d_F_times_457 (lv_at hl 16 rfl) ?_
  refine lv_lload hx hb d_F_times_459 (lv_at hl 8 rfl) ?_
  refine lv_lmul hx hb d_F_times_461 ?_
  refine lv_ladd hx hb d_F_times_462 ?_
  refine lv_lload hx hb d_F_times_463 (lv_at hl 0 rfl) ?_
  refine lv_lload hx hb d_F_times_465 (lv_at hl 9 rfl) ?_
  refine lv_lmul hx hb d_F_times_467 ?_
  refine lv_ladd hx hb d_F_times_468 ?_
  refine lv_lmul hx hb d_F_times_469 ?_
  refine lv_ladd hx hb d_F_times_470 ?_
  refine vx_last hx hb hG hS hV f0 o0 (by omega) (by decide) d_F_times_471 (fun H locs X30 eX30 hS hV => ?_)
  refine lv_aload_n hx hb d_F_times_472 rfl (lv_at hl 25 rfl) ?_
  refine lv_iconst (v := nI 5) hx hb d_F_times_473 (by decide +kernel) ?_
  refine lv_lload_n hx hb d_F_times_474 rfl (lv_at hl 24 rfl) ?_
  refine lv_lload hx hb d_F_times_475 (lv_at hl 9 rfl) ?_
  refine lv_lmul hx hb d_F_times_477 ?_
  refine lv_lload hx hb d_F_times_478 (lv_at hl 23 rfl) ?_
  refine lv_lload hx hb d_F_times_480 (lv_at hl 10 rfl) ?_
  refine lv_lmul hx hb d_F_times_482 ?_
  refine lv_ladd hx hb d_F_times_483 ?_
  refine lv_lload hx hb d_F_times_484 (lv_at hl 22 rfl) ?_
  refine lv_lload hx hb d_F_times_486 (lv_at hl 11 rfl) ?_
  refine lv_lmul hx hb d_F_times_488 ?_
  refine lv_ladd hx hb d_F_times_489 ?_
  refine lv_lload hx hb d_F_times_490 (lv_at hl 21 rfl) ?_
  refine lv_lload hx hb d_F_times_492 (lv_at hl 12 rfl) ?_
  refine lv_lmul hx hb d_F_times_494 ?_
  refine lv_ladd hx hb d_F_times_495 ?_
  refine lv_lload hx hb d_F_times_496 (lv_at hl 20 rfl) ?_
  refine lv_lload hx hb d_F_times_498 (lv_at hl 13 rfl) ?_
  refine lv_lmul hx hb d_F_times_500 ?_
  refine lv_ladd hx hb d_F_times_501 ?_
  refine lv_lload hx hb d_F_times_502 (lv_at hl 19 rfl) ?_
  refine lv_lload hx hb d_F_times_504 (lv_at hl 14 rfl) ?_
  refine lv_lmul hx hb d_F_times_506 ?_
  refine lv_ladd hx hb d_F_times_507 ?_
  refine lv_ldc2 (v := (19)) hx hb hown (hts (.constantLong R_F 51 (19)) (by decide +kernel)) d_F_times_508 ?_
  refine lv_lload hx hb d_F_times_511 (lv_at hl 18 rfl) ?_
  refine lv_lload hx hb d_F_times_513 (lv_at hl 5 rfl) ?_
  refine lv_lmul hx hb d_F_times_515 ?_
  refine lv_lload hx hb d_F_times_516 (lv_at hl 17 rfl) ?_
  refine lv_lload hx hb d_F_times_518 (lv_at hl 6 rfl) ?_
  refine lv_lmul hx hb d_F_times_520 ?_
  refine lv_ladd hx hb d_F_times_521 ?_
  refine lv_lload hx hb d_F_times_522 (lv_at hl 16 rfl) ?_
  refine lv_lload hx hb d_F_times_524 (lv_at hl 7 rfl) ?_
  refine lv_lmul hx hb d_F_times_526 ?_
  refine lv_ladd hx hb d_F_times_527 ?_
  refine lv_lload hx hb d_F_times_528 (lv_at hl 15 rfl) ?_
  refine lv_lload hx hb d_F_times_530 (lv_at hl 8 rfl) ?_
  refine lv_lmul hx hb d_F_times_532 ?_
  refine lv_ladd hx hb d_F_times_533 ?_
  refine lv_lmul hx hb d_F_times_534 ?_
  refine lv_ladd hx hb d_F_times_535 ?_
  refine vx_last hx hb hG hS hV f0 o0 (by omega) (by decide) d_F_times_536 (fun H locs X31 eX31 hS hV => ?_)
  refine lv_aload_n hx hb d_F_times_537 rfl (lv_at hl 25 rfl) ?_
  refine lv_bipush (v := nI 6) hx hb d_F_times_538 (by decide +kernel) ?_
  refine lv_lload_n hx hb d_F_times_540 rfl (lv_at hl 24 rfl) ?_
  refine lv_lload hx hb d_F_times_541 (lv_at hl 8 rfl) ?_
  refine lv_lmul hx hb d_F_times_543 ?_
  refine lv_lload hx hb d_F_times_544 (lv_at hl 4 rfl) ?_
  refine lv_lload hx hb d_F_times_546 (lv_at hl 9 rfl) ?_
  refine lv_lmul hx hb d_F_times_548 ?_
  refine lv_ladd hx hb d_F_times_549 ?_
  refine lv_lload hx hb d_F_times_550 (lv_at hl 22 rfl) ?_
  refine lv_lload hx hb d_F_times_552 (lv_at hl 10 rfl) ?_
  refine lv_lmul hx hb d_F_times_554 ?_
  refine lv_ladd hx hb d_F_times_555 ?_
  refine lv_lload hx hb d_F_times_556 (lv_at hl 3 rfl) ?_
  refine lv_lload hx hb d_F_times_558 (lv_at hl 11 rfl) ?_
  refine lv_lmul hx hb d_F_times_560 ?_
  refine lv_ladd hx hb d_F_times_561 ?_
  refine lv_lload hx hb d_F_times_562 (lv_at hl 20 rfl) ?_
  refine lv_lload hx hb d_F_times_564 (lv_at hl 12 rfl) ?_
  refine lv_lmul hx hb d_F_times_566 ?_
  refine lv_ladd hx hb d_F_times_567 ?_
  refine lv_lload hx hb d_F_times_568 (lv_at hl 2 rfl) ?_
  refine lv_lload hx hb d_F_times_570 (lv_at hl 13 rfl) ?_
  refine lv_lmul hx hb d_F_times_572 ?_
  refine lv_ladd hx hb d_F_times_573 ?_
  refine lv_lload hx hb d_F_times_574 (lv_at hl 18 rfl) ?_
  refine lv_lload hx hb d_F_times_576 (lv_at hl 14 rfl) ?_
  refine lv_lmul hx hb d_F_times_578 ?_
  refine lv_ladd hx hb d_F_times_579 ?_
  refine lv_ldc2 (v := (19)) hx hb hown (hts (.constantLong R_F 51 (19)) (by decide +kernel)) d_F_times_580 ?_
  refine lv_lload hx hb d_F_times_583 (lv_at hl 1 rfl) ?_
  refine lv_lload hx hb d_F_times_585 (lv_at hl 5 rfl) ?_
  refine lv_lmul hx hb d_F_times_587 ?_
  refine lv_lload hx hb d_F_times_588 (lv_at hl 16 rfl) ?_
  refine lv_lload hx hb d_F_times_590 (lv_at hl 6 rfl) ?_
  refine lv_lmul hx hb d_F_times_592 ?_
  refine lv_ladd hx hb d_F_times_593 ?_
  refine lv_lload hx hb d_F_times_594 (lv_at hl 0 rfl) ?_
  refine lv_lload hx hb d_F_times_596 (lv_at hl 7 rfl) ?_
  refine lv_lmul hx hb d_F_times_598 ?_
  refine lv_ladd hx hb d_F_times_599 ?_
  refine lv_lmul hx hb d_F_times_600 ?_
  refine lv_ladd hx hb d_F_times_601 ?_
  refine vx_last hx hb hG hS hV f0 o0 (by omega) (by decide) d_F_times_602 (fun H locs X32 eX32 hS hV => ?_)
  refine lv_aload_n hx hb d_F_times_603 rfl (lv_at hl 25 rfl) ?_
  refine lv_bipush (v := nI 7) hx hb d_F_times_604 (by decide +kernel) ?_
  refine lv_lload_n hx hb d_F_times_606 rfl (lv_at hl 24 rfl) ?_
  refine lv_lload hx hb d_F_times_607 (lv_at hl 7 rfl) ?_
  refine lv_lmul hx hb d_F_times_609 ?_
  refine lv_lload hx hb d_F_times_610 (lv_at hl 23 rfl) ?_
  refine lv_lload hx hb d_F_times_612 (lv_at hl 8 rfl) ?_
  refine lv_lmul hx hb d_F_times_614 ?_
  refine lv_ladd hx hb d_F_times_615 ?_
  refine lv_lload hx hb d_F_times_616 (lv_at hl 22 rfl) ?_
  refine lv_lload hx hb d_F_times_618 (lv_at hl 9 rfl) ?_
  refine lv_lmul hx hb d_F_times_620 ?_
  refine lv_ladd hx hb d_F_times_621 ?_
  refine lv_lload hx hb d_F_times_622 (lv_at hl 21 rfl) ?_
  refine lv_lload hx hb d_F_times_624 (lv_at hl 10 rfl) ?_
  refine lv_lmul hx hb d_F_times_626 ?_
  refine lv_ladd hx hb d_F_times_627 ?_
  refine lv_lload hx hb d_F_times_628 (lv_at hl 20 rfl) ?_
  refine lv_lload hx hb d_F_times_630 (lv_at hl 11 rfl) ?_
  refine lv_lmul hx hb d_F_times_632 ?_
  refine lv_ladd hx hb d_F_times_633 ?_
  refine lv_lload hx hb d_F_times_634 (lv_at hl 19 rfl) ?_
  refine lv_lload hx hb d_F_times_636 (lv_at hl 12 rfl) ?_
  refine lv_lmul hx hb d_F_times_638 ?_
  refine lv_ladd hx hb d_F_times_639 ?_
  refine lv_lload hx hb d_F_times_640 (lv_at hl 18 rfl) ?_
  refine lv_lload hx hb d_F_times_642 (lv_at hl 13 rfl) ?_
  refine lv_lmul hx hb d_F_times_644 ?_
  refine lv_ladd hx hb d_F_times_645 ?_
  refine lv_lload hx hb d_F_times_646 (lv_at hl 17 rfl) ?_
  refine lv_lload hx hb d_F_times_648 (lv_at hl 14 rfl) ?_
  refine lv_lmul hx hb d_F_times_650 ?_
  refine lv_ladd hx hb d_F_times_651 ?_
  refine lv_ldc2 (v := (19)) hx hb hown (hts (.constantLong R_F 51 (19)) (by decide +kernel)) d_F_times_652 ?_
  refine lv_lload hx hb d_F_times_655 (lv_at hl 16 rfl) ?_
  refine lv_lload hx hb d_F_times_657 (lv_at hl 5 rfl) ?_
  refine lv_lmul hx hb d_F_times_659 ?_
  refine lv_lload hx hb d_F_times_660 (lv_at hl 15 rfl) ?_
  refine lv_lload hx hb d_F_times_662 (lv_at hl 6 rfl) ?_
  refine lv_lmul hx hb d_F_times_664 ?_
  refine lv_ladd hx hb d_F_times_665 ?_
  refine lv_lmul hx hb d_F_times_666 ?_
  refine lv_ladd hx hb d_F_times_667 ?_
  refine vx_last hx hb hG hS hV f0 o0 (by omega) (by decide) d_F_times_668 (fun H locs X33 eX33 hS hV => ?_)
  refine lv_aload_n hx hb d_F_times_669 rfl (lv_at hl 25 rfl) ?_
  refine lv_bipush (v := nI 8) hx hb d_F_times_670 (by decide +kernel) ?_
  refine lv_lload_n hx hb d_F_times_672 rfl (lv_at hl 24 rfl) ?_
  refine lv_lload hx hb d_F_times_673 (lv_at hl 6 rfl) ?_
  refine lv_lmul hx hb d_F_times_675 ?_
  refine lv_lload hx hb d_F_times_676 (lv_at hl 4 rfl) ?_
  refine lv_lload hx hb d_F_times_678 (lv_at hl 7 rfl) ?_
  refine lv_lmul hx hb d_F_times_680 ?_
  refine lv_ladd hx hb d_F_times_681 ?_
  refine lv_lload hx hb d_F_times_682 (lv_at hl 22 rfl) ?_
  refine lv_lload hx hb d_F_times_684 (lv_at hl 8 rfl) ?_
  refine lv_lmul hx hb d_F_times_686 ?_
  refine lv_ladd hx hb d_F_times_687 ?_
  refine lv_lload hx hb d_F_times_688 (lv_at hl 3 rfl) ?_
  refine lv_lload hx hb d_F_times_690 (lv_at hl 9 rfl) ?_
  refine lv_lmul hx hb d_F_times_692 ?_
  refine lv_ladd hx hb d_F_times_693 ?_
  refine lv_lload hx hb d_F_times_694 (lv_at hl 20 rfl) ?_
  refine lv_lload hx hb d_F_times_696 (lv_at hl 10 rfl) ?_
  refine lv_lmul hx hb d_F_times_698 ?_
  refine lv_ladd hx hb d_F_times_699 ?_
  refine lv_lload hx hb d_F_times_700 (lv_at hl 2 rfl) ?_
  refine lv_lload hx hb d_F_times_702 (lv_at hl 11 rfl) ?_
  refine lv_lmul hx hb d_F_times_704 ?_
  refine lv_ladd hx hb d_F_times_705 ?_
  refine lv_lload hx hb d_F_times_706 (lv_at hl 18 rfl) ?_
  refine lv_lload hx hb d_F_times_708 (lv_at hl 12 rfl) ?_
  refine lv_lmul hx hb d_F_times_710 ?_
  refine lv_ladd hx hb d_F_times_711 ?_
  refine lv_lload hx hb d_F_times_712 (lv_at hl 1 rfl) ?_
  refine lv_lload hx hb d_F_times_714 (lv_at hl 13 rfl) ?_
  refine lv_lmul hx hb d_F_times_716 ?_
  refine lv_ladd hx hb d_F_times_717 ?_
  refine lv_lload hx hb d_F_times_718 (lv_at hl 16 rfl) ?_
  refine lv_lload hx hb d_F_times_720 (lv_at hl 14 rfl) ?_
  refine lv_lmul hx hb d_F_times_722 ?_
  refine lv_ladd hx hb d_F_times_723 ?_
  refine lv_ldc2 (v := (19)) hx hb hown (hts (.constantLong R_F 51 (19)) (by decide +kernel)) d_F_times_724 ?_
  refine lv_lload hx hb d_F_times_727 (lv_at hl 0 rfl) ?_
  refine lv_lload hx hb d_F_times_729 (lv_at hl 5 rfl) ?_
  refine lv_lmul hx hb d_F_times_731 ?_
  refine lv_lmul hx hb d_F_times_732 ?_
  refine lv_ladd hx hb d_F_times_733 ?_
  refine vx_last hx hb hG hS hV f0 o0 (by omega) (by decide) d_F_times_734 (fun H locs X34 eX34 hS hV => ?_)
  refine lv_aload_n hx hb d_F_times_735 rfl (lv_at hl 25 rfl) ?_
  refine lv_bipush (v := nI 9) hx hb d_F_times_736 (by decide +kernel) ?_
  refine lv_lload_n hx hb d_F_times_738 rfl (lv_at hl 24 rfl) ?_
  refine lv_lload hx hb d_F_times_739 (lv_at hl 5 rfl) ?_
  refine lv_lmul hx hb d_F_times_741 ?_
  refine lv_lload hx hb d_F_times_742 (lv_at hl 23 rfl) ?_
  refine lv_lload hx hb d_F_times_744 (lv_at hl 6 rfl) ?_
  refine lv_lmul hx hb d_F_times_746 ?_
  refine lv_ladd hx hb d_F_times_747 ?_
  refine lv_lload hx hb d_F_times_748 (lv_at hl 22 rfl) ?_
  refine lv_lload hx hb d_F_times_750 (lv_at hl 7 rfl) ?_
  refine lv_lmul hx hb d_F_times_752 ?_
  refine lv_ladd hx hb d_F_times_753 ?_
  refine lv_lload hx hb d_F_times_754 (lv_at hl 21 rfl) ?_
  refine lv_lload hx hb d_F_times_756 (lv_at hl 8 rfl) ?_
  refine lv_lmul hx hb d_F_times_758 ?_
  refine lv_ladd hx hb d_F_times_759 ?_
  refine lv_lload hx hb d_F_times_760 (lv_at hl 20 rfl) ?_
  refine lv_lload hx hb d_F_times_762 (lv_at hl 9 rfl) ?_
  refine lv_lmul hx hb d_F_times_764 ?_
  refine lv_ladd hx hb d_F_times_765 ?_
  refine lv_lload hx hb d_F_times_766 (lv_at hl 19 rfl) ?_
  refine lv_lload hx hb d_F_times_768 (lv_at hl 10 rfl) ?_
  refine lv_lmul hx hb d_F_times_770 ?_
  refine lv_ladd hx hb d_F_times_771 ?_
  refine lv_lload hx hb d_F_times_772 (lv_at hl 18 rfl) ?_
  refine lv_lload hx hb d_F_times_774 (lv_at hl 11 rfl) ?_
  refine lv_lmul hx hb d_F_times_776 ?_
  refine lv_ladd hx hb d_F_times_777 ?_
  refine lv_lload hx hb d_F_times_778 (lv_at hl 17 rfl) ?_
  refine lv_lload hx hb d_F_times_780 (lv_at hl 12 rfl) ?_
  refine lv_lmul hx hb d_F_times_782 ?_
  refine lv_ladd hx hb d_F_times_783 ?_
  refine lv_lload hx hb d_F_times_784 (lv_at hl 16 rfl) ?_
  refine lv_lload hx hb d_F_times_786 (lv_at hl 13 rfl) ?_
  refine lv_lmul hx hb d_F_times_788 ?_
  refine lv_ladd hx hb d_F_times_789 ?_
  refine lv_lload hx hb d_F_times_790 (lv_at hl 15 rfl) ?_
  refine lv_lload hx hb d_F_times_792 (lv_at hl 14 rfl) ?_
  refine lv_lmul hx hb d_F_times_794 ?_
  refine lv_ladd hx hb d_F_times_795 ?_
  refine vx_last hx hb hG hS hV f0 o0 (by omega) (by decide) d_F_times_796 (fun H locs X35 eX35 hS hV => ?_)
  refine lv_aload_n hx hb d_F_times_797 rfl (lv_at hl 25 rfl) ?_
  refine vx_gv (sx_runS (As := [.ref a0]) (rest := []) EE (v_F_carry (X := X35) (hS.a f0) o0 hV) w_F_45 rfl ⟨rfl, rfl⟩ ⟨Nat.le_of_ble_eq_true rfl, Nat.le_of_ble_eq_true rfl⟩ ⟨Nat.zero_le _, Nat.zero_le _⟩ hl.1 rfl (Nat.le_of_ble_eq_true rfl) d_F_times_798) hS (fun H locs X36 eX36 hS hV => ?_)
  exact hret _ _ _ _ _ (by subst ez1 ez2 ez3 ez4 ez5 ez6 ez7 ez8 ez9 ez10 ez11 ez12 ez13 ez14 ez15 ez16 ez17 ez18 ez19 ez20 ez21 ez22 ez23 ez24 ez25 eX26 eX27 eX28 eX29 eX30 eX31 eX32 eX33 eX34 eX35 eX36; exact rfl) hS hV d_F_times_801
def LF_F_square (X : vM) (a0 : Nat) (a1 : Nat) : vM := (let z1 : Int64 := (X.1 a1 0); let z2 : Int64 := (X.1 a1 1); let z3 : Int64 := (X.1 a1 2); let z4 : Int64 := (X.1 a1 3); let z5 : Int64 := (X.1 a1 4); let z6 : Int64 := (X.1 a1 5); let z7 : Int64 := (X.1 a1 6); let z8 : Int64 := (X.1 a1 7); let z9 : Int64 := (X.1 a1 8); let z10 : Int64 := (X.1 a1 9); let z11 : Int64 := ((2 : Int64) * z1); let z12 : Int64 := ((2 : Int64) * z2); let z13 : Int64 := ((2 : Int64) * z3); let z14 : Int64 := ((2 : Int64) * z4); let z15 : Int64 := ((2 : Int64) * z5); let z16 : Int64 := ((2 : Int64) * z6); let z17 : Int64 := ((2 : Int64) * z7); let z18 : Int64 := ((2 : Int64) * z8); let z19 : Int64 := ((2 : Int64) * z9); let z20 : Int64 := ((2 : Int64) * z10); let X21 : vM := stL X a0 0 ((z1 * z1) + ((19 : Int64) * (((((z12 * z20) + (z13 * z9)) + (z14 * z18)) + (z15 * z7)) + (z6 * z16)))); let X22 : vM := stL X21 a0 1 ((z11 * z2) + ((19 : Int64) * ((((z13 * z10) + (z14 * z9)) + (z15 * z8)) + (z16 * z7)))); let X23 : vM := stL X22 a0 2 (((z11 * z3) + (z12 * z2)) + ((19 : Int64) * ((((z14 * z20) + (z15 * z9)) + (z16 * z18)) + (z7 * z7)))); let X24 : vM := stL X23 a0 3 (((z11 * z4) + (z12 * z3)) + ((19 : Int64) * (((z15 * z10) + (z16 * z9)) + (z17 * z8)))); let X25 : vM := stL X24 a0 4 ((((z11 * z5) + (z12 * z14)) + (z3 * z3)) + ((19 : Int64) * (((z16 * z20) + (z17 * z9)) + (z8 * z18)))); let X26 : vM := stL X25 a0 5 ((((z11 * z6) + (z12 * z5)) + (z13 * z4)) + ((19 : Int64) * ((z17 * z10) + (z18 * z9)))); let X27 : vM := stL X26 a0 6 (((((z11 * z7) + (z12 * z16)) + (z13 * z5)) + (z14 * z4)) + ((19 : Int64) * ((z18 * z20) + (z9 * z9)))); let X28 : vM := stL X27 a0 7 (((((z11 * z8) + (z12 * z7)) + (z13 * z6)) + (z14 * z5)) + ((19 : Int64) * (z19 * z10))); let X29 : vM := stL X28 a0 8 ((((((z11 * z9) + (z12 * z18)) + (z13 * z7)) + (z14 * z16)) + (z5 * z5)) + ((19 : Int64) * (z10 * z20))); let X30 : vM := stL X29 a0 9 (((((z11 * z10) + (z12 * z9)) + (z13 * z8)) + (z14 * z7)) + (z15 * z6)); let X31 : vM := (LF_F_carry X30 a0); X31)
abbrev rm_F_square : Room := { frames := 1, cells := 0, slots := 0, locals := 27 }
set_option maxHeartbeats 4000000 in
set_option maxRecDepth 100000 in
theorem v_F_square {l : Launch} {D : va_G} {g : ClassId → FieldType → Prop} {E : Nat → Prop} {H0 : Heap} {X : vM} {a0 : Nat} {a1 : Nat} (f0 : sx_A g .long H0 a0 10) (o0 : E a0) (f1 : sx_A g .long H0 a1 10) (hV : mm g H0 = X) : Met l y_F_square (.code y_F_square b_F_square 42 none :: G_) rm_F_square (sx_Pc [.ref a0, .ref a1] H0 D g) (vx_Qv g E H0 (LF_F_square X a0 a1)) 0 0 E := by
  refine vx_mv (own := R_F) (by decide) rfl rfl rfl (Nat.le_of_ble_eq_true rfl) ?_
  intro p e s m args below meth c Q ls EE hl hret
  obtain ⟨hx, hb, hml, hown, hts, hG, hK⟩ := id EE
  have hS : sx_S g E E H0 H0 [] := sx_S.rf
  have hl : lv_has ls 42 [(0, .ref a0), (1, .ref a1)] := hl
  refine lv_aload_n hx hb d_F_square_0 rfl (lv_at hl 1 rfl) ?_
  refine lv_iconst (v := nI 0) hx hb d_F_square_1 (by decide +kernel) ?_
  refine vx_lald hx hb hG hS hV f1 (by omega) (by decide) d_F_square_2 ?_
  refine vx_nmL (fun z1 ez1 => ?_)
  refine lv_lstore_n (lv' := [(2, .long z1), (0, .ref a0), (1, .ref a1)]) hx hb d_F_square_3 rfl hl (by decide) rfl (fun ls hl => ?_)
  refine lv_aload_n hx hb d_F_square_4 rfl (lv_at hl 2 rfl) ?_
  refine lv_iconst (v := nI 1) hx hb d_F_square_5 (by decide +kernel) ?_
  refine vx_lald hx hb hG hS hV f1 (by omega) (by decide) d_F_square_6 ?_
  refine vx_nmL (fun z2 ez2 => ?_)
  refine lv_lstore (lv' := [(4, .long z2), (2, .long z1), (0, .ref a0), (1, .ref a1)]) hx hb d_F_square_7 hl (by decide) rfl (fun ls hl => ?_)
  refine lv_aload_n hx hb d_F_square_9 rfl (lv_at hl 3 rfl) ?_
  refine lv_iconst (v := nI 2) hx hb d_F_square_10 (by decide +kernel) ?_
  refine vx_lald hx hb hG hS hV f1 (by omega) (by decide) d_F_square_11 ?_
  refine vx_nmL (fun z3 ez3 => ?_)
  refine lv_lstore (lv' := [(6, .long z3), (4, .long z2), (2, .long z1), (0, .ref a0), (1, .ref a1)]) hx hb d_F_square_12 hl (by decide) rfl (fun ls hl => ?_)
  refine lv_aload_n hx hb d_F_square_14 rfl (lv_at hl 4 rfl) ?_
  refine lv_iconst (v := nI 3) hx hb d_F_square_15 (by decide +kernel) ?_
  refine vx_lald hx hb hG hS hV f1 (by omega) (by decide) d_F_square_16 ?_
  refine vx_nmL (fun z4 ez4 => ?_)
  refine lv_lstore (lv' := [(8, .long z4), (6, .long z3), (4, .long z2), (2, .long z1), (0, .ref a0), (1, .ref a1)]) hx hb d_F_square_17 hl (by decide) rfl (fun ls hl => ?_)
  refine lv_aload_n hx hb d_F_square_19 rfl (lv_at hl 5 rfl) ?_
  refine lv_iconst (v := nI 4) hx hb d_F_square_20 (by decide +kernel) ?_
  refine vx_lald hx hb hG hS hV f1 (by omega) (by decide) d_F_square_21 ?_
  refine vx_nmL (fun z5 ez5 => ?_)
  refine lv_lstore (lv' := [(10, .long z5), (8, .long z4), (6, .long z3), (4, .long z2), (2, .long z1), (0, .ref a0), (1, .ref a1)]) hx hb d_F_square_22 hl (by decide) rfl (fun ls hl => ?_)
  refine lv_aload_n hx hb d_F_square_24 rfl (lv_at hl 6 rfl) ?_
  refine lv_iconst (v := nI 5) hx hb d_F_square_25 (by decide +kernel) ?_
  refine vx_lald hx hb hG hS hV f1 (by omega) (by decide) d_F_square_26 ?_
  refine vx_nmL (fun z6 ez6 => ?_)
  refine lv_lstore (lv' := [(12, .long z6), (10, .long z5), (8, .long z4), (6, .long z3), (4, .long z2), (2, .long z1), (0, .ref a0), (1, .ref a1)]) hx hb d_F_square_27 hl (by decide) rfl (fun ls hl => ?_)
  refine lv_aload_n hx hb d_F_square_29 rfl (lv_at hl 7 rfl) ?_
  refine lv_bipush (v := nI 6) hx hb d_F_square_30 (by decide +kernel) ?_
  refine vx_lald hx hb hG hS hV f1 (by omega) (by decide) d_F_square_32 ?_
  refine vx_nmL (fun z7 ez7 => ?_)
  refine lv_lstore (lv' := [(14, .long z7), (12, .long z6), (10, .long z5), (8, .long z4), (6, .long z3), (4, .long z2), (2, .long z1), (0, .ref a0), (1, .ref a1)]) hx hb d_F_square_33 hl (by decide) rfl (fun ls hl => ?_)
  refine lv_aload_n hx hb d_F_square_35 rfl (lv_at hl 8 rfl) ?_
  refine lv_bipush (v := nI 7) hx hb d_F_square_36 (by decide +kernel) ?_
  refine vx_lald hx hb hG hS hV f1 (by omega) (by decide) d_F_square_38 ?_
  refine vx_nmL (fun z8 ez8 => ?_)
  refine lv_lstore (lv' := [(16, .long z8), (14, .long z7), (12, .long z6), (10, .long z5), (8, .long z4), (6, .long z3), (4, .long z2), (2, .long z1), (0, .ref a0), (1, .ref a1)]) hx hb d_F_square_39 hl (by decide) rfl (fun ls hl => ?_)
  refine lv_aload_n hx hb d_F_square_41 rfl (lv_at hl 9 rfl) ?_
  refine lv_bipush (v := nI 8) hx hb d_F_square_42 (by decide +kernel) ?_
  refine vx_lald hx hb hG hS hV f1 (by omega) (by decide) d_F_square_44 ?_
  refine vx_nmL (fun z9 ez9 => ?_)
  refine lv_lstore (lv' := [(18, .long z9), (16, .long z8), (14, .long z7), (12, .long z6), (10, .long z5), (8, .long z4), (6, .long z3), (4, .long z2), (2, .long z1), (0, .ref a0), (1, .ref a1)]) hx hb d_F_square_45 hl (by decide) rfl (fun ls hl => ?_)
  refine lv_aload_n hx hb d_F_square_47 rfl (lv_at hl 10 rfl) ?_
  refine lv_bipush (v := nI 9) hx hb d_F_square_48 (by decide +kernel) ?_
  refine vx_lald hx hb hG hS hV f1 (by omega) (by decide) d_F_square_50 ?_
  refine vx_nmL (fun z10 ez10 => ?_)
  refine lv_lstore (lv' := [(20, .long z10), (18, .long z9), (16, .long z8), (14, .long z7), (12, .long z6), (10, .long z5), (8, .long z4), (6, .long z3), (4, .long z2), (2, .long z1), (0, .ref a0), (1, .ref a1)]) hx hb d_F_square_51 hl (by decide) rfl (fun ls hl => ?_)
  refine lv_ldc2 (v := (2)) hx hb hown (hts (.constantLong R_F 49 (2)) (by decide +kernel)) d_F_square_53 ?_
  refine lv_lload_n hx hb d_F_square_56 rfl (lv_at hl 9 rfl) ?_
  refine lv_lmul hx hb d_F_square_57 ?_
  refine vx_nmL (fun z11 ez11 => ?_)
  refine lv_lstore (lv' := [(22, .long z11), (20, .long z10), (18, .long z9), (16, .long z8), (14, .long z7), (12, .long z6), (10, .long z5), (8, .long z4), (6, .long z3), (4, .long z2), (2, .long z1), (0, .ref a0), (1, .ref a1)]) hx hb d_F_square_58 hl (by decide) rfl (fun ls hl => ?_)
  refine lv_ldc2 (v := (2)) hx hb hown (hts (.constantLong R_F 49 (2)) (by decide +kernel)) d_F_square_60 ?_
  refine lv_lload hx hb d_F_square_63 (lv_at hl 9 rfl) ?_
  refine lv_lmul hx hb d_F_square_65 ?_
  refine vx_nmL (fun z12 ez12 => ?_)
  refine lv_lstore (lv' := [(24, .long z12), (22, .long z11), (20, .long z10), (18, .long z9), (16, .long z8), (14, .long z7), (12, .long z6), (10, .long z5), (8, .long z4), (6, .long z3), (4, .long z2), (2, .long z1), (0, .ref a0), (1, .ref a1)]) hx hb d_F_square_66 hl (by decide) rfl (fun ls hl => ?_)
  refine lv_ldc2 (v := (2)) hx hb hown (hts (.constantLong R_F 49 (2)) (by decide +kernel)) d_F_square_68 ?_
  refine lv_lload hx hb d_F_square_71 (lv_at hl 9 rfl) ?_
  refine lv_lmul hx hb d_F_square_73 ?_
  refine vx_nmL (fun z13 ez13 => ?_)
  refine lv_lstore (lv' := [(26, .long z13), (24, .long z12), (22, .long z11), (20, .long z10), (18, .long z9), (16, .long z8), (14, .long z7), (12, .long z6), (10, .long z5), (8, .long z4), (6, .long z3), (4, .long z2), (2, .long z1), (0, .ref a0), (1, .ref a1)]) hx hb d_F_square_74 hl (by decide) rfl (fun ls hl => ?_)
  refine lv_ldc2 (v := (2)) hx hb hown (hts (.constantLong R_F 49 (2)) (by decide +kernel)) d_F_square_76 ?_
  refine lv_lload hx hb d_F_square_79 (lv_at hl 9 rfl) ?_
  refine lv_lmul hx hb d_F_square_81 ?_
  refine vx_nmL (fun z14 ez14 => ?_)
  refine lv_lstore (lv' := [(28, .long z14), (26, .long z13), (24, .long z12), (22, .long z11), (20, .long z10), (18, .long z9), (16, .long z8), (14, .long z7), (12, .long z6), (10, .long z5), (8, .long z4), (6, .long z3), (4, .long z2), (2, .long z1), (0, .ref a0), (1, .ref a1)]) hx hb d_F_square_82 hl (by decide) rfl (fun ls hl => ?_)
  refine lv_ldc2 (v := (2)) hx hb hown (hts (.constantLong R_F 49 (2)) (by decide +kernel)) d_F_square_84 ?_
  refine lv_lload hx hb d_F_square_87 (lv_at hl 9 rfl) ?_
  refine lv_lmul hx hb d_F_square_89 ?_
  refine vx_nmL (fun z15 ez15 => ?_)
  refine lv_lstore (lv' := [(30, .long z15), (28, .long z14), (26, .long z13), (24, .long z12), (22, .long z11), (20, .long z10), (18, .long z9), (16, .long z8), (14, .long z7), (12, .long z6), (10, .long z5), (8, .long z4), (6, .long z3), (4, .long z2), (2, .long z1), (0, .ref a0), (1, .ref a1)]) hx hb d_F_square_90 hl (by decide) rfl (fun ls hl => ?_)
  refine lv_ldc2 (v := (2)) hx hb hown (hts (.constantLong R_F 49 (2)) (by decide +kernel)) d_F_square_92 ?_
  refine lv_lload hx hb d_F_square_95 (lv_at hl 9 rfl) ?_
  refine lv_lmul hx hb d_F_square_97 ?_
  refine vx_nmL (fun z16 ez16 => ?_)
  refine lv_lstore (lv' := [(32, .long z16), (30, .long z15), (28, .long z14), (26, .long z13), (24, .long z12), (22, .long z11), (20, .long z10), (18, .long z9), (16, .long z8), (14, .long z7), (12, .long z6), (10, .long z5), (8, .long z4), (6, .long z3), (4, .long z2), (2, .long z1), (0, .ref a0), (1, .ref a1)]) hx hb d_F_square_98 hl (by decide) rfl (fun ls hl => ?_)
  refine lv_ldc2 (v := (2)) hx hb hown (hts (.constantLong R_F 49 (2)) (by decide +kernel)) d_F_square_100 ?_
  refine lv_lload hx hb d_F_square_103 (lv_at hl 9 rfl) ?_
  refine lv_lmul hx hb d_F_square_105 ?_
  refine vx_nmL (fun z17 ez17 => ?_)
  refine lv_lstore (lv' := [(34, .long z17), (32, .long z16), (30, .long z15), (28, .long z14), (26, .long z13), (24, .long z12), (22, .long z11), (20, .long z10), (18, .long z9), (16, .long z8), (14, .long z7), (12, .long z6), (10, .long z5), (8, .long z4), (6, .long z3), (4, .long z2), (2, .long z1), (0, .ref a0), (1, .ref a1)]) hx hb d_F_square_106 hl (by decide) rfl (fun ls hl => ?_)
  refine lv_ldc2 (v := (2)) hx hb hown (hts (.constantLong R_F 49 (2)) (by decide +kernel)) d_F_square_108 ?_
  refine lv_lload hx hb d_F_square_111 (lv_at hl 9 rfl) ?_
  refine lv_lmul hx hb d_F_square_113 ?_
  refine vx_nmL (fun z18 ez18 => ?_)
  refine lv_lstore (lv' := [(36, .long z18), (34, .long z17), (32, .long z16), (30, .long z15), (28, .long z14), (26, .long z13), (24, .long z12), (22, .long z11), (20, .long z10), (18, .long z9), (16, .long z8), (14, .long z7), (12, .long z6), (10, .long z5), (8, .long z4), (6, .long z3), (4, .long z2), (2, .long z1), (0, .ref a0), (1, .ref a1)]) hx hb d_F_square_114 hl (by decide) rfl (fun ls hl => ?_)
  refine lv_ldc2 (v := (2)) hx hb hown (hts (.constantLong R_F 49 (2)) (by decide +kernel)) d_F_square_116 ?_
  refine lv_lload hx hb d_F_square_119 (lv_at hl 9 rfl) ?_
  refine lv_lmul hx hb d_F_square_121 ?_
  refine vx_nmL (fun z19 ez19 => ?_)
  refine lv_lstore (lv' := [(38, .long z19), (36, .long z18), (34, .long z17), (32, .long z16), (30, .long z15), (28, .long z14), (26, .long z13), (24, .long z12), (22, .long z11), (20, .long z10), (18, .long z9), (16, .long z8), (14, .long z7), (12, .long z6), (10, .long z5), (8, .long z4), (6, .long z3), (4, .long z2), (2, .long z1), (0, .ref a0), (1, .ref a1)]) hx hb d_F_square_122 hl (by decide) rfl (fun ls hl => ?_)
  refine lv_ldc2 (v := (2)) hx hb hown (hts (.constantLong R_F 49 (2)) (by decide +kernel)) d_F_square_124 ?_
  refine lv_lload hx hb d_F_square_127 (lv_at hl 9 rfl) ?_
  refine lv_lmul hx hb d_F_square_129 ?_
  refine vx_nmL (fun z20 ez20 => ?_)
  refine lv_lstore (lv' := [(40, .long z20), (38, .long z19), (36, .long z18), (34, .long z17), (32, .long z16), (30, .long z15), (28, .long z14), (26, .long z13), (24, .long z12), (22, .long z11), (20, .long z10), (18, .long z9), (16, .long z8), (14, .long z7), (12, .long z6), (10, .long z5), (8, .long z4), (6, .long z3), (4, .long z2), (2, .long z1), (0, .ref a0), (1, .ref a1)]) hx hb d_F_square_130 hl (by decide) rfl (fun ls hl => ?_)
  refine lv_aload_n hx hb d_F_square_132 rfl (lv_at hl 20 rfl) ?_
  refine lv_iconst (v := nI 0) hx hb d_F_square_133 (by decide +kernel) ?_
  refine lv_lload_n hx hb d_F_square_134 rfl (lv_at hl 19 rfl) ?_
  refine lv_lload_n hx hb d_F_square_135 rfl (lv_at hl 19 rfl) ?_
  refine lv_lmul hx hb d_F_square_136 ?_
  refine lv_ldc2 (v := (19)) hx hb hown (hts (.constantLong R_F 51 (19)) (by decide +kernel)) d_F_square_137 ?_
  refine lv_lload hx hb d_F_square_140 (lv_at hl 8 rfl) ?_
  refine lv_lload hx hb d_F_square_142 (lv_at hl 0 rfl) ?_
  refine lv_lmul hx hb d_F_square_144 ?_
  refine lv_lload hx hb d_F_square_145 (lv_at hl 7 rfl) ?_
  refine lv_lload hx hb d_F_square_147 (lv_at hl 11 rfl) ?_
  refine lv_lmul hx hb d_F_square_149 ?_
  refine lv_ladd hx hb d_F_square_150 ?_
  refine lv_lload hx hb d_F_square_151 (lv_at hl 6 rfl) ?_
  refine lv_lload hx hb d_F_square_153 (lv_at hl 2 rfl) ?_
  refine lv_lmul hx hb d_F_square_155 ?_
  refine lv_ladd hx hb d_F_square_156 ?_
  refine lv_lload hx hb d_F_square_157 (lv_at hl 5 rfl) ?_
  refine lv_lload hx hb d_F_square_159 (lv_at hl 13 rfl) ?_
  refine lv_lmul hx hb d_F_square_161 ?_
  refine lv_ladd hx hb d_F_square_162 ?_
  refine lv_lload hx hb d_F_square_163 (lv_at hl 14 rfl) ?_
  refine lv_lload hx hb d_F_square_165 (lv_at hl 4 rfl) ?_
  refine lv_lmul hx hb d_F_square_167 ?_
  refine lv_ladd hx hb d_F_square_168 ?_
  refine lv_lmul hx hb d_F_square_169 ?_
  refine lv_ladd hx hb d_F_square_170 ?_
  refine vx_last hx hb hG hS hV f0 o0 (by omega) (by decide) d_F_square_171 (fun H locs X21 eX21 hS hV => ?_)
  refine lv_aload_n hx hb d_F_square_172 rfl (lv_at hl 20 rfl) ?_
  refine lv_iconst (v := nI 1) hx hb d_F_square_173 (by decide +kernel) ?_
  refine lv_lload hx hb d_F_square_174 (lv_at hl 9 rfl) ?_
  refine lv_lload hx hb d_F_square_176 (lv_at hl 18 rfl) ?_
  refine lv_lmul hx hb d_F_square_178 ?_
  refine lv_ldc2 (v := (19)) hx hb hown (hts (.constantLong R_F 51 (19)) (by decide +kernel)) d_F_square_179 ?_
  refine lv_lload hx hb d_F_square_182 (lv_at hl 7 rfl) ?_
  refine lv_lload hx hb d_F_square_184 (lv_at hl 10 rfl) ?_
  refine lv_lmul hx hb d_F_square_186 ?_
  refine lv_lload hx hb d_F_square_187 (lv_at hl 6 rfl) ?_
  refine lv_lload hx hb d_F_square_189 (lv_at hl 11 rfl) ?_
  refine lv_lmul hx hb d_F_square_191 ?_
  refine lv_ladd hx hb d_F_square_192 ?_
  refine lv_lload hx hb d_F_square_193 (lv_at hl 5 rfl) ?_
  refine lv_lload hx hb d_F_square_195 (lv_at hl 12 rfl) ?_
  refine lv_lmul hx hb d_F_square_197 ?_
  refine lv_ladd hx hb d_F_square_198 ?_
  refine lv_lload hx hb d_F_square_199 (lv_at hl 4 rfl) ?_
  refine lv_lload hx hb d_F_square_201 (lv_at hl 13 rfl) ?_
  refine lv_lmul hx hb d_F_square_203 ?_
  refine lv_ladd hx hb d_F_square_204 ?_
  refine lv_lmul hx hb d_F_square_205 ?_
  refine lv_ladd hx hb d_F_square_206 ?_
  refine vx_last hx hb hG hS hV f0 o0 (by omega) (by decide) d_F_square_207 (fun H locs X22 eX22 hS hV => ?_)
  refine lv_aload_n hx hb d_F_square_208 rfl (lv_at hl 20 rfl) ?_
  refine lv_iconst (v := nI 2) hx hb d_F_square_209 (by decide +kernel) ?_
  refine lv_lload hx hb d_F_square_210 (lv_at hl 9 rfl) ?_
  refine lv_lload hx hb d_F_square_212 (lv_at hl 17 rfl) ?_
  refine lv_lmul hx hb d_F_square_214 ?_
  refine lv_lload hx hb d_F_square_215 (lv_at hl 8 rfl) ?_
  refine lv_lload hx hb d_F_square_217 (lv_at hl 18 rfl) ?_
  refine lv_lmul hx hb d_F_square_219 ?_
  refine lv_ladd hx hb d_F_square_220 ?_
  refine lv_ldc2 (v := (19)) hx hb hown (hts (.constantLong R_F 51 (19)) (by decide +kernel)) d_F_square_221 ?_
  refine lv_lload hx hb d_F_square_224 (lv_at hl 6 rfl) ?_
  refine lv_lload hx hb d_F_square_226 (lv_at hl 0 rfl) ?_
  refine lv_lmul hx hb d_F_square_228 ?_
  refine lv_lload hx hb d_F_square_229 (lv_at hl 5 rfl) ?_
  refine lv_lload hx hb d_F_square_231 (lv_at hl 11 rfl) ?_
  refine lv_lmul hx hb d_F_square_233 ?_
  refine lv_ladd hx hb d_F_square_234 ?_
  refine lv_lload hx hb d_F_square_235 (lv_at hl 4 rfl) ?_
  refine lv_lload hx hb d_F_square_237 (lv_at hl 2 rfl) ?_
  refine lv_lmul hx hb d_F_square_239 ?_
  refine lv_ladd hx hb d_F_square_240 ?_
  refine lv_lload hx hb d_F_square_241 (lv_at hl 13 rfl) ?_
  refine lv_lload hx hb d_F_square_243 (lv_at hl 13 rfl) ?_
  refine lv_lmul hx hb d_F_square_245 ?_
  refine lv_ladd hx hb d_F_square_246 ?_
  refine lv_lmul hx hb d_F_square_247 ?_
  refine lv_ladd hx hb d_F_square_248 ?_
  refine vx_last hx hb hG hS hV f0 o0 (by omega) (by decide) d_F_square_249 (fun H locs X23 eX23 hS hV => ?_)
  refine lv_aload_n hx hb d_F_square_250 rfl (lv_at hl 20 rfl) ?_
  refine lv_iconst (v := nI 3) hx hb d_F_square_251 (by decide +kernel) ?_
  refine lv_lload hx hb d_F_square_252 (lv_at hl 9 rfl) ?_
  refine lv_lload hx hb d_F_square_254 (lv_at hl 16 rfl) ?_
  refine lv_lmul hx hb d_F_square_256 ?_
  refine lv_lload hx hb d_F_square_257 (lv_at hl 8 rfl) ?_
  refine lv_lload hx hb d_F_square_259 (lv_at hl 17 rfl) ?_
  refine lv_lmul hx hb d_F_square_261 ?_
  refine lv_ladd hx hb d_F_square_262 ?_
  refine lv_ldc2 (v := (19)) hx hb hown (hts (.constantLong R_F 51 (19)) (by decide +kernel)) d_F_square_263 ?_
  refine lv_lload hx hb d_F_square_266 (lv_at hl 5 rfl) ?_
  refine lv_lload hx hb d_F_square_268 (lv_at hl 10 rfl) ?_
  refine lv_lmul hx hb d_F_square_270 ?_
  refine lv_lload hx hb d_F_square_271 (lv_at hl 4 rfl) ?_
  refine lv_lload hx hb d_F_square_273 (lv_at hl 11 rfl) ?_
  refine lv_lmul hx hb d_F_square_275 ?_
  refine lv_ladd hx hb d_F_square_276 ?_
  refine lv_lload hx hb d_F_square_277 (lv_at hl 3 rfl) ?_
  refine lv_lload hx hb d_F_square_279 (lv_at hl 12 rfl) ?_
  refine lv_lmul hx hb d_F_square_281 ?_
  refine lv_ladd hx hb d_F_square_282 ?_
  refine lv_lmul hx hb d_F_square_283 ?_
  refine lv_ladd hx hb d_F_square_284 ?_
  refine vx_last hx hb hG hS hV f0 o0 (by omega) (by decide) d_F_square_285 (fun H locs X24 eX24 hS hV => ?_)
  refine lv_aload_n hx hb d_F_square_286 rfl (lv_at hl 20 rfl) ?_
  refine lv_iconst (v := nI 4) hx hb d_F_square_287 (by decide +kernel) ?_
  refine lv_lload hx hb d_F_square_288 (lv_at hl 9 rfl) ?_
  refine lv_lload hx hb d_F_square_290 (lv_at hl 15 rfl) ?_
  refine lv_lmul hx hb d_F_square_292 ?_
  refine lv_lload hx hb d_F_square_293 (lv_at hl 8 rfl) ?_
  refine lv_lload hx hb d_F_square_295 (lv_at hl 6 rfl) ?_
  refine lv_lmul hx hb d_F_square_297 ?_
  refine lv_ladd hx hb d_F_square_298 ?_
  refine lv_lload hx hb d_F_square_299 (lv_at hl 17 rfl) ?_
  refine lv_lload hx hb d_F_square_301 (lv_at hl 17 rfl) ?_
  refine lv_lmul hx hb d_F_square_303 ?_
  refine lv_ladd hx hb d_F_square_304 ?_
  refine lv_ldc2 (v := (19)) hx hb hown (hts (.constantLong R_F 51 (19)) (by decide +kernel)) d_F_square_305 ?_
  refine lv_lload hx hb d_F_square_308 (lv_at hl 4 rfl) ?_
  refine lv_lload hx hb d_F_square_310 (lv_at hl 0 rfl) ?_
  refine lv_lmul hx hb d_F_square_312 ?_
  refine lv_lload hx hb d_F_square_313 (lv_at hl 3 rfl) ?_
  refine lv_lload hx hb d_F_square_315 (lv_at hl 11 rfl) ?_
  refine lv_lmul hx hb d_F_square_317 ?_
  refine lv_ladd hx hb d_F_square_318 ?_
  refine lv_lload hx hb d_F_square_319 (lv_at hl 12 rfl) ?_
  refine lv_lload hx hb d_F_square_321 (lv_at hl 2 rfl) ?_
  refine lv_lmul hx hb d_F_square_323 ?_
  refine lv_ladd hx hb d_F_square_324 ?_
  refine lv_lmul hx hb d_F_square_325 ?_
  refine lv_ladd hx hb d_F_square_326 ?_
  refine vx_last hx hb hG hS hV f0 o0 (by omega) (by decide) d_F_square_327 (fun H locs X25 eX25 hS hV => ?_)
  refine lv_aload_n hx hb d_F_square_328 rfl (lv_at hl 20 rfl) ?_
  refine lv_iconst (v := nI 5) hx hb d_F_square_329 (by decide +kernel) ?_
  refine lv_lload hx hb d_F_square_330 (lv_at hl 9 rfl) ?_
  refine lv_lload hx hb d_F_square_332 (lv_at hl 14 rfl) ?_
  refine lv_lmul hx hb d_F_square_334 ?_
  refine lv_lload hx hb d_F_square_335 (lv_at hl 8 rfl) ?_
  refine lv_lload hx hb d_F_square_337 (lv_at hl 15 rfl) ?_
  refine lv_lmul hx hb d_F_square_339 ?_
  refine lv_ladd hx hb d_F_square_340 ?_
  refine lv_lload hx hb d_F_square_341 (lv_at hl 7 rfl) ?_
  refine lv_lload hx hb d_F_square_343 (lv_at hl 16 rfl) ?_
  refine lv_lmul hx hb d_F_square_345 ?_
  refine lv_ladd hx hb d_F_square_346 ?_
  refine lv_ldc2 (v := (19)) hx hb hown (hts (.constantLong R_F 51 (19)) (by decide +kernel)) d_F_square_347 ?_
  refine lv_lload hx hb d_F_square_350 (lv_at hl 3 rfl) ?_
  refine lv_lload hx hb d_F_square_352 (lv_at hl 10 rfl) ?_
  refine lv_lmul hx hb d_F_square_354 ?_
  refine lv_lload hx hb d_F_square_355 (lv_at hl 2 rfl) ?_
  refine lv_lload hx hb d_F_square_357 (lv_at hl 11 rfl) ?_
  refine lv_lmul hx hb d_F_square_359 ?_
  refine lv_ladd hx hb d_F_square_360 ?_
  refine lv_lmul hx hb d_F_square_361 ?_
  refine lv_ladd hx hb d_F_square_362 ?_
  refine vx_last hx hb hG hS hV f0 o0 (by omega) (by decide) d_F_square_363 (fun H locs X26 eX26 hS hV => ?_)
  refine lv_aload_n hx hb d_F_square_364 rfl (lv_at hl 20 rfl) ?_
  refine lv_bipush (v := nI 6) hx hb d_F_square_365 (by decide +kernel) ?_
  refine lv_lload hx hb d_F_square_367 (lv_at hl 9 rfl) ?_
  refine lv_lload hx hb d_F_square_369 (lv_at hl 13 rfl) ?_
  refine lv_lmul hx hb d_F_square_371 ?_
  refine lv_lload hx hb d_F_square_372 (lv_at hl 8 rfl) ?_
  refine lv_lload hx hb d_F_square_374 (lv_at hl 4 rfl) ?_
  refine lv_lmul hx hb d_F_square_376 ?_
  refine lv_ladd hx hb d_F_square_377 ?_
  refine lv_lload hx hb d_F_square_378 (lv_at hl 7 rfl) ?_
  refine lv_lload hx hb d_F_square_380 (lv_at hl 15 rfl) ?_
  refine lv_lmul hx hb d_F_square_382 ?_
  refine lv_ladd hx hb d_F_square_383 ?_
  refine lv_lload hx hb d_F_square_384 (lv_at hl 6 rfl) ?_
  refine lv_lload hx hb d_F_square_386 (lv_at hl 16 rfl) ?_
  refine lv_lmul hx hb d_F_square_388 ?_
  refine lv_ladd hx hb d_F_square_389 ?_
  refine lv_ldc2 (v := (19)) hx hb hown (hts (.constantLong R_F 51 (19)) (by decide +kernel)) d_F_square_390 ?_
  refine lv_lload hx hb d_F_square_393 (lv_at hl 2 rfl) ?_
  refine lv_lload hx hb d_F_square_395 (lv_at hl 0 rfl) ?_
  refine lv_lmul hx hb d_F_square_397 ?_
  refine lv_lload hx hb d_F_square_398 (lv_at hl 11 rfl) ?_
  refine lv_lload hx hb d_F_square_400 (lv_at hl 11 rfl) ?_
  refine lv_lmul hx hb d_F_square_402 ?_
  refine lv_ladd hx hb d_F_square_403 ?_
  refine lv_lmul hx hb d_F_square_404 ?_
  refine lv_ladd hx hb d_F_square_405 ?_
  refine vx_last hx hb hG hS hV f0 o0 (by omega) (by decide) d_F_square_406 (fun H locs X27 eX27 hS hV => ?_)
  refine lv_aload_n hx hb d_F_square_407 rfl (lv_at hl 20 rfl) ?_
  refine lv_bipush (v := nI 7) hx hb d_F_square_408 (by decide +kernel) ?_
  refine lv_lload hx hb d_F_square_410 (lv_at hl 9 rfl) ?_
  refine lv_lload hx hb d_F_square_412 (lv_at hl 12 rfl) ?_
  refine lv_lmul hx hb d_F_square_414 ?_
  refine lv_lload hx hb d_F_square_415 (lv_at hl 8 rfl) ?_
  refine lv_lload hx hb d_F_square_417 (lv_at hl 13 rfl) ?_
  refine lv_lmul hx hb d_F_square_419 ?_
  refine lv_ladd hx hb d_F_square_420 ?_
  refine lv_lload hx hb d_F_square_421 (lv_at hl 7 rfl) ?_
  refine lv_lload hx hb d_F_square_423 (lv_at hl 14 rfl) ?_
  refine lv_lmul hx hb d_F_square_425 ?_
  refine lv_ladd hx hb d_F_square_426 ?_
  refine lv_lload hx hb d_F_square_427 (lv_at hl 6 rfl) ?_
  refine lv_lload hx hb d_F_square_429 (lv_at hl 15 rfl) ?_
  refine lv_lmul hx hb d_F_square_431 ?_
  refine lv_ladd hx hb d_F_square_432 ?_
  refine lv_ldc2 (v := (19)) hx hb hown (hts (.constantLong R_F 51 (19)) (by decide +kernel)) d_F_square_433 ?_
  refine lv_lload hx hb d_F_square_436 (lv_at hl 1 rfl) ?_
  refine lv_lload hx hb d_F_square_438 (lv_at hl 10 rfl) ?_
  refine lv_lmul hx hb d_F_square_440 ?_
  refine lv_lmul hx hb d_F_square_441 ?_
  refine lv_ladd hx hb d_F_square_442 ?_
  refine vx_last hx hb hG hS hV f0 o0 (by omega) (by decide) d_F_square_443 (fun H locs X28 eX28 hS hV => ?_)
  refine lv_aload_n hx hb d_F_square_444 rfl (lv_at hl 20 rfl) ?_
  refine lv_bipush (v := nI 8) hx hb d_F_square_445 (by decide +kernel) ?_
  refine lv_lload hx hb d_F_square_447 (lv_at hl 9 rfl) ?_
  refine lv_lload hx hb d_F_square_449 (lv_at hl 11 rfl) ?_
  refine lv_lmul hx hb d_F_square_451 ?_
  refine lv_lload hx hb d_F_square_452 (lv_at hl 8 rfl) ?_
  refine lv_lload hx hb d_F_square_454 (lv_at hl 2 rfl) ?_
  refine lv_lmul hx hb d_F_square_456 ?_
  refine lv_ladd hx hb d_F_square_457 ?_
  refine lv_lload hx hb d_F_square_458 (lv_at hl 7 rfl) ?_
  refine lv_lload hx hb d_F_square_460 (lv_at hl 13 rfl) ?_
  refine lv_lmul hx hb d_F_square_462 ?_
  refine lv_ladd hx hb d_F_square_463 ?_
  refine lv_lload hx hb d_F_square_464 (lv_at hl 6 rfl) ?_
  refine lv_lload hx hb d_F_square_466 (lv_at hl 4 rfl) ?_
  refine lv_lmul hx hb d_F_square_468 ?_
  refine lv_ladd hx hb d_F_square_469 ?_
  refine lv_lload hx hb d_F_square_470 (lv_at hl 15 rfl) ?_
  refine lv_lload hx hb d_F_square_472 (lv_at hl 15 rfl) ?_
  refine lv_lmul hx hb d_F_square_474 ?_
  refine lv_ladd hx hb d_F_square_475 ?_
  refine lv_ldc2 (v := (19)) hx hb hown (hts (.constantLong R_F 51 (19)) (by decide +kernel)) d_F_square_476 ?_
  refine lv_lload hx hb d_F_square_479 (lv_at hl 10 rfl) ?_
  refine lv_lload hx hb d_F_square_481 (lv_at hl 0 rfl) ?_
  refine lv_lmul hx hb d_F_square_483 ?_
  refine lv_lmul hx hb d_F_square_484 ?_
  refine lv_ladd hx hb d_F_square_485 ?_
  refine vx_last hx hb hG hS hV f0 o0 (by omega) (by decide) d_F_square_486 (fun H locs X29 eX29 hS hV => ?_)
  refine lv_aload_n hx hb d_F_square_487 rfl (lv_at hl 20 rfl) ?_
  refine lv_bipush (v := nI 9) hx hb d_F_square_488 (by decide +kernel) ?_
  refine lv_lload hx hb d_F_square_490 (lv_at hl 9 rfl) ?_
  refine lv_lload hx hb d_F_square_492 (lv_at hl 10 rfl) ?_
  refine lv_lmul hx hb d_F_square_494 ?_
  refine lv_lload hx hb d_F_square_495 (lv_at hl 8 rfl) ?_
  refine lv_lload hx hb d_F_square_497 (lv_at hl 11 rfl) ?_
  refine lv_lmul hx hb d_F_square_499 ?_
  refine lv_ladd hx hb d_F_square_500 ?_
  refine lv_lload hx hb d_F_square_501 (lv_at hl 7 rfl) ?_
  refine lv_lload hx hb d_F_square_503 (lv_at hl 12 rfl) ?_
  refine lv_lmul hx hb d_F_square_505 ?_
  refine lv_ladd hx hb d_F_square_506 ?_
  refine lv_lload hx hb d_F_square_507 (lv_at hl 6 rfl) ?_
  refine lv_lload hx hb d_F_square_509 (lv_at hl 13 rfl) ?_
  refine lv_lmul hx hb d_F_square_511 ?_
  refine lv_ladd hx hb d_F_square_512 ?_
  refine lv_lload hx hb d_F_square_513 (lv_at hl 5 rfl) ?_
  refine lv_lload hx hb d_F_square_515 (lv_at hl 14 rfl) ?_
  refine lv_lmul hx hb d_F_square_517 ?_
  refine lv_ladd hx hb d_F_square_518 ?_
  refine vx_last hx hb hG hS hV f0 o0 (by omega) (by decide) d_F_square_519 (fun H locs X30 eX30 hS hV => ?_)
  refine lv_aload_n hx hb d_F_square_520 rfl (lv_at hl 20 rfl) ?_
  refine vx_gv (sx_runS (As := [.ref a0]) (rest := []) EE (v_F_carry (X := X30) (hS.a f0) o0 hV) w_F_45 rfl ⟨rfl, rfl⟩ ⟨Nat.le_of_ble_eq_true rfl, Nat.le_of_ble_eq_true rfl⟩ ⟨Nat.zero_le _, Nat.zero_le _⟩ hl.1 rfl (Nat.le_of_ble_eq_true rfl) d_F_square_521) hS (fun H locs X31 eX31 hS hV => ?_)
  exact hret _ _ _ _ _ (by subst ez1 ez2 ez3 ez4 ez5 ez6 ez7 ez8 ez9 ez10 ez11 ez12 ez13 ez14 ez15 ez16 ez17 ez18 ez19 ez20 eX21 eX22 eX23 eX24 eX25 eX26 eX27 eX28 eX29 eX30 eX31; exact rfl) hS hV d_F_square_524
