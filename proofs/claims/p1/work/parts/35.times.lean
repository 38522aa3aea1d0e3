abbrev rm_F_times : Room := { frames := 1, cells := 0, slots := 0, locals := 27 }
set_option maxHeartbeats 4000000 in
set_option maxRecDepth 100000 in
theorem c_F_times {l : Launch} {D : va_G} {g : ClassId → FieldType → Prop} {E : Nat → Prop} {H0 : Heap} {a0 : Nat} {a1 : Nat} {a2 : Nat} (f0 : sx_A g .long H0 a0 10) (o0 : E a0) (f1 : sx_A g .long H0 a1 10) (f2 : sx_A g .long H0 a2 10) : Met l y_F_times (.code y_F_times b_F_times 53 none :: G_) rm_F_times (sx_Pc [.ref a0, .ref a1, .ref a2] H0 D g) (sx_Qv g E H0) 0 0 E := by
  refine sx_mv (own := R_F) (by decide) rfl rfl rfl (Nat.le_of_ble_eq_true rfl) ?_
  intro p e s m args below meth c Q ls EE hl hret
  obtain ⟨hx, hb, hml, hown, hts, hG, hK⟩ := id EE
  have hS : sx_S g E E H0 H0 [] := sx_S.rf
  have hl : lv_has ls 53 [(0, .ref a0), (1, .ref a1), (2, .ref a2)] := hl
  refine lv_aload_n hx hb d_F_times_0 rfl (lv_at hl 1 rfl) ?_
  refine lv_iconst (v := nI 0) hx hb d_F_times_1 (by decide +kernel) ?_
  refine sx_lald hx hb hG hS f1 (sx_in (by omega) (by decide)) d_F_times_2 (fun z1 => ?_)
  refine lv_lstore_n (lv' := [(3, .long z1), (0, .ref a0), (1, .ref a1), (2, .ref a2)]) hx hb d_F_times_3 rfl hl (by decide) rfl (fun ls hl => ?_)
  refine lv_aload_n hx hb d_F_times_4 rfl (lv_at hl 2 rfl) ?_
  refine lv_iconst (v := nI 1) hx hb d_F_times_5 (by decide +kernel) ?_
  refine sx_lald hx hb hG hS f1 (sx_in (by omega) (by decide)) d_F_times_6 (fun z2 => ?_)
  refine lv_lstore (lv' := [(5, .long z2), (3, .long z1), (0, .ref a0), (1, .ref a1), (2, .ref a2)]) hx hb d_F_times_7 hl (by decide) rfl (fun ls hl => ?_)
  refine lv_aload_n hx hb d_F_times_9 rfl (lv_at hl 3 rfl) ?_
  refine lv_iconst (v := nI 2) hx hb d_F_times_10 (by decide +kernel) ?_
  refine sx_lald hx hb hG hS f1 (sx_in (by omega) (by decide)) d_F_times_11 (fun z3 => ?_)
  refine lv_lstore (lv' := [(7, .long z3), (5, .long z2), (3, .long z1), (0, .ref a0), (1, .ref a1), (2, .ref a2)]) hx hb d_F_times_12 hl (by decide) rfl (fun ls hl => ?_)
  refine lv_aload_n hx hb d_F_times_14 rfl (lv_at hl 4 rfl) ?_
  refine lv_iconst (v := nI 3) hx hb d_F_times_15 (by decide +kernel) ?_
  refine sx_lald hx hb hG hS f1 (sx_in (by omega) (by decide)) d_F_times_16 (fun z4 => ?_)
  refine lv_lstore (lv' := [(9, .long z4), (7, .long z3), (5, .long z2), (3, .long z1), (0, .ref a0), (1, .ref a1), (2, .ref a2)]) hx hb d_F_times_17 hl (by decide) rfl (fun ls hl => ?_)
  refine lv_aload_n hx hb d_F_times_19 rfl (lv_at hl 5 rfl) ?_
  refine lv_iconst (v := nI 4) hx hb d_F_times_20 (by decide +kernel) ?_
  refine sx_lald hx hb hG hS f1 (sx_in (by omega) (by decide)) d_F_times_21 (fun z5 => ?_)
  refine lv_lstore (lv' := [(11, .long z5), (9, .long z4), (7, .long z3), (5, .long z2), (3, .long z1), (0, .ref a0), (1, .ref a1), (2, .ref a2)]) hx hb d_F_times_22 hl (by decide) rfl (fun ls hl => ?_)
  refine lv_aload_n hx hb d_F_times_24 rfl (lv_at hl 6 rfl) ?_
  refine lv_iconst (v := nI 5) hx hb d_F_times_25 (by decide +kernel) ?_
  refine sx_lald hx hb hG hS f1 (sx_in (by omega) (by decide)) d_F_times_26 (fun z6 => ?_)
  refine lv_lstore (lv' := [(13, .long z6), (11, .long z5), (9, .long z4), (7, .long z3), (5, .long z2), (3, .long z1), (0, .ref a0), (1, .ref a1), (2, .ref a2)]) hx hb d_F_times_27 hl (by decide) rfl (fun ls hl => ?_)
  refine lv_aload_n hx hb d_F_times_29 rfl (lv_at hl 7 rfl) ?_
  refine lv_bipush (v := nI 6) hx hb d_F_times_30 (by decide +kernel) ?_
  refine sx_lald hx hb hG hS f1 (sx_in (by omega) (by decide)) d_F_times_32 (fun z7 => ?_)
  refine lv_lstore (lv' := [(15, .long z7), (13, .long z6), (11, .long z5), (9, .long z4), (7, .long z3), (5, .long z2), (3, .long z1), (0, .ref a0), (1, .ref a1), (2, .ref a2)]) hx hb d_F_times_33 hl (by decide) rfl (fun ls hl => ?_)
  refine lv_aload_n hx hb d_F_times_35 rfl (lv_at hl 8 rfl) ?_
  refine lv_bipush (v := nI 7) hx hb d_F_times_36 (by decide +kernel) ?_
  refine sx_lald hx hb hG hS f1 (sx_in (by omega) (by decide)) d_F_times_38 (fun z8 => ?_)
  refine lv_lstore (lv' := [(17, .long z8), (15, .long z7), (13, .long z6), (11, .long z5), (9, .long z4), (7, .long z3), (5, .long z2), (3, .long z1), (0, .ref a0), (1, .ref a1), (2, .ref a2)]) hx hb d_F_times_39 hl (by decide) rfl (fun ls hl => ?_)
  refine lv_aload_n hx hb d_F_times_41 rfl (lv_at hl 9 rfl) ?_
  refine lv_bipush (v := nI 8) hx hb d_F_times_42 (by decide +kernel) ?_
  refine sx_lald hx hb hG hS f1 (sx_in (by omega) (by decide)) d_F_times_44 (fun z9 => ?_)
  refine lv_lstore (lv' := [(19, .long z9), (17, .long z8), (15, .long z7), (13, .long z6), (11, .long z5), (9, .long z4), (7, .long z3), (5, .long z2), (3, .long z1), (0, .ref a0), (1, .ref a1), (2, .ref a2)]) hx hb d_F_times_45 hl (by decide) rfl (fun ls hl => ?_)
  refine lv_aload_n hx hb d_F_times_47 rfl (lv_at hl 10 rfl) ?_
  refine lv_bipush (v := nI 9) hx hb d_F_times_48 (by decide +kernel) ?_
  refine sx_lald hx hb hG hS f1 (sx_in (by omega) (by decide)) d_F_times_50 (fun z10 => ?_)
  refine lv_lstore (lv' := [(21, .long z10), (19, .long z9), (17, .long z8), (15, .long z7), (13, .long z6), (11, .long z5), (9, .long z4), (7, .long z3), (5, .long z2), (3, .long z1), (0, .ref a0), (1, .ref a1), (2, .ref a2)]) hx hb d_F_times_51 hl (by decide) rfl (fun ls hl => ?_)
  refine lv_aload_n hx hb d_F_times_53 rfl (lv_at hl 12 rfl) ?_
  refine lv_iconst (v := nI 0) hx hb d_F_times_54 (by decide +kernel) ?_
  refine sx_lald hx hb hG hS f2 (sx_in (by omega) (by decide)) d_F_times_55 (fun z11 => ?_)
  refine lv_lstore (lv' := [(23, .long z11), (21, .long z10), (19, .long z9), (17, .long z8), (15, .long z7), (13, .long z6), (11, .long z5), (9, .long z4), (7, .long z3), (5, .long z2), (3, .long z1), (0, .ref a0), (1, .ref a1), (2, .ref a2)]) hx hb d_F_times_56 hl (by decide) rfl (fun ls hl => ?_)
  refine lv_aload_n hx hb d_F_times_58 rfl (lv_at hl 13 rfl) ?_
  refine lv_iconst (v := nI 1) hx hb d_F_times_59 (by decide +kernel) ?_
  refine sx_lald hx hb hG hS f2 (sx_in (by omega) (by decide)) d_F_times_60 (fun z12 => ?_)
  refine lv_lstore (lv' := [(25, .long z12), (23, .long z11), (21, .long z10), (19, .long z9), (17, .long z8), (15, .long z7), (13, .long z6), (11, .long z5), (9, .long z4), (7, .long z3), (5, .long z2), (3, .long z1), (0, .ref a0), (1, .ref a1), (2, .ref a2)]) hx hb d_F_times_61 hl (by decide) rfl (fun ls hl => ?_)
  refine lv_aload_n hx hb d_F_times_63 rfl (lv_at hl 14 rfl) ?_
  refine lv_iconst (v := nI 2) hx hb d_F_times_64 (by decide +kernel) ?_
  refine sx_lald hx hb hG hS f2 (sx_in (by omega) (by decide)) d_F_times_65 (fun z13 => ?_)
  refine lv_lstore (lv' := [(27, .long z13), (25, .long z12), (23, .long z11), (21, .long z10), (19, .long z9), (17, .long z8), (15, .long z7), (13, .long z6), (11, .long z5), (9, .long z4), (7, .long z3), (5, .long z2), (3, .long z1), (0, .ref a0), (1, .ref a1), (2, .ref a2)]) hx hb d_F_times_66 hl (by decide) rfl (fun ls hl => ?_)
  refine lv_aload_n hx hb d_F_times_68 rfl (lv_at hl 15 rfl) ?_
  refine lv_iconst (v := nI 3) hx hb d_F_times_69 (by decide +kernel) ?_
  refine sx_lald hx hb hG hS f2 (sx_in (by omega) (by decide)) d_F_times_70 (fun z14 => ?_)
  refine lv_lstore (lv' := [(29, .long z14), (27, .long z13), (25, .long z12), (23, .long z11), (21, .long z10), (19, .long z9), (17, .long z8), (15, .long z7), (13, .long z6), (11, .long z5), (9, .long z4), (7, .long z3), (5, .long z2), (3, .long z1), (0, .ref a0), (1, .ref a1), (2, .ref a2)]) hx hb d_F_times_71 hl (by decide) rfl (fun ls hl => ?_)
  refine lv_aload_n hx hb d_F_times_73 rfl (lv_at hl 16 rfl) ?_
  refine lv_iconst (v := nI 4) hx hb d_F_times_74 (by decide +kernel) ?_
  refine sx_lald hx hb hG hS f2 (sx_in (by omega) (by decide)) d_F_times_75 (fun z15 => ?_)
  refine lv_lstore (lv' := [(31, .long z15), (29, .long z14), (27, .long z13), (25, .long z12), (23, .long z11), (21, .long z10), (19, .long z9), (17, .long z8), (15, .long z7), (13, .long z6), (11, .long z5), (9, .long z4), (7, .long z3), (5, .long z2), (3, .long z1), (0, .ref a0), (1, .ref a1), (2, .ref a2)]) hx hb d_F_times_76 hl (by decide) rfl (fun ls hl => ?_)
  refine lv_aload_n hx hb d_F_times_78 rfl (lv_at hl 17 rfl) ?_
  refine lv_iconst (v := nI 5) hx hb d_F_times_79 (by decide +kernel) ?_
  refine sx_lald hx hb hG hS f2 (sx_in (by omega) (by decide)) d_F_times_80 (fun z16 => ?_)
  refine lv_lstore (lv' := [(33, .long z16), (31, .long z15), (29, .long z14), (27, .long z13), (25, .long z12), (23, .long z11), (21, .long z10), (19, .long z9), (17, .long z8), (15, .long z7), (13, .long z6), (11, .long z5), (9, .long z4), (7, .long z3), (5, .long z2), (3, .long z1), (0, .ref a0), (1, .ref a1), (2, .ref a2)]) hx hb d_F_times_81 hl (by decide) rfl (fun ls hl => ?_)
  refine lv_aload_n hx hb d_F_times_83 rfl (lv_at hl 18 rfl) ?_
  refine lv_bipush (v := nI 6) hx hb d_F_times_84 (by decide +kernel) ?_
  refine sx_lald hx hb hG hS f2 (sx_in (by omega) (by decide)) d_F_times_86 (fun z17 => ?_)
  refine lv_lstore (lv' := [(35, .long z17), (33, .long z16), (31, .long z15), (29, .long z14), (27, .long z13), (25, .long z12), (23, .long z11), (21, .long z10), (19, .long z9), (17, .long z8), (15, .long z7), (13, .long z6), (11, .long z5), (9, .long z4), (7, .long z3), (5, .long z2), (3, .long z1), (0, .ref a0), (1, .ref a1), (2, .ref a2)]) hx hb d_F_times_87 hl (by decide) rfl (fun ls hl => ?_)
  refine lv_aload_n hx hb d_F_times_89 rfl (lv_at hl 19 rfl) ?_
  refine lv_bipush (v := nI 7) hx hb d_F_times_90 (by decide +kernel) ?_
  refine sx_lald hx hb hG hS f2 (sx_in (by omega) (by decide)) d_F_times_92 (fun z18 => ?_)
  refine lv_lstore (lv' := [(37, .long z18), (35, .long z17), (33, .long z16), (31, .long z15), (29, .long z14), (27, .long z13), (25, .long z12), (23, .long z11), (21, .long z10), (19, .long z9), (17, .long z8), (15, .long z7), (13, .long z6), (11, .long z5), (9, .long z4), (7, .long z3), (5, .long z2), (3, .long z1), (0, .ref a0), (1, .ref a1), (2, .ref a2)]) hx hb d_F_times_93 hl (by decide) rfl (fun ls hl => ?_)
  refine lv_aload_n hx hb d_F_times_95 rfl (lv_at hl 20 rfl) ?_
  refine lv_bipush (v := nI 8) hx hb d_F_times_96 (by decide +kernel) ?_
  refine sx_lald hx hb hG hS f2 (sx_in (by omega) (by decide)) d_F_times_98 (fun z19 => ?_)
  refine lv_lstore (lv' := [(39, .long z19), (37, .long z18), (35, .long z17), (33, .long z16), (31, .long z15), (29, .long z14), (27, .long z13), (25, .long z12), (23, .long z11), (21, .long z10), (19, .long z9), (17, .long z8), (15, .long z7), (13, .long z6), (11, .long z5), (9, .long z4), (7, .long z3), (5, .long z2), (3, .long z1), (0, .ref a0), (1, .ref a1), (2, .ref a2)]) hx hb d_F_times_99 hl (by decide) rfl (fun ls hl => ?_)
  refine lv_aload_n hx hb d_F_times_101 rfl (lv_at hl 21 rfl) ?_
  refine lv_bipush (v := nI 9) hx hb d_F_times_102 (by decide +kernel) ?_
  refine sx_lald hx hb hG hS f2 (sx_in (by omega) (by decide)) d_F_times_104 (fun z20 => ?_)
  refine lv_lstore (lv' := [(41, .long z20), (39, .long z19), (37, .long z18), (35, .long z17), (33, .long z16), (31, .long z15), (29, .long z14), (27, .long z13), (25, .long z12), (23, .long z11), (21, .long z10), (19, .long z9), (17, .long z8), (15, .long z7), (13, .long z6), (11, .long z5), (9, .long z4), (7, .long z3), (5, .long z2), (3, .long z1), (0, .ref a0), (1, .ref a1), (2, .ref a2)]) hx hb d_F_times_105 hl (by decide) rfl (fun ls hl => ?_)
  refine lv_ldc2 (v := (2)) hx hb hown (hts (.constantLong R_F 49 (2)) (by decide +kernel)) d_F_times_107 ?_
  refine lv_lload hx hb d_F_times_110 (lv_at hl 18 rfl) ?_
  refine sx_lmul hx hb d_F_times_112 (fun z21 => ?_)
  refine lv_lstore (lv' := [(43, .long z21), (41, .long z20), (39, .long z19), (37, .long z18), (35, .long z17), (33, .long z16), (31, .long z15), (29, .long z14), (27, .long z13), (25, .long z12), (23, .long z11), (21, .long z10), (19, .long z9), (17, .long z8), (15, .long z7), (13, .long z6), (11, .long z5), (9, .long z4), (7, .long z3), (5, .long z2), (3, .long z1), (0, .ref a0), (1, .ref a1), (2, .ref a2)]) hx hb d_F_times_113 hl (by decide) rfl (fun ls hl => ?_)
  refine lv_ldc2 (v := (2)) hx hb hown (hts (.constantLong R_F 49 (2)) (by decide +kernel)) d_F_times_115 ?_
  refine lv_lload hx hb d_F_times_118 (lv_at hl 17 rfl) ?_
  refine sx_lmul hx hb d_F_times_120 (fun z22 => ?_)
  refine lv_lstore (lv' := [(45, .long z22), (43, .long z21), (41, .long z20), (39, .long z19), (37, .long z18), (35, .long z17), (33, .long z16), (31, .long z15), (29, .long z14), (27, .long z13), (25, .long z12), (23, .long z11), (21, .long z10), (19, .long z9), (17, .long z8), (15, .long z7), (13, .long z6), (11, .long z5), (9, .long z4), (7, .long z3), (5, .long z2), (3, .long z1), (0, .ref a0), (1, .ref a1), (2, .ref a2)]) hx hb d_F_times_121 hl (by decide) rfl (fun ls hl => ?_)
  refine lv_ldc2 (v := (2)) hx hb hown (hts (.constantLong R_F 49 (2)) (by decide +kernel)) d_F_times_123 ?_
  refine lv_lload hx hb d_F_times_126 (lv_at hl 16 rfl) ?_
  refine sx_lmul hx hb d_F_times_128 (fun z23 => ?_)
  refine lv_lstore (lv' := [(47, .long z23), (45, .long z22), (43, .long z21), (41, .long z20), (39, .long z19), (37, .long z18), (35, .long z17), (33, .long z16), (31, .long z15), (29, .long z14), (27, .long z13), (25, .long z12), (23, .long z11), (21, .long z10), (19, .long z9), (17, .long z8), (15, .long z7), (13, .long z6), (11, .long z5), (9, .long z4), (7, .long z3), (5, .long z2), (3, .long z1), (0, .ref a0), (1, .ref a1), (2, .ref a2)]) hx hb d_F_times_129 hl (by decide) rfl (fun ls hl => ?_)
  refine lv_ldc2 (v := (2)) hx hb hown (hts (.constantLong R_F 49 (2)) (by decide +kernel)) d_F_times_131 ?_
  refine lv_lload hx hb d_F_times_134 (lv_at hl 15 rfl) ?_
  refine sx_lmul hx hb d_F_times_136 (fun z24 => ?_)
  refine lv_lstore (lv' := [(49, .long z24), (47, .long z23), (45, .long z22), (43, .long z21), (41, .long z20), (39, .long z19), (37, .long z18), (35, .long z17), (33, .long z16), (31, .long z15), (29, .long z14), (27, .long z13), (25, .long z12), (23, .long z11), (21, .long z10), (19, .long z9), (17, .long z8), (15, .long z7), (13, .long z6), (11, .long z5), (9, .long z4), (7, .long z3), (5, .long z2), (3, .long z1), (0, .ref a0), (1, .ref a1), (2, .ref a2)]) hx hb d_F_times_137 hl (by decide) rfl (fun ls hl => ?_)
  refine lv_ldc2 (v := (2)) hx hb hown (hts (.constantLong R_F 49 (2)) (by decide +kernel)) d_F_times_139 ?_
  refine lv_lload hx hb d_F_times_142 (lv_at hl 14 rfl) ?_
  refine sx_lmul hx hb d_F_times_144 (fun z25 => ?_)
  refine lv_lstore (lv' := [(51, .long z25), (49, .long z24), (47, .long z23), (45, .long z22), (43, .long z21), (41, .long z20), (39, .long z19), (37, .long z18), (35, .long z17), (33, .long z16), (31, .long z15), (29, .long z14), (27, .long z13), (25, .long z12), (23, .long z11), (21, .long z10), (19, .long z9), (17, .long z8), (15, .long z7), (13, .long z6), (11, .long z5), (9, .long z4), (7, .long z3), (5, .long z2), (3, .long z1), (0, .ref a0), (1, .ref a1), (2, .ref a2)]) hx hb d_F_times_145 hl (by decide) rfl (fun ls hl => ?_)
  refine lv_aload_n hx hb d_F_times_147 rfl (lv_at hl 25 rfl) ?_
  refine lv_iconst (v := nI 0) hx hb d_F_times_148 (by decide +kernel) ?_
  refine lv_lload_n hx hb d_F_times_149 rfl (lv_at hl 24 rfl) ?_
  refine lv_lload hx hb d_F_times_150 (lv_at hl 14 rfl) ?_
  refine sx_lmul hx hb d_F_times_152 (fun z26 => ?_)
  refine lv_ldc2 (v := (19)) hx hb hown (hts (.constantLong R_F 51 (19)) (by decide +kernel)) d_F_times_153 ?_
  refine lv_lload hx hb d_F_times_156 (lv_at hl 4 rfl) ?_
  refine lv_lload hx hb d_F_times_158 (lv_at hl 5 rfl) ?_
  refine sx_lmul hx hb d_F_times_160 (fun z27 => ?_)
  refine lv_lload hx hb d_F_times_161 (lv_at hl 22 rfl) ?_
  refine lv_lload hx hb d_F_times_163 (lv_at hl 6 rfl) ?_
  refine sx_lmul hx hb d_F_times_165 (fun z28 => ?_)
  refine sx_ladd hx hb d_F_times_166 (fun z29 => ?_)
  refine lv_lload hx hb d_F_times_167 (lv_at hl 3 rfl) ?_
  refine lv_lload hx hb d_F_times_169 (lv_at hl 7 rfl) ?_
  refine sx_lmul hx hb d_F_times_171 (fun z30 => ?_)
  refine sx_ladd hx hb d_F_times_172 (fun z31 => ?_)
  refine lv_lload hx hb d_F_times_173 (lv_at hl 20 rfl) ?_
  refine lv_lload hx hb d_F_times_175 (lv_at hl 8 rfl) ?_
  refine sx_lmul hx hb d_F_times_177 (fun z32 => ?_)
  refine sx_ladd hx hb d_F_times_178 (fun z33 => ?_)
  refine lv_lload hx hb d_F_times_179 (lv_at hl 2 rfl) ?_
  refine lv_lload hx hb d_F_times_181 (lv_at hl 9 rfl) ?_
  refine sx_lmul hx hb d_F_times_183 (fun z34 => ?_)
  refine sx_ladd hx hb d_F_times_184 (fun z35 => ?_)
  refine lv_lload hx hb d_F_times_185 (lv_at hl 18 rfl) ?_
  refine lv_lload hx hb d_F_times_187 (lv_at hl 10 rfl) ?_
  refine sx_lmul hx hb d_F_times_189 (fun z36 => ?_)
  refine sx_ladd hx hb d_F_times_190 (fun z37 => ?_)
  refine lv_lload hx hb d_F_times_191 (lv_at hl 1 rfl) ?_
  refine lv_lload hx hb d_F_times_193 (lv_at hl 11 rfl) ?_
  refine sx_lmul hx hb d_F_times_195 (fun z38 => ?_)
  refine sx_ladd hx hb d_F_times_196 (fun z39 => ?_)
  refine lv_lload hx hb d_F_times_197 (lv_at hl 16 rfl) ?_
  refine lv_lload hx hb d_F_times_199 (lv_at hl 12 rfl) ?_
  refine sx_lmul hx hb d_F_times_201 (fun z40 => ?_)
  refine sx_ladd hx hb d_F_times_202 (fun z41 => ?_)
  refine lv_lload hx hb d_F_times_203 (lv_at hl 0 rfl) ?_
  refine lv_lload hx hb d_F_times_205 (lv_at hl 13 rfl) ?_
  refine sx_lmul hx hb d_F_times_207 (fun z42 => ?_)
  refine sx_ladd hx hb d_F_times_208 (fun z43 => ?_)
  refine sx_lmul hx hb d_F_times_209 (fun z44 => ?_)
  refine sx_ladd hx hb d_F_times_210 (fun z45 => ?_)
  refine sx_last hx hb hG hS f0 o0 (sx_in (by omega) (by decide)) d_F_times_211 (fun H locs hS => ?_)
  refine lv_aload_n hx hb d_F_times_212 rfl (lv_at hl 25 rfl) ?_
  refine lv_iconst (v := nI 1) hx hb d_F_times_213 (by decide +kernel) ?_
  refine lv_lload_n hx hb d_F_times_214 rfl (lv_at hl 24 rfl) ?_
  refine lv_lload hx hb d_F_times_215 (lv_at hl 13 rfl) ?_
  refine sx_lmul hx hb d_F_times_217 (fun z46 => ?_)
  refine lv_lload hx hb d_F_times_218 (lv_at hl 23 rfl) ?_
  refine lv_lload hx hb d_F_times_220 (lv_at hl 14 rfl) ?_
  refine sx_lmul hx hb d_F_times_222 (fun z47 => ?_)
  refine sx_ladd hx hb d_F_times_223 (fun z48 => ?_)
  refine lv_ldc2 (v := (19)) hx hb hown (hts (.constantLong R_F 51 (19)) (by decide +kernel)) d_F_times_224 ?_
  refine lv_lload hx hb d_F_times_227 (lv_at hl 22 rfl) ?_
  refine lv_lload hx hb d_F_times_229 (lv_at hl 5 rfl) ?_
  refine sx_lmul hx hb d_F_times_231 (fun z49 => ?_)
  refine lv_lload hx hb d_F_times_232 (lv_at hl 21 rfl) ?_
  refine lv_lload hx hb d_F_times_234 (lv_at hl 6 rfl) ?_
  refine sx_lmul hx hb d_F_times_236 (fun z50 => ?_)
  refine sx_ladd hx hb d_F_times_237 (fun z51 => ?_)
  refine lv_lload hx hb d_F_times_238 (lv_at hl 20 rfl) ?_
  refine lv_lload hx hb d_F_times_240 (lv_at hl 7 rfl) ?_
  refine sx_lmul hx hb d_F_times_242 (fun z52 => ?_)
  refine sx_ladd hx hb d_F_times_243 (fun z53 => ?_)
  refine lv_lload hx hb d_F_times_244 (lv_at hl 19 rfl) ?_
  refine lv_lload hx hb d_F_times_246 (lv_at hl 8 rfl) ?_
  refine sx_lmul hx hb d_F_times_248 (fun z54 => ?_)
  refine sx_ladd hx hb d_F_times_249 (fun z55 => ?_)
  refine lv_lload hx hb d_F_times_250 (lv_at hl 18 rfl) ?_
  refine lv_lload hx hb d_F_times_252 (lv_at hl 9 rfl) ?_
  refine sx_lmul hx hb d_F_times_254 (fun z56 => ?_)
  refine sx_ladd hx hb d_F_times_255 (fun z57 => ?_)
  refine lv_lload hx hb d_F_times_256 (lv_at hl 17 rfl) ?_
  refine lv_lload hx hb d_F_times_258 (lv_at hl 10 rfl) ?_
  refine sx_lmul hx hb d_F_times_260 (fun z58 => ?_)
  refine sx_ladd hx hb d_F_times_261 (fun z59 => ?_)
  refine lv_lload hx hb d_F_times_262 (lv_at hl 16 rfl) ?_
  refine lv_lload hx hb d_F_times_264 (lv_at hl 11 rfl) ?_
  refine sx_lmul hx hb d_F_times_266 (fun z60 => ?_)
  refine sx_ladd hx hb d_F_times_267 (fun z61 => ?_)
  refine lv_lload hx hb d_F_times_268 (lv_at hl 15 rfl) ?_
  refine lv_lload hx hb d_F_times_270 (lv_at hl 12 rfl) ?_
  refine sx_lmul hx hb d_F_times_272 (fun z62 => ?_)
  refine sx_ladd hx hb d_F_times_273 (fun z63 => ?_)
  refine sx_lmul hx hb d_F_times_274 (fun z64 => ?_)
  refine sx_ladd hx hb d_F_times_275 (fun z65 => ?_)
  refine sx_last hx hb hG hS f0 o0 (sx_in (by omega) (by decide)) d_F_times_276 (fun H locs hS => ?_)
  refine lv_aload_n hx hb d_F_times_277 rfl (lv_at hl 25 rfl) ?_
  refine lv_iconst (v := nI 2) hx hb d_F_times_278 (by decide +kernel) ?_
  refine lv_lload_n hx hb d_F_times_279 rfl (lv_at hl 24 rfl) ?_
  refine lv_lload hx hb d_F_times_280 (lv_at hl 12 rfl) ?_
  refine sx_lmul hx hb d_F_times_282 (fun z66 => ?_)
  refine lv_lload hx hb d_F_times_283 (lv_at hl 4 rfl) ?_
  refine lv_lload hx hb d_F_times_285 (lv_at hl 13 rfl) ?_
  refine sx_lmul hx hb d_F_times_287 (fun z67 => ?_)
  refine sx_ladd hx hb d_F_times_288 (fun z68 => ?_)
  refine lv_lload hx hb d_F_times_289 (lv_at hl 22 rfl) ?_
  refine lv_lload hx hb d_F_times_291 (lv_at hl 14 rfl) ?_
  refine sx_lmul hx hb d_F_times_293 (fun z69 => ?_)
  refine sx_ladd hx hb d_F_times_294 (fun z70 => ?_)
  refine lv_ldc2 (v := (19)) hx hb hown (hts (.constantLong R_F 51 (19)) (by decide +kernel)) d_F_times_295 ?_
  refine lv_lload hx hb d_F_times_298 (lv_at hl 3 rfl) ?_
  refine lv_lload hx hb d_F_times_300 (lv_at hl 5 rfl) ?_
  refine sx_lmul hx hb d_F_times_302 (fun z71 => ?_)
  refine lv_lload hx hb d_F_times_303 (lv_at hl 20 rfl) ?_
  refine lv_lload hx hb d_F_times_305 (lv_at hl 6 rfl) ?_
  refine sx_lmul hx hb d_F_times_307 (fun z72 => ?_)
  refine sx_ladd hx hb d_F_times_308 (fun z73 => ?_)
  refine lv_lload hx hb d_F_times_309 (lv_at hl 2 rfl) ?_
  refine lv_lload hx hb d_F_times_311 (lv_at hl 7 rfl) ?_
  refine sx_lmul hx hb d_F_times_313 (fun z74 => ?_)
  refine sx_ladd hx hb d_F_times_314 (fun z75 => ?_)
  refine lv_lload hx hb d_F_times_315 (lv_at hl 18 rfl) ?_
  refine lv_lload hx hb d_F_times_317 (lv_at hl 8 rfl) ?_
  refine sx_lmul hx hb d_F_times_319 (fun z76 => ?_)
  refine sx_ladd hx hb d_F_times_320 (fun z77 => ?_)
  refine lv_lload hx hb d_F_times_321 (lv_at hl 1 rfl) ?_
  refine lv_lload hx hb d_F_times_323 (lv_at hl 9 rfl) ?_
  refine sx_lmul hx hb d_F_times_325 (fun z78 => ?_)
  refine sx_ladd hx hb d_F_times_326 (fun z79 => ?_)
  refine lv_lload hx hb d_F_times_327 (lv_at hl 16 rfl) ?_
  refine lv_lload hx hb d_F_times_329 (lv_at hl 10 rfl) ?_
  refine sx_lmul hx hb d_F_times_331 (fun z80 => ?_)
  refine sx_ladd hx hb d_F_times_332 (fun z81 => ?_)
  refine lv_lload hx hb d_F_times_333 (lv_at hl 0 rfl) ?_
  refine lv_lload hx hb d_F_times_335 (lv_at hl 11 rfl) ?_
  refine sx_lmul hx hb d_F_times_337 (fun z82 => ?_)
  refine sx_ladd hx hb d_F_times_338 (fun z83 => ?_)
  refine sx_lmul hx hb d_F_times_339 (fun z84 => ?_)
  refine sx_ladd hx hb d_F_times_340 (fun z85 => ?_)
  refine sx_last hx hb hG hS f0 o0 (sx_in (by omega) (by decide)) d_F_times_341 (fun H locs hS => ?_)
  refine lv_aload_n hx hb d_F_times_342 rfl (lv_at hl 25 rfl) ?_
  refine lv_iconst (v := nI 3) hx hb d_F_times_343 (by decide +kernel) ?_
  refine lv_lload_n hx hb d_F_times_344 rfl (lv_at hl 24 rfl) ?_
  refine lv_lload hx hb d_F_times_345 (lv_at hl 11 rfl) ?_
  refine sx_lmul hx hb d_F_times_347 (fun z86 => ?_)
  refine lv_lload hx hb d_F_times_348 (lv_at hl 23 rfl) ?_
  refine lv_lload hx hb d_F_times_350 (lv_at hl 12 rfl) ?_
  refine sx_lmul hx hb d_F_times_352 (fun z87 => ?_)
  refine sx_ladd hx hb d_F_times_353 (fun z88 => ?_)
  refine lv_lload hx hb d_F_times_354 (lv_at hl 22 rfl) ?_
  refine lv_lload hx hb d_F_times_356 (lv_at hl 13 rfl) ?_
  refine sx_lmul hx hb d_F_times_358 (fun z89 => ?_)
  refine sx_ladd hx hb d_F_times_359 (fun z90 => ?_)
  refine lv_lload hx hb d_F_times_360 (lv_at hl 21 rfl) ?_
  refine lv_lload hx hb d_F_times_362 (lv_at hl 14 rfl) ?_
  refine sx_lmul hx hb d_F_times_364 (fun z91 => ?_)
  refine sx_ladd hx hb d_F_times_365 (fun z92 => ?_)
  refine lv_ldc2 (v := (19)) hx hb hown (hts (.constantLong R_F 51 (19)) (by decide +kernel)) d_F_times_366 ?_
  refine lv_lload hx hb d_F_times_369 (lv_at hl 20 rfl) ?_
  refine lv_lload hx hb d_F_times_371 (lv_at hl 5 rfl) ?_
  refine sx_lmul hx hb d_F_times_373 (fun z93 => ?_)
  refine lv_lload hx hb d_F_times_374 (lv_at hl 19 rfl) ?_
  refine lv_lload hx hb d_F_times_376 (lv_at hl 6 rfl) ?_
  refine sx_lmul hx hb d_F_times_378 (fun z94 => ?_)
  refine sx_ladd hx hb d_F_times_379 (fun z95 => ?_)
  refine lv_lload hx hb d_F_times_380 (lv_at hl 18 rfl) ?_
  refine lv_lload hx hb d_F_times_382 (lv_at hl 7 rfl) ?_
  refine sx_lmul hx hb d_F_times_384 (fun z96 => ?_)
  refine sx_ladd hx hb d_F_times_385 (fun z97 => ?_)
  refine lv_lload hx hb d_F_times_386 (lv_at hl 17 rfl) ?_
  refine lv_lload hx hb d_F_times_388 (lv_at hl 8 rfl) ?_
  refine sx_lmul hx hb d_F_times_390 (fun z98 => ?_)
  refine sx_ladd hx hb d_F_times_391 (fun z99 => ?_)
  refine lv_lload hx hb d_F_times_392 (lv_at hl 16 rfl) ?_
  refine lv_lload hx hb d_F_times_394 (lv_at hl 9 rfl) ?_
  refine sx_lmul hx hb d_F_times_396 (fun z100 => ?_)
  refine sx_ladd hx hb d_F_times_397 (fun z101 => ?_)
  refine lv_lload hx hb d_F_times_398 (lv_at hl 15 rfl) ?_
  refine lv_lload hx hb d_F_times_400 (lv_at hl 10 rfl) ?_
  refine sx_lmul hx hb d_F_times_402 (fun z102 => ?_)
  refine sx_ladd hx hb d_F_times_403 (fun z103 => ?_)
  refine sx_lmul hx hb d_F_times_404 (fun z104 => ?_)
  refine sx_ladd hx hb d_F_times_405 (fun z105 => ?_)
  refine sx_last hx hb hG hS f0 o0 (sx_in (by omega) (by decide)) d_F_times_406 (fun H locs hS => ?_)
  refine lv_aload_n hx hb d_F_times_407 rfl (lv_at hl 25 rfl) ?_
  refine lv_iconst (v := nI 4) hx hb d_F_times_408 (by decide +kernel) ?_
  refine lv_lload_n hx hb d_F_times_409 rfl (lv_at hl 24 rfl) ?_
  refine lv_lload hx hb d_F_times_410 (lv_at hl 10 rfl) ?_
  refine sx_lmul hx hb d_F_times_412 (fun z106 => ?_)
  refine lv_lload hx hb d_F_times_413 (lv_at hl 4 rfl) ?_
  refine lv_lload hx hb d_F_times_415 (lv_at hl 11 rfl) ?_
  refine sx_lmul hx hb d_F_times_417 (fun z107 => ?_)
  refine sx_ladd hx hb d_F_times_418 (fun z108 => ?_)
  refine lv_lload hx hb d_F_times_419 (lv_at hl 22 rfl) ?_
  refine lv_lload hx hb d_F_times_421 (lv_at hl 12 rfl) ?_
  refine sx_lmul hx hb d_F_times_423 (fun z109 => ?_)
  refine sx_ladd hx hb d_F_times_424 (fun z110 => ?_)
  refine lv_lload hx hb d_F_times_425 (lv_at hl 3 rfl) ?_
  refine lv_lload hx hb d_F_times_427 (lv_at hl 13 rfl) ?_
  refine sx_lmul hx hb d_F_times_429 (fun z111 => ?_)
  refine sx_ladd hx hb d_F_times_430 (fun z112 => ?_)
  refine lv_lload hx hb d_F_times_431 (lv_at hl 20 rfl) ?_
  refine lv_lload hx hb d_F_times_433 (lv_at hl 14 rfl) ?_
  refine sx_lmul hx hb d_F_times_435 (fun z113 => ?_)
  refine sx_ladd hx hb d_F_times_436 (fun z114 => ?_)
  refine lv_ldc2 (v := (19)) hx hb hown (hts (.constantLong R_F 51 (19)) (by decide +kernel)) d_F_times_437 ?_
  refine lv_lload hx hb d_F_times_440 (lv_at hl 2 rfl) ?_
  refine lv_lload hx hb d_F_times_442 (lv_at hl 5 rfl) ?_
  refine sx_lmul hx hb d_F_times_444 (fun z115 => ?_)
  refine lv_lload hx hb d_F_times_445 (lv_at hl 18 rfl) ?_
  refine lv_lload hx hb d_F_times_447 (lv_at hl 6 rfl) ?_
  refine sx_lmul hx hb d_F_times_449 (fun z116 => ?_)
  refine sx_ladd hx hb d_F_times_450 (fun z117 => ?_)
  refine lv_lload hx hb d_F_times_451 (lv_at hl 1 rfl) ?_
  refine lv_lload hx hb d_F_times_453 (lv_at hl 7 rfl) ?_
  refine sx_lmul hx hb d_F_times_455 (fun z118 => ?_)
  refine sx_ladd hx hb d_F_times_456 (fun z119 => ?_)
  refine lv_lload hx hb d_F_times_457 (lv_at hl 16 rfl) ?_
  refine lv_lload hx hb d_F_times_459 (lv_at hl 8 rfl) ?_
  refine sx_lmul hx hb d_F_times_461 (fun z120 => ?_)
  refine sx_ladd hx hb d_F_times_462 (fun z121 => ?_)
  refine lv_lload hx hb d_F_times_463 (lv_at hl 0 rfl) ?_
  refine lv_lload hx hb d_F_times_465 (lv_at hl 9 rfl) ?_
  refine sx_lmul hx hb d_F_times_467 (fun z122 => ?_)
  refine sx_ladd hx hb d_F_times_468 (fun z123 => ?_)
  refine sx_lmul hx hb d_F_times_469 (fun z124 => ?_)
  refine sx_ladd hx hb d_F_times_470 (fun z125 => ?_)
  refine sx_last hx hb hG hS f0 o0 (sx_in (by omega) (by decide)) d_F_times_471 (fun H locs hS => ?_)
  refine lv_aload_n hx hb d_F_times_472 rfl (lv_at hl 25 rfl) ?_
  refine lv_iconst (v := nI 5) hx hb d_F_times_473 (by decide +kernel) ?_
  refine lv_lload_n hx hb d_F_times_474 rfl (lv_at hl 24 rfl) ?_
  refine lv_lload hx hb d_F_times_475 (lv_at hl 9 rfl) ?_
  refine sx_lmul hx hb d_F_times_477 (fun z126 => ?_)
  refine lv_lload hx hb d_F_times_478 (lv_at hl 23 rfl) ?_
  refine lv_lload hx hb d_F_times_480 (lv_at hl 10 rfl) ?_
  refine sx_lmul hx hb d_F_times_482 (fun z127 => ?_)
  refine sx_ladd hx hb d_F_times_483 (fun z128 => ?_)
  refine lv_lload hx hb d_F_times_484 (lv_at hl 22 rfl) ?_
  refine lv_lload hx hb d_F_times_486 (lv_at hl 11 rfl) ?_
  refine sx_lmul hx hb d_F_times_488 (fun z129 => ?_)
  refine sx_ladd hx hb d_F_times_489 (fun z130 => ?_)
  refine lv_lload hx hb d_F_times_490 (lv_at hl 21 rfl) ?_
  refine lv_lload hx hb d_F_times_492 (lv_at hl 12 rfl) ?_
  refine sx_lmul hx hb d_F_times_494 (fun z131 => ?_)
  refine sx_ladd hx hb d_F_times_495 (fun z132 => ?_)
  refine lv_lload hx hb d_F_times_496 (lv_at hl 20 rfl) ?_
  refine lv_lload hx hb d_F_times_498 (lv_at hl 13 rfl) ?_
  refine sx_lmul hx hb d_F_times_500 (fun z133 => ?_)
  refine sx_ladd hx hb d_F_times_501 (fun z134 => ?_)
  refine lv_lload hx hb d_F_times_502 (lv_at hl 19 rfl) ?_
  refine lv_lload hx hb d_F_times_504 (lv_at hl 14 rfl) ?_
  refine sx_lmul hx hb d_F_times_506 (fun z135 => ?_)
  refine sx_ladd hx hb d_F_times_507 (fun z136 => ?_)
  refine lv_ldc2 (v := (19)) hx hb hown (hts (.constantLong R_F 51 (19)) (by decide +kernel)) d_F_times_508 ?_
  refine lv_lload hx hb d_F_times_511 (lv_at hl 18 rfl) ?_
  refine lv_lload hx hb d_F_times_513 (lv_at hl 5 rfl) ?_
  refine sx_lmul hx hb d_F_times_515 (fun z137 => ?_)
  refine lv_lload hx hb d_F_times_516 (lv_at hl 17 rfl) ?_
  refine lv_lload hx hb d_F_times_518 (lv_at hl 6 rfl) ?_
  refine sx_lmul hx hb d_F_times_520 (fun z138 => ?_)
  refine sx_ladd hx hb d_F_times_521 (fun z139 => ?_)
  refine lv_lload hx hb d_F_times_522 (lv_at hl 16 rfl) ?_
  refine lv_lload hx hb d_F_times_524 (lv_at hl 7 rfl) ?_
  refine sx_lmul hx hb d_F_times_526 (fun z140 => ?_)
  refine sx_ladd hx hb d_F_times_527 (fun z141 => ?_)
  refine lv_lload hx hb d_F_times_528 (lv_at hl 15 rfl) ?_
  refine lv_lload hx hb d_F_times_530 (lv_at hl 8 rfl) ?_
  refine sx_lmul hx hb d_F_times_532 (fun z142 => ?_)
  refine sx_ladd hx hb d_F_times_533 (fun z143 => ?_)
  refine sx_lmul hx hb d_F_times_534 (fun z144 => ?_)
  refine sx_ladd hx hb d_F_times_535 (fun z145 => ?_)
  refine sx_last hx hb hG hS f0 o0 (sx_in (by omega) (by decide)) d_F_times_536 (fun H locs hS => ?_)
  refine lv_aload_n hx hb d_F_times_537 rfl (lv_at hl 25 rfl) ?_
  refine lv_bipush (v := nI 6) hx hb d_F_times_538 (by decide +kernel) ?_
  refine lv_lload_n hx hb d_F_times_540 rfl (lv_at hl 24 rfl) ?_
  refine lv_lload hx hb d_F_times_541 (lv_at hl 8 rfl) ?_
  refine sx_lmul hx hb d_F_times_543 (fun z146 => ?_)
  refine lv_lload hx hb d_F_times_544 (lv_at hl 4 rfl) ?_
  refine lv_lload hx hb d_F_times_546 (lv_at hl 9 rfl) ?_
  refine sx_lmul hx hb d_F_times_548 (fun z147 => ?_)
  refine sx_ladd hx hb d_F_times_549 (fun z148 => ?_)
  refine lv_lload hx hb d_F_times_550 (lv_at hl 22 rfl) ?_
  refine lv_lload hx hb d_F_times_552 (lv_at hl 10 rfl) ?_
  refine sx_lmul hx hb d_F_times_554 (fun z149 => ?_)
  refine sx_ladd hx hb d_F_times_555 (fun z150 => ?_)
  refine lv_lload hx hb d_F_times_556 (lv_at hl 3 rfl) ?_
  refine lv_lload hx hb d_F_times_558 (lv_at hl 11 rfl) ?_
  refine sx_lmul hx hb d_F_times_560 (fun z151 => ?_)
  refine sx_ladd hx hb d_F_times_561 (fun z152 => ?_)
  refine lv_lload hx hb d_F_times_562 (lv_at hl 20 rfl) ?_
  refine lv_lload hx hb d_F_times_564 (lv_at hl 12 rfl) ?_
  refine sx_lmul hx hb d_F_times_566 (fun z153 => ?_)
  refine sx_ladd hx hb d_F_times_567 (fun z154 => ?_)
  refine lv_lload hx hb d_F_times_568 (lv_at hl 2 rfl) ?_
  refine lv_lload hx hb d_F_times_570 (lv_at hl 13 rfl) ?_
  refine sx_lmul hx hb d_F_times_572 (fun z155 => ?_)
  refine sx_ladd hx hb d_F_times_573 (fun z156 => ?_)
  refine lv_lload hx hb d_F_times_574 (lv_at hl 18 rfl) ?_
  refine lv_lload hx hb d_F_times_576 (lv_at hl 14 rfl) ?_
  refine sx_lmul hx hb d_F_times_578 (fun z157 => ?_)
  refine sx_ladd hx hb d_F_times_579 (fun z158 => ?_)
  refine lv_ldc2 (v := (19)) hx hb hown (hts (.constantLong R_F 51 (19)) (by decide +kernel)) d_F_times_580 ?_
  refine lv_lload hx hb d_F_times_583 (lv_at hl 1 rfl) ?_
  refine lv_lload hx hb d_F_times_585 (lv_at hl 5 rfl) ?_
  refine sx_lmul hx hb d_F_times_587 (fun z159 => ?_)
  refine lv_lload hx hb d_F_times_588 (lv_at hl 16 rfl) ?_
  refine lv_lload hx hb d_F_times_590 (lv_at hl 6 rfl) ?_
  refine sx_lmul hx hb d_F_times_592 (fun z160 => ?_)
  refine sx_ladd hx hb d_F_times_593 (fun z161 => ?_)
  refine lv_lload hx hb d_F_times_594 (lv_at hl 0 rfl) ?_
  refine lv_lload hx hb d_F_times_596 (lv_at hl 7 rfl) ?_
  refine sx_lmul hx hb d_F_times_598 (fun z162 => ?_)
  refine sx_ladd hx hb d_F_times_599 (fun z163 => ?_)
  refine sx_lmul hx hb d_F_times_600 (fun z164 => ?_)
  refine sx_ladd hx hb d_F_times_601 (fun z165 => ?_)
  refine sx_last hx hb hG hS f0 o0 (sx_in (by omega) (by decide)) d_F_times_602 (fun H locs hS => ?_)
  refine lv_aload_n hx hb d_F_times_603 rfl (lv_at hl 25 rfl) ?_
  refine lv_bipush (v := nI 7) hx hb d_F_times_604 (by decide +kernel) ?_
  refine lv_lload_n hx hb d_F_times_606 rfl (lv_at hl 24 rfl) ?_
  refine lv_lload hx hb d_F_times_607 (lv_at hl 7 rfl) ?_
  refine sx_lmul hx hb d_F_times_609 (fun z166 => ?_)
  refine lv_lload hx hb d_F_times_610 (lv_at hl 23 rfl) ?_
  refine lv_lload hx hb d_F_times_612 (lv_at hl 8 rfl) ?_
  refine sx_lmul hx hb d_F_times_614 (fun z167 => ?_)
  refine sx_ladd hx hb d_F_times_615 (fun z168 => ?_)
  refine lv_lload hx hb d_F_times_616 (lv_at hl 22 rfl) ?_
  refine lv_lload hx hb d_F_times_618 (lv_at hl 9 rfl) ?_
  refine sx_lmul hx hb d_F_times_620 (fun z169 => ?_)
  refine sx_ladd hx hb d_F_times_621 (fun z170 => ?_)
  refine lv_lload hx hb d_F_times_622 (lv_at hl 21 rfl) ?_
  refine lv_lload hx hb d_F_times_624 (lv_at hl 10 rfl) ?_
  refine sx_lmul hx hb d_F_times_626 (fun z171 => ?_)
  refine sx_ladd hx hb d_F_times_627 (fun z172 => ?_)
  refine lv_lload hx hb d_F_times_628 (lv_at hl 20 rfl) ?_
  refine lv_lload hx hb d_F_times_630 (lv_at hl 11 rfl) ?_
  refine sx_lmul hx hb d_F_times_632 (fun z173 => ?_)
  refine sx_ladd hx hb d_F_times_633 (fun z174 => ?_)
  refine lv_lload hx hb d_F_times_634 (lv_at hl 19 rfl) ?_
  refine lv_lload hx hb d_F_times_636 (lv_at hl 12 rfl) ?_
  refine sx_lmul hx hb d_F_times_638 (fun z175 => ?_)
  refine sx_ladd hx hb d_F_times_639 (fun z176 => ?_)
  refine lv_lload hx hb d_F_times_640 (lv_at hl 18 rfl) ?_
  refine lv_lload hx hb d_F_times_642 (lv_at hl 13 rfl) ?_
  refine sx_lmul hx hb d_F_times_644 (fun z177 => ?_)
  refine sx_ladd hx hb d_F_times_645 (fun z178 => ?_)
  refine lv_lload hx hb d_F_times_646 (lv_at hl 17 rfl) ?_
  refine lv_lload hx hb d_F_times_648 (lv_at hl 14 rfl) ?_
  refine sx_lmul hx hb d_F_times_650 (fun z179 => ?_)
  refine sx_ladd hx hb d_F_times_651 (fun z180 => ?_)
  refine lv_ldc2 (v := (19)) hx hb hown (hts (.constantLong R_F 51 (19)) (by decide +kernel)) d_F_times_652 ?_
  refine lv_lload hx hb d_F_times_655 (lv_at hl 16 rfl) ?_
  refine lv_lload hx hb d_F_times_657 (lv_at hl 5 rfl) ?_
  refine sx_lmul hx hb d_F_times_659 (fun z181 => ?_)
  refine lv_lload hx hb d_F_times_660 (lv_at hl 15 rfl) ?_
  refine lv_lload hx hb d_F_times_662 (lv_at hl 6 rfl) ?_
  refine sx_lmul hx hb d_F_times_664 (fun z182 => ?_)
  refine sx_ladd hx hb d_F_times_665 (fun z183 => ?_)
  refine sx_lmul hx hb d_F_times_666 (fun z184 => ?_)
  refine sx_ladd hx hb d_F_times_667 (fun z185 => ?_)
  refine sx_last hx hb hG hS f0 o0 (sx_in (by omega) (by decide)) d_F_times_668 (fun H locs hS => ?_)
  refine lv_aload_n hx hb d_F_times_669 rfl (lv_at hl 25 rfl) ?_
  refine lv_bipush (v := nI 8) hx hb d_F_times_670 (by decide +kernel) ?_
  refine lv_lload_n hx hb d_F_times_672 rfl (lv_at hl 24 rfl) ?_
  refine lv_lload hx hb d_F_times_673 (lv_at hl 6 rfl) ?_
  refine sx_lmul hx hb d_F_times_675 (fun z186 => ?_)
  refine lv_lload hx hb d_F_times_676 (lv_at hl 4 rfl) ?_
  refine lv_lload hx hb d_F_times_678 (lv_at hl 7 rfl) ?_
  refine sx_lmul hx hb d_F_times_680 (fun z187 => ?_)
  refine sx_ladd hx hb d_F_times_681 (fun z188 => ?_)
  refine lv_lload hx hb d_F_times_682 (lv_at hl 22 rfl) ?_
  refine lv_lload hx hb d_F_times_684 (lv_at hl 8 rfl) ?_
  refine sx_lmul hx hb d_F_times_686 (fun z189 => ?_)
  refine sx_ladd hx hb d_F_times_687 (fun z190 => ?_)
  refine lv_lload hx hb d_F_times_688 (lv_at hl 3 rfl) ?_
  refine lv_lload hx hb d_F_times_690 (lv_at hl 9 rfl) ?_
  refine sx_lmul hx hb d_F_times_692 (fun z191 => ?_)
  refine sx_ladd hx hb d_F_times_693 (fun z192 => ?_)
  refine lv_lload hx hb d_F_times_694 (lv_at hl 20 rfl) ?_
  refine lv_lload hx hb d_F_times_696 (lv_at hl 10 rfl) ?_
  refine sx_lmul hx hb d_F_times_698 (fun z193 => ?_)
  refine sx_ladd hx hb d_F_times_699 (fun z194 => ?_)
  refine lv_lload hx hb d_F_times_700 (lv_at hl 2 rfl) ?_
  refine lv_lload hx hb d_F_times_702 (lv_at hl 11 rfl) ?_
  refine sx_lmul hx hb d_F_times_704 (fun z195 => ?_)
  refine sx_ladd hx hb d_F_times_705 (fun z196 => ?_)
  refine lv_lload hx hb d_F_times_706 (lv_at hl 18 rfl) ?_
  refine lv_lload hx hb d_F_times_708 (lv_at hl 12 rfl) ?_
  refine sx_lmul hx hb d_F_times_710 (fun z197 => ?_)
  refine sx_ladd hx hb d_F_times_711 (fun z198 => ?_)
  refine lv_lload hx hb d_F_times_712 (lv_at hl 1 rfl) ?_
  refine lv_lload hx hb d_F_times_714 (lv_at hl 13 rfl) ?_
  refine sx_lmul hx hb d_F_times_716 (fun z199 => ?_)
  refine sx_ladd hx hb d_F_times_717 (fun z200 => ?_)
  refine lv_lload hx hb d_F_times_718 (lv_at hl 16 rfl) ?_
  refine lv_lload hx hb d_F_times_720 (lv_at hl 14 rfl) ?_
  refine sx_lmul hx hb d_F_times_722 (fun z201 => ?_)
  refine sx_ladd hx hb d_F_times_723 (fun z202 => ?_)
  refine lv_ldc2 (v := (19)) hx hb hown (hts (.constantLong R_F 51 (19)) (by decide +kernel)) d_F_times_724 ?_
  refine lv_lload hx hb d_F_times_727 (lv_at hl 0 rfl) ?_
  refine lv_lload hx hb d_F_times_729 (lv_at hl 5 rfl) ?_
  refine sx_lmul hx hb d_F_times_731 (fun z203 => ?_)
  refine sx_lmul hx hb d_F_times_732 (fun z204 => ?_)
  refine sx_ladd hx hb d_F_times_733 (fun z205 => ?_)
  refine sx_last hx hb hG hS f0 o0 (sx_in (by omega) (by decide)) d_F_times_734 (fun H locs hS => ?_)
  refine lv_aload_n hx hb d_F_times_735 rfl (lv_at hl 25 rfl) ?_
  refine lv_bipush (v := nI 9) hx hb d_F_times_736 (by decide +kernel) ?_
  refine lv_lload_n hx hb d_F_times_738 rfl (lv_at hl 24 rfl) ?_
  refine lv_lload hx hb d_F_times_739 (lv_at hl 5 rfl) ?_
  refine sx_lmul hx hb d_F_times_741 (fun z206 => ?_)
  refine lv_lload hx hb d_F_times_742 (lv_at hl 23 rfl) ?_
  refine lv_lload hx hb d_F_times_744 (lv_at hl 6 rfl) ?_
  refine sx_lmul hx hb d_F_times_746 (fun z207 => ?_)
  refine sx_ladd hx hb d_F_times_747 (fun z208 => ?_)
  refine lv_lload hx hb d_F_times_748 (lv_at hl 22 rfl) ?_
  refine lv_lload hx hb d_F_times_750 (lv_at hl 7 rfl) ?_
  refine sx_lmul hx hb d_F_times_752 (fun z209 => ?_)
  refine sx_ladd hx hb d_F_times_753 (fun z210 => ?_)
  refine lv_lload hx hb d_F_times_754 (lv_at hl 21 rfl) ?_
  refine lv_lload hx hb d_F_times_756 (lv_at hl 8 rfl) ?_
  refine sx_lmul hx hb d_F_times_758 (fun z211 => ?_)
  refine sx_ladd hx hb d_F_times_759 (fun z212 => ?_)
  refine lv_lload hx hb d_F_times_760 (lv_at hl 20 rfl) ?_
  refine lv_lload hx hb d_F_times_762 (lv_at hl 9 rfl) ?_
  refine sx_lmul hx hb d_F_times_764 (fun z213 => ?_)
  refine sx_ladd hx hb d_F_times_765 (fun z214 => ?_)
  refine lv_lload hx hb d_F_times_766 (lv_at hl 19 rfl) ?_
  refine lv_lload hx hb d_F_times_768 (lv_at hl 10 rfl) ?_
  refine sx_lmul hx hb d_F_times_770 (fun z215 => ?_)
  refine sx_ladd hx hb d_F_times_771 (fun z216 => ?_)
  refine lv_lload hx hb d_F_times_772 (lv_at hl 18 rfl) ?_
  refine lv_lload hx hb d_F_times_774 (lv_at hl 11 rfl) ?_
  refine sx_lmul hx hb d_F_times_776 (fun z217 => ?_)
  refine sx_ladd hx hb d_F_times_777 (fun z218 => ?_)
  refine lv_lload hx hb d_F_times_778 (lv_at hl 17 rfl) ?_
  refine lv_lload hx hb d_F_times_780 (lv_at hl 12 rfl) ?_
  refine sx_lmul hx hb d_F_times_782 (fun z219 => ?_)
  refine sx_ladd hx hb d_F_times_783 (fun z220 => ?_)
  refine lv_lload hx hb d_F_times_784 (lv_at hl 16 rfl) ?_
  refine lv_lload hx hb d_F_times_786 (lv_at hl 13 rfl) ?_
  refine sx_lmul hx hb d_F_times_788 (fun z221 => ?_)
  refine sx_ladd hx hb d_F_times_789 (fun z222 => ?_)
  refine lv_lload hx hb d_F_times_790 (lv_at hl 15 rfl) ?_
  refine lv_lload hx hb d_F_times_792 (lv_at hl 14 rfl) ?_
  refine sx_lmul hx hb d_F_times_794 (fun z223 => ?_)
  refine sx_ladd hx hb d_F_times_795 (fun z224 => ?_)
  refine sx_last hx hb hG hS f0 o0 (sx_in (by omega) (by decide)) d_F_times_796 (fun H locs hS => ?_)
  refine lv_aload_n hx hb d_F_times_797 rfl (lv_at hl 25 rfl) ?_
  refine sx_gv (sx_runS (As := [.ref a0]) (rest := []) EE (c_F_carry (hS.a f0) o0) w_F_45 rfl ⟨rfl, rfl⟩ ⟨Nat.le_of_ble_eq_true rfl, Nat.le_of_ble_eq_true rfl⟩ ⟨Nat.zero_le _, Nat.zero_le _⟩ hl.1 rfl (Nat.le_of_ble_eq_true rfl) d_F_times_798) hS (fun H locs hS => ?_)
  exact hret _ _ _ _ hS d_F_times_801
