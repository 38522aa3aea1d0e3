abbrev rm_M_inverse : Room := { frames := 1, cells := 0, slots := 0, locals := 28 }
set_option maxHeartbeats 4000000 in
set_option maxRecDepth 100000 in
theorem c_M_inverse {l : Launch} {D : va_G} {g : ClassId → FieldType → Prop} {E : Nat → Prop} {H0 : Heap} {o : Nat} {r : Nat → Nat} {i : Nat → Int32} {a0 : Nat} {a1 : Nat} {a2 : Nat} (hM : mo_ D g H0 o r i) (hE : ¬ E o) (hW : ∀ q ∈ mo_wr, E (r q.1)) (f0 : sx_A g .long H0 a0 16) (o0 : E a0) (f1 : sx_A g .long H0 a1 16) (f2 : sx_A g .long H0 a2 16) : Met l y_M_inverse (.code y_M_inverse b_M_inverse 5 none :: G_) rm_M_inverse (sx_Pc [.ref o, .ref a0, .ref a1, .ref a2] H0 D g) (sx_Qv g E H0) 0 0 E := by
  refine sx_mv (own := R_M) (by decide) rfl rfl rfl (Nat.le_of_ble_eq_true rfl) ?_
  intro p e s m args below meth c Q ls EE hl hret
  obtain ⟨hx, hb, hml, hown, hts, hG, hK⟩ := id EE
  have hS : sx_S g E E H0 H0 [] := sx_S.rf
  have hl : lv_has ls 5 [(0, .ref o), (1, .ref a0), (2, .ref a1), (3, .ref a2)] := hl
  refine lv_aload_n hx hb d_M_inverse_0 rfl (lv_at hl 0 rfl) ?_
  refine sx_get EE (hS.1.ob hE hM.1) rfl i_M 42 (by decide) rfl fl_M_129 rfl d_M_inverse_1 ?_
  refine lv_aload_n hx hb d_M_inverse_4 rfl (lv_at hl 2 rfl) ?_
  refine sx_gv (sx_runS (As := [.ref (r 42), .ref a1]) (rest := []) EE (c_M_copy (hS.a (mo_42 hM)) (mow_42 hW) (hS.a f1)) w_M_207 rfl ⟨rfl, rfl⟩ ⟨Nat.le_of_ble_eq_true rfl, Nat.le_of_ble_eq_true rfl⟩ ⟨Nat.zero_le _, Nat.zero_le _⟩ hl.1 rfl (Nat.le_of_ble_eq_true rfl) d_M_inverse_5) hS (fun H locs hS => ?_)
  refine lv_aload_n hx hb d_M_inverse_8 rfl (lv_at hl 0 rfl) ?_
  refine sx_get EE (hS.1.ob hE hM.1) rfl i_M 43 (by decide) rfl fl_M_132 rfl d_M_inverse_9 ?_
  refine lv_aload_n hx hb d_M_inverse_12 rfl (lv_at hl 3 rfl) ?_
  refine sx_gv (sx_runS (As := [.ref (r 43), .ref a2]) (rest := []) EE (c_M_copy (hS.a (mo_43 hM)) (mow_43 hW) (hS.a f2)) w_M_207 rfl ⟨rfl, rfl⟩ ⟨Nat.le_of_ble_eq_true rfl, Nat.le_of_ble_eq_true rfl⟩ ⟨Nat.zero_le _, Nat.zero_le _⟩ hl.1 rfl (Nat.le_of_ble_eq_true rfl) d_M_inverse_13) hS (fun H locs hS => ?_)
  refine lv_aload_n hx hb d_M_inverse_16 rfl (lv_at hl 0 rfl) ?_
  refine sx_get EE (hS.1.ob hE hM.1) rfl i_M 44 (by decide) rfl fl_M_135 rfl d_M_inverse_17 ?_
  refine lv_iconst (v := nI 1) hx hb d_M_inverse_20 (by decide +kernel) ?_
  refine sx_gv (sx_runS (As := [.ref (r 44), .int (nI (1))]) (rest := []) EE (c_M_set ((hS.a (mo_44 hM)).le (by decide)) (mow_44 hW)) w_M_177 rfl ⟨rfl, rfl⟩ ⟨Nat.le_of_ble_eq_true rfl, Nat.le_of_ble_eq_true rfl⟩ ⟨Nat.zero_le _, Nat.zero_le _⟩ hl.1 rfl (Nat.le_of_ble_eq_true rfl) d_M_inverse_21) hS (fun H locs hS => ?_)
  refine lv_aload_n hx hb d_M_inverse_24 rfl (lv_at hl 0 rfl) ?_
  refine sx_get EE (hS.1.ob hE hM.1) rfl i_M 45 (by decide) rfl fl_M_138 rfl d_M_inverse_25 ?_
  refine lv_iconst (v := nI 0) hx hb d_M_inverse_28 (by decide +kernel) ?_
  refine sx_gv (sx_runS (As := [.ref (r 45), .int (nI (0))]) (rest := []) EE (c_M_set ((hS.a (mo_45 hM)).le (by decide)) (mow_45 hW)) w_M_177 rfl ⟨rfl, rfl⟩ ⟨Nat.le_of_ble_eq_true rfl, Nat.le_of_ble_eq_true rfl⟩ ⟨Nat.zero_le _, Nat.zero_le _⟩ hl.1 rfl (Nat.le_of_ble_eq_true rfl) d_M_inverse_29) hS (fun H locs hS => ?_)
  refine lv_aload_n hx hb d_M_inverse_32 rfl (lv_at hl 0 rfl) ?_
  refine sx_get EE (hS.1.ob hE hM.1) rfl i_M 44 (by decide) rfl fl_M_135 rfl d_M_inverse_33 ?_
  refine lv_bipush (v := nI 16) hx hb d_M_inverse_36 (by decide +kernel) ?_
  refine lv_lconst (v := 0) hx hb d_M_inverse_38 (by decide +kernel) ?_
  refine sx_last hx hb hG hS (mo_44 hM) (mow_44 hW) (sx_in (by omega) (by decide)) d_M_inverse_39 (fun H locs hS => ?_)
  refine lv_aload_n hx hb d_M_inverse_40 rfl (lv_at hl 0 rfl) ?_
  refine sx_get EE (hS.1.ob hE hM.1) rfl i_M 45 (by decide) rfl fl_M_138 rfl d_M_inverse_41 ?_
  refine lv_bipush (v := nI 16) hx hb d_M_inverse_44 (by decide +kernel) ?_
  refine lv_lconst (v := 0) hx hb d_M_inverse_46 (by decide +kernel) ?_
  refine sx_last hx hb hG hS (mo_45 hM) (mow_45 hW) (sx_in (by omega) (by decide)) d_M_inverse_47 (fun H locs hS => ?_)
  refine lv_iconst (v := nI 0) hx hb d_M_inverse_48 (by decide +kernel) ?_
  refine lv_istore (lv' := [(4, .int (nI (0))), (0, .ref o), (1, .ref a0), (2, .ref a1), (3, .ref a2)]) hx hb d_M_inverse_49 hl (by decide) rfl (fun ls hl => ?_)
  have ex233_2 : ∀ (H : Heap) (locs : List Loc) (ls : Array Slot), sx_S g E E H0 H locs → lv_has ls 5 [(0, .ref o), (1, .ref a0), (2, .ref a1), (3, .ref a2)] → W p l e rm_M_inverse s m args below meth c H locs 0 0 Q (F0 m 233 ls []) := by
    intro  H locs ls  hS hl
    refine lv_aload_n hx hb d_M_inverse_233 rfl (lv_at hl 2 rfl) ?_
    refine sx_gn (sx_runS (As := [.ref a1]) (rest := []) EE (c_M_zero (hS.a f1)) w_M_228 rfl ⟨rfl, rfl⟩ ⟨Nat.le_of_ble_eq_true rfl, Nat.le_of_ble_eq_true rfl⟩ ⟨Nat.zero_le _, Nat.zero_le _⟩ hl.1 rfl (Nat.le_of_ble_eq_true rfl) d_M_inverse_234) hS (fun n4 h_n4 H locs hS => ?_)
    have h_n4 : n4 ≤ 1 := h_n4
    have jn273_7 : ∀ (H : Heap) (locs : List Loc) (ls : Array Slot), sx_S g E E H0 H locs → lv_has ls 5 [(0, .ref o), (1, .ref a0), (2, .ref a1), (3, .ref a2)] → W p l e rm_M_inverse s m args below meth c H locs 0 0 Q (F0 m 273 ls []) := by
      intro  H locs ls  hS hl
      exact hret _ _ _ _ hS d_M_inverse_273
    refine lv_if_eq (tgt := 248) hx hb d_M_inverse_237 (by decide) (fun q237 => ?_) (fun q237 => ?_)
    · skip
      have q237 : n4 = 0 := (nI_eq (a := n4) (b := 0) (by omega) (by omega)).mp q237
      refine lv_aload_n hx hb d_M_inverse_248 rfl (lv_at hl 1 rfl) ?_
      refine lv_aload_n hx hb d_M_inverse_249 rfl (lv_at hl 0 rfl) ?_
      refine sx_get EE (hS.1.ob hE hM.1) rfl i_M 42 (by decide) rfl fl_M_129 rfl d_M_inverse_250 ?_
      refine sx_gn (sx_runS (As := [.ref (r 42)]) (rest := [.ref a0]) EE (c_M_one (hS.a (mo_42 hM))) w_M_232 rfl ⟨rfl, rfl⟩ ⟨Nat.le_of_ble_eq_true rfl, Nat.le_of_ble_eq_true rfl⟩ ⟨Nat.zero_le _, Nat.zero_le _⟩ hl.1 rfl (Nat.le_of_ble_eq_true rfl) d_M_inverse_253) hS (fun n9 h_n9 H locs hS => ?_)
      have h_n9 : n9 ≤ 1 := h_n9
      have jn270_10 : ∀ (r10 : Nat) (H : Heap) (locs : List Loc) (ls : Array Slot), sx_A g .long H0 r10 17 → E r10 → sx_S g E E H0 H locs → lv_has ls 5 [(0, .ref o), (1, .ref a0), (2, .ref a1), (3, .ref a2)] → W p l e rm_M_inverse s m args below meth c H locs 0 0 Q (F0 m 270 ls [.ref r10, .ref a0]) := by
        intro r10 H locs ls f_r10 o_r10 hS hl
        refine sx_gv (sx_runS (As := [.ref a0, .ref r10]) (rest := []) EE (c_M_copy (hS.a f0) o0 ((hS.a f_r10).le (by decide))) w_M_207 rfl ⟨rfl, rfl⟩ ⟨Nat.le_of_ble_eq_true rfl, Nat.le_of_ble_eq_true rfl⟩ ⟨Nat.zero_le _, Nat.zero_le _⟩ hl.1 rfl (Nat.le_of_ble_eq_true rfl) d_M_inverse_270) hS (fun H locs hS => ?_)
        exact jn273_7  _ _ _  hS (lv_sub hl [0, 1, 2, 3] rfl)
      refine lv_if_eq (tgt := 266) hx hb d_M_inverse_256 (by decide) (fun q256 => ?_) (fun q256 => ?_)
      · skip
        have q256 : n9 = 0 := (nI_eq (a := n9) (b := 0) (by omega) (by omega)).mp q256
        refine lv_aload_n hx hb d_M_inverse_266 rfl (lv_at hl 0 rfl) ?_
        refine sx_get EE (hS.1.ob hE hM.1) rfl i_M 45 (by decide) rfl fl_M_138 rfl d_M_inverse_267 ?_
        exact jn270_10 (r 45) _ _ _ (mo_45 hM) (mow_45 hW) hS (lv_sub hl [0, 1, 2, 3] rfl)
      · skip
        have q256 : ¬ (n9 = 0) := fun z => q256 ((nI_eq (a := n9) (b := 0) (by omega) (by omega)).mpr z)
        refine lv_aload_n hx hb d_M_inverse_259 rfl (lv_at hl 0 rfl) ?_
        refine sx_get EE (hS.1.ob hE hM.1) rfl i_M 44 (by decide) rfl fl_M_135 rfl d_M_inverse_260 ?_
        refine lv_goto (tgt := 270) hx hb d_M_inverse_263 (by decide) ?_
        exact jn270_10 (r 44) _ _ _ (mo_44 hM) (mow_44 hW) hS (lv_sub hl [0, 1, 2, 3] rfl)
    · skip
      have q237 : ¬ (n4 = 0) := fun z => q237 ((nI_eq (a := n4) (b := 0) (by omega) (by omega)).mpr z)
      refine lv_aload_n hx hb d_M_inverse_240 rfl (lv_at hl 1 rfl) ?_
      refine lv_iconst (v := nI 0) hx hb d_M_inverse_241 (by decide +kernel) ?_
      refine sx_gv (sx_runS (As := [.ref a0, .int (nI (0))]) (rest := []) EE (c_M_set (hS.a f0) o0) w_M_177 rfl ⟨rfl, rfl⟩ ⟨Nat.le_of_ble_eq_true rfl, Nat.le_of_ble_eq_true rfl⟩ ⟨Nat.zero_le _, Nat.zero_le _⟩ hl.1 rfl (Nat.le_of_ble_eq_true rfl) d_M_inverse_242) hS (fun H locs hS => ?_)
      refine lv_goto (tgt := 273) hx hb d_M_inverse_245 (by decide) ?_
      exact jn273_7  _ _ _  hS (lv_sub hl [0, 1, 2, 3] rfl)
  have lp51 : ∀ (k i1 : Nat) (H : Heap) (locs : List Loc) (ls : Array Slot), i1 + k = 1100 → sx_S g E E H0 H locs → lv_has ls 5 [(4, .int (nI (i1))), (0, .ref o), (1, .ref a0), (2, .ref a1), (3, .ref a2)] → W p l e rm_M_inverse s m args below meth c H locs 0 0 Q (F0 m 51 ls []) := by
    intro k
    induction k with
    | zero =>
      intro i1  H locs ls hi  hS hl
      refine lv_iload hx hb d_M_inverse_51 (lv_at hl 0 rfl) ?_
      refine lv_sipush (v := nI 1100) hx hb d_M_inverse_53 (by decide +kernel) ?_
      refine lv_icmp_ge (tgt := 233) hx hb d_M_inverse_56 (by decide) (fun _ => ?_) (fun q => absurd (nI_le (by omega) (by omega)) q)
      exact ex233_2  _ _ _  hS (lv_sub hl [1, 2, 3, 4] rfl)
    | succ k ih51 =>
      intro i1  H locs ls hi  hS hl
      refine lv_iload hx hb d_M_inverse_51 (lv_at hl 0 rfl) ?_
      refine lv_sipush (v := nI 1100) hx hb d_M_inverse_53 (by decide +kernel) ?_
      refine lv_icmp_ge (tgt := 233) hx hb d_M_inverse_56 (by decide) (fun q => absurd q (nI_ge (by omega) (by omega))) (fun _ => ?_)
      refine lv_aload_n hx hb d_M_inverse_59 rfl (lv_at hl 3 rfl) ?_
      refine sx_gn (sx_runS (As := [.ref a1]) (rest := []) EE (c_M_zero (hS.a f1)) w_M_228 rfl ⟨rfl, rfl⟩ ⟨Nat.le_of_ble_eq_true rfl, Nat.le_of_ble_eq_true rfl⟩ ⟨Nat.zero_le _, Nat.zero_le _⟩ hl.1 rfl (Nat.le_of_ble_eq_true rfl) d_M_inverse_60) hS (fun n12 h_n12 H locs hS => ?_)
      have h_n12 : n12 ≤ 1 := h_n12
      refine lv_if_ne (tgt := 233) hx hb d_M_inverse_63 (by decide) (fun q63 => ?_) (fun q63 => ?_)
      · skip
        have q63 : ¬ (n12 = 0) := fun z => q63 ((nI_eq (a := n12) (b := 0) (by omega) (by omega)).mpr z)
        exact ex233_2  _ _ _  hS (lv_sub hl [1, 2, 3, 4] rfl)
      · skip
        have q63 : n12 = 0 := (nI_eq (a := n12) (b := 0) (by omega) (by omega)).mp q63
        refine lv_aload_n hx hb d_M_inverse_66 rfl (lv_at hl 1 rfl) ?_
        refine sx_get EE (hS.1.ob hE hM.1) rfl i_M 42 (by decide) rfl fl_M_129 rfl d_M_inverse_67 ?_
        refine sx_gn (sx_runS (As := [.ref (r 42)]) (rest := []) EE (c_M_one (hS.a (mo_42 hM))) w_M_232 rfl ⟨rfl, rfl⟩ ⟨Nat.le_of_ble_eq_true rfl, Nat.le_of_ble_eq_true rfl⟩ ⟨Nat.zero_le _, Nat.zero_le _⟩ hl.1 rfl (Nat.le_of_ble_eq_true rfl) d_M_inverse_70) hS (fun n13 h_n13 H locs hS => ?_)
        have h_n13 : n13 ≤ 1 := h_n13
        refine lv_if_ne (tgt := 233) hx hb d_M_inverse_73 (by decide) (fun q73 => ?_) (fun q73 => ?_)
        · skip
          have q73 : ¬ (n13 = 0) := fun z => q73 ((nI_eq (a := n13) (b := 0) (by omega) (by omega)).mpr z)
          exact ex233_2  _ _ _  hS (lv_sub hl [1, 2, 3, 4] rfl)
        · skip
          have q73 : n13 = 0 := (nI_eq (a := n13) (b := 0) (by omega) (by omega)).mp q73
          refine lv_aload_n hx hb d_M_inverse_76 rfl (lv_at hl 1 rfl) ?_
          refine sx_get EE (hS.1.ob hE hM.1) rfl i_M 43 (by decide) rfl fl_M_132 rfl d_M_inverse_77 ?_
          refine sx_gn (sx_runS (As := [.ref (r 43)]) (rest := []) EE (c_M_one (hS.a (mo_43 hM))) w_M_232 rfl ⟨rfl, rfl⟩ ⟨Nat.le_of_ble_eq_true rfl, Nat.le_of_ble_eq_true rfl⟩ ⟨Nat.zero_le _, Nat.zero_le _⟩ hl.1 rfl (Nat.le_of_ble_eq_true rfl) d_M_inverse_80) hS (fun n14 h_n14 H locs hS => ?_)
          have h_n14 : n14 ≤ 1 := h_n14
          refine lv_if_ne (tgt := 233) hx hb d_M_inverse_83 (by decide) (fun q83 => ?_) (fun q83 => ?_)
          · skip
            have q83 : ¬ (n14 = 0) := fun z => q83 ((nI_eq (a := n14) (b := 0) (by omega) (by omega)).mpr z)
            exact ex233_2  _ _ _  hS (lv_sub hl [1, 2, 3, 4] rfl)
          · skip
            have q83 : n14 = 0 := (nI_eq (a := n14) (b := 0) (by omega) (by omega)).mp q83
            refine lv_aload_n hx hb d_M_inverse_86 rfl (lv_at hl 1 rfl) ?_
            refine sx_get EE (hS.1.ob hE hM.1) rfl i_M 42 (by decide) rfl fl_M_129 rfl d_M_inverse_87 ?_
            refine lv_iconst (v := nI 0) hx hb d_M_inverse_90 (by decide +kernel) ?_
            refine sx_lald hx hb hG hS (mo_42 hM) (sx_in (by omega) (by decide)) d_M_inverse_91 (fun z15 => ?_)
            refine lv_lconst (v := 1) hx hb d_M_inverse_92 (by decide +kernel) ?_
            refine sx_land hx hb d_M_inverse_93 (fun z16 => ?_)
            refine lv_lconst (v := 0) hx hb d_M_inverse_94 (by decide +kernel) ?_
            refine sx_lcmp hx hb d_M_inverse_95 (fun z17 => ?_)
            have jn227_21 : ∀ (H : Heap) (locs : List Loc) (ls : Array Slot), sx_S g E E H0 H locs → lv_has ls 5 [(4, .int (nI (i1))), (0, .ref o), (1, .ref a0), (2, .ref a1), (3, .ref a2)] → W p l e rm_M_inverse s m args below meth c H locs 0 0 Q (F0 m 227 ls []) := by
              intro  H locs ls  hS hl
              refine lv_iinc (v := nI (i1 + 1)) (lv' := [(4, .int (nI (i1 + 1))), (0, .ref o), (1, .ref a0), (2, .ref a1), (3, .ref a2)]) hx hb d_M_inverse_227 hl (k := 0) rfl (sx_inc _ _) (by decide) rfl (fun ls hl => ?_)
              refine lv_goto (tgt := 51) hx hb d_M_inverse_230 (by decide) ?_
              exact ih51 (i1 + 1)  _ _ _ (by omega)  hS (lv_sub hl [0, 1, 2, 3, 4] rfl)
            refine lv_if_ne (tgt := 117) hx hb d_M_inverse_96 (by decide) (fun _ => ?_) (fun _ => ?_)
            · skip
              refine lv_aload_n hx hb d_M_inverse_117 rfl (lv_at hl 1 rfl) ?_
              refine sx_get EE (hS.1.ob hE hM.1) rfl i_M 43 (by decide) rfl fl_M_132 rfl d_M_inverse_118 ?_
              refine lv_iconst (v := nI 0) hx hb d_M_inverse_121 (by decide +kernel) ?_
              refine sx_lald hx hb hG hS (mo_43 hM) (sx_in (by omega) (by decide)) d_M_inverse_122 (fun z23 => ?_)
              refine lv_lconst (v := 1) hx hb d_M_inverse_123 (by decide +kernel) ?_
              refine sx_land hx hb d_M_inverse_124 (fun z24 => ?_)
              refine lv_lconst (v := 0) hx hb d_M_inverse_125 (by decide +kernel) ?_
              refine sx_lcmp hx hb d_M_inverse_126 (fun z25 => ?_)
              refine lv_if_ne (tgt := 148) hx hb d_M_inverse_127 (by decide) (fun _ => ?_) (fun _ => ?_)
              · skip
                refine lv_aload_n hx hb d_M_inverse_148 rfl (lv_at hl 1 rfl) ?_
                refine sx_get EE (hS.1.ob hE hM.1) rfl i_M 42 (by decide) rfl fl_M_129 rfl d_M_inverse_149 ?_
                refine lv_aload_n hx hb d_M_inverse_152 rfl (lv_at hl 1 rfl) ?_
                refine sx_get EE (hS.1.ob hE hM.1) rfl i_M 43 (by decide) rfl fl_M_132 rfl d_M_inverse_153 ?_
                refine sx_gn (sx_runS (As := [.ref (r 42), .ref (r 43)]) (rest := []) EE (c_M_below (hS.a (mo_42 hM)) (hS.a (mo_43 hM))) w_M_215 rfl ⟨rfl, rfl⟩ ⟨Nat.le_of_ble_eq_true rfl, Nat.le_of_ble_eq_true rfl⟩ ⟨Nat.zero_le _, Nat.zero_le _⟩ hl.1 rfl (Nat.le_of_ble_eq_true rfl) d_M_inverse_156) hS (fun n26 h_n26 H locs hS => ?_)
                have h_n26 : n26 ≤ 1 := h_n26
                refine lv_if_eq (tgt := 196) hx hb d_M_inverse_159 (by decide) (fun q159 => ?_) (fun q159 => ?_)
                · skip
                  have q159 : n26 = 0 := (nI_eq (a := n26) (b := 0) (by omega) (by omega)).mp q159
                  refine lv_aload_n hx hb d_M_inverse_196 rfl (lv_at hl 1 rfl) ?_
                  refine sx_get EE (hS.1.ob hE hM.1) rfl i_M 42 (by decide) rfl fl_M_129 rfl d_M_inverse_197 ?_
                  refine lv_aload_n hx hb d_M_inverse_200 rfl (lv_at hl 1 rfl) ?_
                  refine sx_get EE (hS.1.ob hE hM.1) rfl i_M 42 (by decide) rfl fl_M_129 rfl d_M_inverse_201 ?_
                  refine lv_aload_n hx hb d_M_inverse_204 rfl (lv_at hl 1 rfl) ?_
                  refine sx_get EE (hS.1.ob hE hM.1) rfl i_M 43 (by decide) rfl fl_M_132 rfl d_M_inverse_205 ?_
                  refine sx_gv (sx_runS (As := [.ref (r 42), .ref (r 42), .ref (r 43)]) (rest := []) EE (c_M_less (hS.a (mo_42 hM)) (mow_42 hW) (hS.a (mo_42 hM)) (hS.a (mo_43 hM))) w_M_219 rfl ⟨rfl, rfl⟩ ⟨Nat.le_of_ble_eq_true rfl, Nat.le_of_ble_eq_true rfl⟩ ⟨Nat.zero_le _, Nat.zero_le _⟩ hl.1 rfl (Nat.le_of_ble_eq_true rfl) d_M_inverse_208) hS (fun H locs hS => ?_)
                  refine lv_aload_n hx hb d_M_inverse_211 rfl (lv_at hl 1 rfl) ?_
                  refine sx_get EE (hS.1.ob hE hM.1) rfl i_M 44 (by decide) rfl fl_M_135 rfl d_M_inverse_212 ?_
                  refine lv_aload_n hx hb d_M_inverse_215 rfl (lv_at hl 1 rfl) ?_
                  refine sx_get EE (hS.1.ob hE hM.1) rfl i_M 44 (by decide) rfl fl_M_135 rfl d_M_inverse_216 ?_
                  refine lv_aload_n hx hb d_M_inverse_219 rfl (lv_at hl 1 rfl) ?_
                  refine sx_get EE (hS.1.ob hE hM.1) rfl i_M 45 (by decide) rfl fl_M_138 rfl d_M_inverse_220 ?_
                  refine lv_aload_n hx hb d_M_inverse_223 rfl (lv_at hl 4 rfl) ?_
                  refine sx_gv (sx_runS (As := [.ref (r 44), .ref (r 44), .ref (r 45), .ref a2]) (rest := []) EE (c_M_minus ((hS.a (mo_44 hM)).le (by decide)) (mow_44 hW) ((hS.a (mo_44 hM)).le (by decide)) ((hS.a (mo_45 hM)).le (by decide)) (hS.a f2)) w_M_192 rfl ⟨rfl, rfl⟩ ⟨Nat.le_of_ble_eq_true rfl, Nat.le_of_ble_eq_true rfl⟩ ⟨Nat.zero_le _, Nat.zero_le _⟩ hl.1 rfl (Nat.le_of_ble_eq_true rfl) d_M_inverse_224) hS (fun H locs hS => ?_)
                  exact jn227_21  _ _ _  hS (lv_sub hl [0, 1, 2, 3, 4] rfl)
                · skip
                  have q159 : ¬ (n26 = 0) := fun z => q159 ((nI_eq (a := n26) (b := 0) (by omega) (by omega)).mpr z)
                  refine lv_aload_n hx hb d_M_inverse_162 rfl (lv_at hl 1 rfl) ?_
                  refine sx_get EE (hS.1.ob hE hM.1) rfl i_M 43 (by decide) rfl fl_M_132 rfl d_M_inverse_163 ?_
                  refine lv_aload_n hx hb d_M_inverse_166 rfl (lv_at hl 1 rfl) ?_
                  refine sx_get EE (hS.1.ob hE hM.1) rfl i_M 43 (by decide) rfl fl_M_132 rfl d_M_inverse_167 ?_
                  refine lv_aload_n hx hb d_M_inverse_170 rfl (lv_at hl 1 rfl) ?_
                  refine sx_get EE (hS.1.ob hE hM.1) rfl i_M 42 (by decide) rfl fl_M_129 rfl d_M_inverse_171 ?_
                  refine sx_gv (sx_runS (As := [.ref (r 43), .ref (r 43), .ref (r 42)]) (rest := []) EE (c_M_less (hS.a (mo_43 hM)) (mow_43 hW) (hS.a (mo_43 hM)) (hS.a (mo_42 hM))) w_M_219 rfl ⟨rfl, rfl⟩ ⟨Nat.le_of_ble_eq_true rfl, Nat.le_of_ble_eq_true rfl⟩ ⟨Nat.zero_le _, Nat.zero_le _⟩ hl.1 rfl (Nat.le_of_ble_eq_true rfl) d_M_inverse_174) hS (fun H locs hS => ?_)
                  refine lv_aload_n hx hb d_M_inverse_177 rfl (lv_at hl 1 rfl) ?_
                  refine sx_get EE (hS.1.ob hE hM.1) rfl i_M 45 (by decide) rfl fl_M_138 rfl d_M_inverse_178 ?_
                  refine lv_aload_n hx hb d_M_inverse_181 rfl (lv_at hl 1 rfl) ?_
                  refine sx_get EE (hS.1.ob hE hM.1) rfl i_M 45 (by decide) rfl fl_M_138 rfl d_M_inverse_182 ?_
                  refine lv_aload_n hx hb d_M_inverse_185 rfl (lv_at hl 1 rfl) ?_
                  refine sx_get EE (hS.1.ob hE hM.1) rfl i_M 44 (by decide) rfl fl_M_135 rfl d_M_inverse_186 ?_
                  refine lv_aload_n hx hb d_M_inverse_189 rfl (lv_at hl 4 rfl) ?_
                  refine sx_gv (sx_runS (As := [.ref (r 45), .ref (r 45), .ref (r 44), .ref a2]) (rest := []) EE (c_M_minus ((hS.a (mo_45 hM)).le (by decide)) (mow_45 hW) ((hS.a (mo_45 hM)).le (by decide)) ((hS.a (mo_44 hM)).le (by decide)) (hS.a f2)) w_M_192 rfl ⟨rfl, rfl⟩ ⟨Nat.le_of_ble_eq_true rfl, Nat.le_of_ble_eq_true rfl⟩ ⟨Nat.zero_le _, Nat.zero_le _⟩ hl.1 rfl (Nat.le_of_ble_eq_true rfl) d_M_inverse_190) hS (fun H locs hS => ?_)
                  refine lv_goto (tgt := 227) hx hb d_M_inverse_193 (by decide) ?_
                  exact jn227_21  _ _ _  hS (lv_sub hl [0, 1, 2, 3, 4] rfl)
              · skip
                refine lv_aload_n hx hb d_M_inverse_130 rfl (lv_at hl 1 rfl) ?_
                refine sx_get EE (hS.1.ob hE hM.1) rfl i_M 43 (by decide) rfl fl_M_132 rfl d_M_inverse_131 ?_
                refine sx_gv (sx_runS (As := [.ref (r 43)]) (rest := []) EE (c_M_halve (hS.a (mo_43 hM)) (mow_43 hW)) w_M_234 rfl ⟨rfl, rfl⟩ ⟨Nat.le_of_ble_eq_true rfl, Nat.le_of_ble_eq_true rfl⟩ ⟨Nat.zero_le _, Nat.zero_le _⟩ hl.1 rfl (Nat.le_of_ble_eq_true rfl) d_M_inverse_134) hS (fun H locs hS => ?_)
                refine lv_aload_n hx hb d_M_inverse_137 rfl (lv_at hl 1 rfl) ?_
                refine sx_get EE (hS.1.ob hE hM.1) rfl i_M 45 (by decide) rfl fl_M_138 rfl d_M_inverse_138 ?_
                refine lv_aload_n hx hb d_M_inverse_141 rfl (lv_at hl 4 rfl) ?_
                refine sx_gv (sx_runS (As := [.ref (r 45), .ref a2]) (rest := []) EE (c_M_half (hS.a (mo_45 hM)) (mow_45 hW) (hS.a f2)) w_M_238 rfl ⟨rfl, rfl⟩ ⟨Nat.le_of_ble_eq_true rfl, Nat.le_of_ble_eq_true rfl⟩ ⟨Nat.zero_le _, Nat.zero_le _⟩ hl.1 rfl (Nat.le_of_ble_eq_true rfl) d_M_inverse_142) hS (fun H locs hS => ?_)
                refine lv_goto (tgt := 227) hx hb d_M_inverse_145 (by decide) ?_
                exact jn227_21  _ _ _  hS (lv_sub hl [0, 1, 2, 3, 4] rfl)
            · skip
              refine lv_aload_n hx hb d_M_inverse_99 rfl (lv_at hl 1 rfl) ?_
              refine sx_get EE (hS.1.ob hE hM.1) rfl i_M 42 (by decide) rfl fl_M_129 rfl d_M_inverse_100 ?_
              refine sx_gv (sx_runS (As := [.ref (r 42)]) (rest := []) EE (c_M_halve (hS.a (mo_42 hM)) (mow_42 hW)) w_M_234 rfl ⟨rfl, rfl⟩ ⟨Nat.le_of_ble_eq_true rfl, Nat.le_of_ble_eq_true rfl⟩ ⟨Nat.zero_le _, Nat.zero_le _⟩ hl.1 rfl (Nat.le_of_ble_eq_true rfl) d_M_inverse_103) hS (fun H locs hS => ?_)
              refine lv_aload_n hx hb d_M_inverse_106 rfl (lv_at hl 1 rfl) ?_
              refine sx_get EE (hS.1.ob hE hM.1) rfl i_M 44 (by decide) rfl fl_M_135 rfl d_M_inverse_107 ?_
              refine lv_aload_n hx hb d_M_inverse_110 rfl (lv_at hl 4 rfl) ?_
              refine sx_gv (sx_runS (As := [.ref (r 44), .ref a2]) (rest := []) EE (c_M_half (hS.a (mo_44 hM)) (mow_44 hW) (hS.a f2)) w_M_238 rfl ⟨rfl, rfl⟩ ⟨Nat.le_of_ble_eq_true rfl, Nat.le_of_ble_eq_true rfl⟩ ⟨Nat.zero_le _, Nat.zero_le _⟩ hl.1 rfl (Nat.le_of_ble_eq_true rfl) d_M_inverse_111) hS (fun H locs hS => ?_)
              refine lv_goto (tgt := 227) hx hb d_M_inverse_114 (by decide) ?_
              exact jn227_21  _ _ _  hS (lv_sub hl [0, 1, 2, 3, 4] rfl)
  exact lp51 (1100) 0  _ _ _ (by omega)  hS (lv_sub hl [0, 1, 2, 3, 4] rfl)
abbrev rm_M_power : Room := { frames := 3, cells := 0, slots := 0, locals := 85 }
set_option maxHeartbeats 4000000 in
set_option maxRecDepth 100000 in
theorem c_M_power {l : Launch} {D : va_G} {g : ClassId → FieldType → Prop} {E : Nat → Prop} {H0 : Heap} {o : Nat} {r : Nat → Nat} {i : Nat → Int32} {a0 : Nat} {a1 : Nat} {a2 : Nat} (hM : mo_ D g H0 o r i) (hE : ¬ E o) (hW : ∀ q ∈ mo_wr, E (r q.1)) (f0 : sx_A g .long H0 a0 16) (o0 : E a0) (f1 : sx_A g .long H0 a1 16) (f2 : sx_A g .long H0 a2 16) : Met l y_M_power (.code y_M_power b_M_power 5 none :: G_) rm_M_power (sx_Pc [.ref o, .ref a0, .ref a1, .ref a2] H0 D g) (sx_Qv g E H0) 0 0 E := by
  refine sx_mv (own := R_M) (by decide) rfl rfl rfl (Nat.le_of_ble_eq_true rfl) ?_
  intro p e s m args below meth c Q ls EE hl hret
  obtain ⟨hx, hb, hml, hown, hts, hG, hK⟩ := id EE
  have hS : sx_S g E E H0 H0 [] := sx_S.rf
  have hl : lv_has ls 5 [(0, .ref o), (1, .ref a0), (2, .ref a1), (3, .ref a2)] := hl
  refine lv_aload_n hx hb d_M_power_0 rfl (lv_at hl 0 rfl) ?_
  refine sx_get EE (hS.1.ob hE hM.1) rfl i_M 28 (by decide) rfl fl_M_82 rfl d_M_power_1 ?_
  refine lv_iconst (v := nI 1) hx hb d_M_power_4 (by decide +kernel) ?_
  refine sx_gv (sx_runS (As := [.ref (r 28), .int (nI (1))]) (rest := []) EE (c_M_set (hS.a (mo_28 hM)) (mow_28 hW)) w_M_177 rfl ⟨rfl, rfl⟩ ⟨Nat.le_of_ble_eq_true rfl, Nat.le_of_ble_eq_true rfl⟩ ⟨Nat.zero_le _, Nat.zero_le _⟩ hl.1 rfl (Nat.le_of_ble_eq_true rfl) d_M_power_5) hS (fun H locs hS => ?_)
  refine lv_sipush (v := nI 255) hx hb d_M_power_8 (by decide +kernel) ?_
  refine lv_istore (lv' := [(4, .int (nI (255))), (0, .ref o), (1, .ref a0), (2, .ref a1), (3, .ref a2)]) hx hb d_M_power_11 hl (by decide) rfl (fun ls hl => ?_)
  have lp13 : ∀ (i1 : Nat) (xi1 : Int32) (H : Heap) (locs : List Loc) (ls : Array Slot), xi1 = nI i1 - 1 → i1 ≤ 255 + 1 → sx_S g E E H0 H locs → lv_has ls 5 [(4, .int xi1), (0, .ref o), (1, .ref a0), (2, .ref a1), (3, .ref a2)] → W p l e rm_M_power s m args below meth c H locs 0 0 Q (F0 m 13 ls []) := by
    intro i1
    induction i1 with
    | zero =>
      intro xi1  H locs ls ex hi  hS hl
      refine lv_iload hx hb d_M_power_13 (lv_at hl 0 rfl) ?_
      refine lv_if_lt (tgt := 79) hx hb d_M_power_15 (by decide) (fun _ => ?_) (fun q => absurd (by rw [ex]; decide +kernel) q)
      refine lv_aload_n hx hb d_M_power_79 rfl (lv_at hl 2 rfl) ?_
      refine lv_aload_n hx hb d_M_power_80 rfl (lv_at hl 1 rfl) ?_
      refine sx_get EE (hS.1.ob hE hM.1) rfl i_M 28 (by decide) rfl fl_M_82 rfl d_M_power_81 ?_
      refine sx_gv (sx_runS (As := [.ref a0, .ref (r 28)]) (rest := []) EE (c_M_copy (hS.a f0) o0 (hS.a (mo_28 hM))) w_M_207 rfl ⟨rfl, rfl⟩ ⟨Nat.le_of_ble_eq_true rfl, Nat.le_of_ble_eq_true rfl⟩ ⟨Nat.zero_le _, Nat.zero_le _⟩ hl.1 rfl (Nat.le_of_ble_eq_true rfl) d_M_power_84) hS (fun H locs hS => ?_)
      exact hret _ _ _ _ hS d_M_power_87
    | succ i1 ih13 =>
      intro xi1  H locs ls ex hi  hS hl
      rw [nI_pred] at ex
      subst ex
      refine lv_iload hx hb d_M_power_13 (lv_at hl 0 rfl) ?_
      refine lv_if_lt (tgt := 79) hx hb d_M_power_15 (by decide) (fun q => absurd q (nI_pos (by omega))) (fun _ => ?_)
      refine lv_aload_n hx hb d_M_power_18 rfl (lv_at hl 1 rfl) ?_
      refine lv_aload_n hx hb d_M_power_19 rfl (lv_at hl 1 rfl) ?_
      refine sx_get EE (hS.1.ob hE hM.1) rfl i_M 28 (by decide) rfl fl_M_82 rfl d_M_power_20 ?_
      refine lv_aload_n hx hb d_M_power_23 rfl (lv_at hl 1 rfl) ?_
      refine sx_get EE (hS.1.ob hE hM.1) rfl i_M 28 (by decide) rfl fl_M_82 rfl d_M_power_24 ?_
      refine lv_aload_n hx hb d_M_power_27 rfl (lv_at hl 1 rfl) ?_
      refine sx_get EE (hS.1.ob hE hM.1) rfl i_M 28 (by decide) rfl fl_M_82 rfl d_M_power_28 ?_
      refine lv_aload_n hx hb d_M_power_31 rfl (lv_at hl 1 rfl) ?_
      refine sx_get EE (hS.1.ob hE hM.1) rfl i_M 10 (by decide) rfl fl_M_27 rfl d_M_power_32 ?_
      refine lv_aload_n hx hb d_M_power_35 rfl (lv_at hl 1 rfl) ?_
      refine sx_get EE (hS.1.ob hE hM.1) rfl i_M 11 (by decide) rfl fl_M_31 rfl d_M_power_36 ?_
      refine sx_gv (sx_runV (As := [.ref (r 28), .ref (r 28), .ref (r 28), .ref (r 10), .ref (r 11)]) (rest := []) EE (hS.1.ob hE hM.1) rfl rfl (c_M_times (hM.kept hS.1 hE) hE hW (hS.a (mo_28 hM)) (mow_28 hW) (hS.a (mo_28 hM)) (hS.a (mo_28 hM)) (hS.a (mo_10 hM)) (hS.a (mo_11 hM))) w_M_188 rfl ⟨rfl, rfl⟩ ⟨Nat.le_of_ble_eq_true rfl, Nat.le_of_ble_eq_true rfl⟩ ⟨Nat.zero_le _, Nat.zero_le _⟩ hl.1 rfl (Nat.le_of_ble_eq_true rfl) d_M_power_39) hS (fun H locs hS => ?_)
      refine lv_aload_n hx hb d_M_power_42 rfl (lv_at hl 4 rfl) ?_
      refine lv_iload hx hb d_M_power_43 (lv_at hl 0 rfl) ?_
      refine sx_gi (sx_runS (As := [.ref a2, .int (nI (i1))]) (rest := []) EE (c_M_bit (hS.a f2) (by omega)) w_M_273 rfl ⟨rfl, rfl⟩ ⟨Nat.le_of_ble_eq_true rfl, Nat.le_of_ble_eq_true rfl⟩ ⟨Nat.zero_le _, Nat.zero_le _⟩ hl.1 rfl (Nat.le_of_ble_eq_true rfl) d_M_power_45) hS (fun x2 H locs hS => ?_)
      refine lv_iconst (v := nI 1) hx hb d_M_power_48 (by decide +kernel) ?_
      have jn73_2 : ∀ (H : Heap) (locs : List Loc) (ls : Array Slot), sx_S g E E H0 H locs → lv_has ls 5 [(4, .int (nI (i1))), (0, .ref o), (1, .ref a0), (2, .ref a1), (3, .ref a2)] → W p l e rm_M_power s m args below meth c H locs 0 0 Q (F0 m 73 ls []) := by
        intro  H locs ls  hS hl
        refine lv_iinc (v := nI i1 - 1) (lv' := [(4, .int (nI i1 - 1)), (0, .ref o), (1, .ref a0), (2, .ref a1), (3, .ref a2)]) hx hb d_M_power_73 hl (k := 0) rfl (sx_dn _) (by decide) rfl (fun ls hl => ?_)
        refine lv_goto (tgt := 13) hx hb d_M_power_76 (by decide) ?_
        exact ih13 _  _ _ _ rfl (by omega)  hS (lv_sub hl [0, 1, 2, 3, 4] rfl)
      refine lv_icmp_ne (tgt := 73) hx hb d_M_power_49 (by decide) (fun _ => ?_) (fun _ => ?_)
      · skip
        exact jn73_2  _ _ _  hS (lv_sub hl [0, 1, 2, 3, 4] rfl)
      · skip
        refine lv_aload_n hx hb d_M_power_52 rfl (lv_at hl 1 rfl) ?_
        refine lv_aload_n hx hb d_M_power_53 rfl (lv_at hl 1 rfl) ?_
        refine sx_get EE (hS.1.ob hE hM.1) rfl i_M 28 (by decide) rfl fl_M_82 rfl d_M_power_54 ?_
        refine lv_aload_n hx hb d_M_power_57 rfl (lv_at hl 1 rfl) ?_
        refine sx_get EE (hS.1.ob hE hM.1) rfl i_M 28 (by decide) rfl fl_M_82 rfl d_M_power_58 ?_
        refine lv_aload_n hx hb d_M_power_61 rfl (lv_at hl 3 rfl) ?_
        refine lv_aload_n hx hb d_M_power_62 rfl (lv_at hl 1 rfl) ?_
        refine sx_get EE (hS.1.ob hE hM.1) rfl i_M 10 (by decide) rfl fl_M_27 rfl d_M_power_63 ?_
        refine lv_aload_n hx hb d_M_power_66 rfl (lv_at hl 1 rfl) ?_
        refine sx_get EE (hS.1.ob hE hM.1) rfl i_M 11 (by decide) rfl fl_M_31 rfl d_M_power_67 ?_
        refine sx_gv (sx_runV (As := [.ref (r 28), .ref (r 28), .ref a1, .ref (r 10), .ref (r 11)]) (rest := []) EE (hS.1.ob hE hM.1) rfl rfl (c_M_times (hM.kept hS.1 hE) hE hW (hS.a (mo_28 hM)) (mow_28 hW) (hS.a (mo_28 hM)) (hS.a f1) (hS.a (mo_10 hM)) (hS.a (mo_11 hM))) w_M_188 rfl ⟨rfl, rfl⟩ ⟨Nat.le_of_ble_eq_true rfl, Nat.le_of_ble_eq_true rfl⟩ ⟨Nat.zero_le _, Nat.zero_le _⟩ hl.1 rfl (Nat.le_of_ble_eq_true rfl) d_M_power_70) hS (fun H locs hS => ?_)
        exact jn73_2  _ _ _  hS (lv_sub hl [0, 1, 2, 3, 4] rfl)
  exact lp13 256 _  _ _ _ (nI_pred _).symm (by omega)  hS (lv_sub hl [0, 1, 2, 3, 4] rfl)
