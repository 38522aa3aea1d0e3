abbrev rm_M_decode : Room := { frames := 4, cells := 0, slots := 0, locals := 109 }
set_option maxHeartbeats 4000000 in
set_option maxRecDepth 100000 in
theorem c_M_decode {l : Launch} {D : va_G} {g : ClassId → FieldType → Prop} {E : Nat → Prop} {H0 : Heap} {o : Nat} {r : Nat → Nat} {i : Nat → Int32} (hM : mo_ D g H0 o r i) (hE : ¬ E o) (hW : ∀ q ∈ mo_wr, E (r q.1)) : Met l y_M_decode (.code y_M_decode b_M_decode 2 (some .boolean) :: G_) rm_M_decode (sx_Pc [.ref o] H0 D g) (sx_Qz g E H0) 0 0 E := by
  refine sx_mz (own := R_M) (by decide) rfl rfl rfl (Nat.le_of_ble_eq_true rfl) ?_
  intro p e s m args below meth c Q ls EE hl hret
  obtain ⟨hx, hb, hml, hown, hts, hG, hK⟩ := id EE
  have hS : sx_S g E E H0 H0 [] := sx_S.rf
  have hl : lv_has ls 2 [(0, .ref o)] := hl
  refine lv_iconst (v := nI 0) hx hb d_M_decode_0 (by decide +kernel) ?_
  refine lv_istore_n (lv' := [(1, .int (nI (0))), (0, .ref o)]) hx hb d_M_decode_1 rfl hl (by decide) rfl (fun ls hl => ?_)
  have lp2 : ∀ (k i1 : Nat) (H : Heap) (locs : List Loc) (ls : Array Slot), i1 + k = 16 → sx_S g E E H0 H locs → lv_has ls 2 [(1, .int (nI (i1))), (0, .ref o)] → W p l e rm_M_decode s m args below meth c H locs 0 0 Q (F0 m 2 ls []) := by
    intro k
    induction k with
    | zero =>
      intro i1  H locs ls hi  hS hl
      refine lv_iload_n hx hb d_M_decode_2 rfl (lv_at hl 0 rfl) ?_
      refine lv_bipush (v := nI 16) hx hb d_M_decode_3 (by decide +kernel) ?_
      refine lv_icmp_ge (tgt := 70) hx hb d_M_decode_5 (by decide) (fun _ => ?_) (fun q => absurd (nI_le (by omega) (by omega)) q)
      refine lv_aload_n hx hb d_M_decode_70 rfl (lv_at hl 1 rfl) ?_
      refine sx_get EE (hS.1.ob hE hM.1) rfl i_M 21 (by decide) rfl fl_M_61 rfl d_M_decode_71 ?_
      refine lv_aload_n hx hb d_M_decode_74 rfl (lv_at hl 1 rfl) ?_
      refine sx_get EE (hS.1.ob hE hM.1) rfl i_M 10 (by decide) rfl fl_M_27 rfl d_M_decode_75 ?_
      refine sx_gn (sx_runS (As := [.ref (r 21), .ref (r 10)]) (rest := []) EE (c_M_below (hS.a (mo_21 hM)) (hS.a (mo_10 hM))) w_M_215 rfl ⟨rfl, rfl⟩ ⟨Nat.le_of_ble_eq_true rfl, Nat.le_of_ble_eq_true rfl⟩ ⟨Nat.zero_le _, Nat.zero_le _⟩ hl.1 rfl (Nat.le_of_ble_eq_true rfl) d_M_decode_78) hS (fun n2 h_n2 H locs hS => ?_)
      have h_n2 : n2 ≤ 1 := h_n2
      refine lv_if_ne (tgt := 86) hx hb d_M_decode_81 (by decide) (fun q81 => ?_) (fun q81 => ?_)
      · skip
        have q81 : ¬ (n2 = 0) := fun z => q81 ((nI_eq (a := n2) (b := 0) (by omega) (by omega)).mpr z)
        refine lv_aload_n hx hb d_M_decode_86 rfl (lv_at hl 1 rfl) ?_
        refine lv_aload_n hx hb d_M_decode_87 rfl (lv_at hl 1 rfl) ?_
        refine sx_get EE (hS.1.ob hE hM.1) rfl i_M 24 (by decide) rfl fl_M_70 rfl d_M_decode_88 ?_
        refine lv_aload_n hx hb d_M_decode_91 rfl (lv_at hl 1 rfl) ?_
        refine sx_get EE (hS.1.ob hE hM.1) rfl i_M 21 (by decide) rfl fl_M_61 rfl d_M_decode_92 ?_
        refine lv_aload_n hx hb d_M_decode_95 rfl (lv_at hl 1 rfl) ?_
        refine sx_get EE (hS.1.ob hE hM.1) rfl i_M 21 (by decide) rfl fl_M_61 rfl d_M_decode_96 ?_
        refine lv_aload_n hx hb d_M_decode_99 rfl (lv_at hl 1 rfl) ?_
        refine sx_get EE (hS.1.ob hE hM.1) rfl i_M 10 (by decide) rfl fl_M_27 rfl d_M_decode_100 ?_
        refine lv_aload_n hx hb d_M_decode_103 rfl (lv_at hl 1 rfl) ?_
        refine sx_get EE (hS.1.ob hE hM.1) rfl i_M 11 (by decide) rfl fl_M_31 rfl d_M_decode_104 ?_
        refine sx_gv (sx_runV (As := [.ref (r 24), .ref (r 21), .ref (r 21), .ref (r 10), .ref (r 11)]) (rest := []) EE (hS.1.ob hE hM.1) rfl rfl (c_M_times (hM.kept hS.1 hE) hE hW (hS.a (mo_24 hM)) (mow_24 hW) (hS.a (mo_21 hM)) (hS.a (mo_21 hM)) (hS.a (mo_10 hM)) (hS.a (mo_11 hM))) w_M_188 rfl ⟨rfl, rfl⟩ ⟨Nat.le_of_ble_eq_true rfl, Nat.le_of_ble_eq_true rfl⟩ ⟨Nat.zero_le _, Nat.zero_le _⟩ hl.1 rfl (Nat.le_of_ble_eq_true rfl) d_M_decode_107) hS (fun H locs hS => ?_)
        refine lv_aload_n hx hb d_M_decode_110 rfl (lv_at hl 1 rfl) ?_
        refine lv_aload_n hx hb d_M_decode_111 rfl (lv_at hl 1 rfl) ?_
        refine sx_get EE (hS.1.ob hE hM.1) rfl i_M 25 (by decide) rfl fl_M_73 rfl d_M_decode_112 ?_
        refine lv_aload_n hx hb d_M_decode_115 rfl (lv_at hl 1 rfl) ?_
        refine sx_get EE (hS.1.ob hE hM.1) rfl i_M 24 (by decide) rfl fl_M_70 rfl d_M_decode_116 ?_
        refine lv_aload_n hx hb d_M_decode_119 rfl (lv_at hl 1 rfl) ?_
        refine sx_get EE (hS.1.ob hE hM.1) rfl i_M 14 (by decide) rfl fl_M_40 rfl d_M_decode_120 ?_
        refine lv_aload_n hx hb d_M_decode_123 rfl (lv_at hl 1 rfl) ?_
        refine sx_get EE (hS.1.ob hE hM.1) rfl i_M 10 (by decide) rfl fl_M_27 rfl d_M_decode_124 ?_
        refine lv_aload_n hx hb d_M_decode_127 rfl (lv_at hl 1 rfl) ?_
        refine sx_get EE (hS.1.ob hE hM.1) rfl i_M 11 (by decide) rfl fl_M_31 rfl d_M_decode_128 ?_
        refine sx_gv (sx_runV (As := [.ref (r 25), .ref (r 24), .ref (r 14), .ref (r 10), .ref (r 11)]) (rest := []) EE (hS.1.ob hE hM.1) rfl rfl (c_M_times (hM.kept hS.1 hE) hE hW (hS.a (mo_25 hM)) (mow_25 hW) (hS.a (mo_24 hM)) (hS.a (mo_14 hM)) (hS.a (mo_10 hM)) (hS.a (mo_11 hM))) w_M_188 rfl ⟨rfl, rfl⟩ ⟨Nat.le_of_ble_eq_true rfl, Nat.le_of_ble_eq_true rfl⟩ ⟨Nat.zero_le _, Nat.zero_le _⟩ hl.1 rfl (Nat.le_of_ble_eq_true rfl) d_M_decode_131) hS (fun H locs hS => ?_)
        refine lv_aload_n hx hb d_M_decode_134 rfl (lv_at hl 1 rfl) ?_
        refine sx_get EE (hS.1.ob hE hM.1) rfl i_M 24 (by decide) rfl fl_M_70 rfl d_M_decode_135 ?_
        refine lv_aload_n hx hb d_M_decode_138 rfl (lv_at hl 1 rfl) ?_
        refine sx_get EE (hS.1.ob hE hM.1) rfl i_M 24 (by decide) rfl fl_M_70 rfl d_M_decode_139 ?_
        refine lv_aload_n hx hb d_M_decode_142 rfl (lv_at hl 1 rfl) ?_
        refine sx_get EE (hS.1.ob hE hM.1) rfl i_M 30 (by decide) rfl fl_M_88 rfl d_M_decode_143 ?_
        refine lv_aload_n hx hb d_M_decode_146 rfl (lv_at hl 1 rfl) ?_
        refine sx_get EE (hS.1.ob hE hM.1) rfl i_M 10 (by decide) rfl fl_M_27 rfl d_M_decode_147 ?_
        refine sx_gv (sx_runS (As := [.ref (r 24), .ref (r 24), .ref (r 30), .ref (r 10)]) (rest := []) EE (c_M_minus (hS.a (mo_24 hM)) (mow_24 hW) (hS.a (mo_24 hM)) (hS.a (mo_30 hM)) (hS.a (mo_10 hM))) w_M_192 rfl ⟨rfl, rfl⟩ ⟨Nat.le_of_ble_eq_true rfl, Nat.le_of_ble_eq_true rfl⟩ ⟨Nat.zero_le _, Nat.zero_le _⟩ hl.1 rfl (Nat.le_of_ble_eq_true rfl) d_M_decode_150) hS (fun H locs hS => ?_)
        refine lv_aload_n hx hb d_M_decode_153 rfl (lv_at hl 1 rfl) ?_
        refine sx_get EE (hS.1.ob hE hM.1) rfl i_M 25 (by decide) rfl fl_M_73 rfl d_M_decode_154 ?_
        refine lv_aload_n hx hb d_M_decode_157 rfl (lv_at hl 1 rfl) ?_
        refine sx_get EE (hS.1.ob hE hM.1) rfl i_M 25 (by decide) rfl fl_M_73 rfl d_M_decode_158 ?_
        refine lv_aload_n hx hb d_M_decode_161 rfl (lv_at hl 1 rfl) ?_
        refine sx_get EE (hS.1.ob hE hM.1) rfl i_M 30 (by decide) rfl fl_M_88 rfl d_M_decode_162 ?_
        refine lv_aload_n hx hb d_M_decode_165 rfl (lv_at hl 1 rfl) ?_
        refine sx_get EE (hS.1.ob hE hM.1) rfl i_M 10 (by decide) rfl fl_M_27 rfl d_M_decode_166 ?_
        refine sx_gv (sx_runS (As := [.ref (r 25), .ref (r 25), .ref (r 30), .ref (r 10)]) (rest := []) EE (c_M_plus (hS.a (mo_25 hM)) (mow_25 hW) (hS.a (mo_25 hM)) (hS.a (mo_30 hM)) (hS.a (mo_10 hM))) w_M_222 rfl ⟨rfl, rfl⟩ ⟨Nat.le_of_ble_eq_true rfl, Nat.le_of_ble_eq_true rfl⟩ ⟨Nat.zero_le _, Nat.zero_le _⟩ hl.1 rfl (Nat.le_of_ble_eq_true rfl) d_M_decode_169) hS (fun H locs hS => ?_)
        refine lv_aload_n hx hb d_M_decode_172 rfl (lv_at hl 1 rfl) ?_
        refine lv_aload_n hx hb d_M_decode_173 rfl (lv_at hl 1 rfl) ?_
        refine sx_get EE (hS.1.ob hE hM.1) rfl i_M 26 (by decide) rfl fl_M_76 rfl d_M_decode_174 ?_
        refine lv_aload_n hx hb d_M_decode_177 rfl (lv_at hl 1 rfl) ?_
        refine sx_get EE (hS.1.ob hE hM.1) rfl i_M 25 (by decide) rfl fl_M_73 rfl d_M_decode_178 ?_
        refine lv_aload_n hx hb d_M_decode_181 rfl (lv_at hl 1 rfl) ?_
        refine sx_get EE (hS.1.ob hE hM.1) rfl i_M 10 (by decide) rfl fl_M_27 rfl d_M_decode_182 ?_
        refine sx_gv (sx_runV (As := [.ref (r 26), .ref (r 25), .ref (r 10)]) (rest := []) EE (hS.1.ob hE hM.1) rfl rfl (c_M_inverse (hM.kept hS.1 hE) hE hW (hS.a (mo_26 hM)) (mow_26 hW) (hS.a (mo_25 hM)) (hS.a (mo_10 hM))) w_M_185 rfl ⟨rfl, rfl⟩ ⟨Nat.le_of_ble_eq_true rfl, Nat.le_of_ble_eq_true rfl⟩ ⟨Nat.zero_le _, Nat.zero_le _⟩ hl.1 rfl (Nat.le_of_ble_eq_true rfl) d_M_decode_185) hS (fun H locs hS => ?_)
        refine lv_aload_n hx hb d_M_decode_188 rfl (lv_at hl 1 rfl) ?_
        refine lv_aload_n hx hb d_M_decode_189 rfl (lv_at hl 1 rfl) ?_
        refine sx_get EE (hS.1.ob hE hM.1) rfl i_M 24 (by decide) rfl fl_M_70 rfl d_M_decode_190 ?_
        refine lv_aload_n hx hb d_M_decode_193 rfl (lv_at hl 1 rfl) ?_
        refine sx_get EE (hS.1.ob hE hM.1) rfl i_M 24 (by decide) rfl fl_M_70 rfl d_M_decode_194 ?_
        refine lv_aload_n hx hb d_M_decode_197 rfl (lv_at hl 1 rfl) ?_
        refine sx_get EE (hS.1.ob hE hM.1) rfl i_M 26 (by decide) rfl fl_M_76 rfl d_M_decode_198 ?_
        refine lv_aload_n hx hb d_M_decode_201 rfl (lv_at hl 1 rfl) ?_
        refine sx_get EE (hS.1.ob hE hM.1) rfl i_M 10 (by decide) rfl fl_M_27 rfl d_M_decode_202 ?_
        refine lv_aload_n hx hb d_M_decode_205 rfl (lv_at hl 1 rfl) ?_
        refine sx_get EE (hS.1.ob hE hM.1) rfl i_M 11 (by decide) rfl fl_M_31 rfl d_M_decode_206 ?_
        refine sx_gv (sx_runV (As := [.ref (r 24), .ref (r 24), .ref (r 26), .ref (r 10), .ref (r 11)]) (rest := []) EE (hS.1.ob hE hM.1) rfl rfl (c_M_times (hM.kept hS.1 hE) hE hW (hS.a (mo_24 hM)) (mow_24 hW) (hS.a (mo_24 hM)) (hS.a (mo_26 hM)) (hS.a (mo_10 hM)) (hS.a (mo_11 hM))) w_M_188 rfl ⟨rfl, rfl⟩ ⟨Nat.le_of_ble_eq_true rfl, Nat.le_of_ble_eq_true rfl⟩ ⟨Nat.zero_le _, Nat.zero_le _⟩ hl.1 rfl (Nat.le_of_ble_eq_true rfl) d_M_decode_209) hS (fun H locs hS => ?_)
        refine lv_iconst (v := nI 0) hx hb d_M_decode_212 (by decide +kernel) ?_
        refine lv_istore_n (lv' := [(1, .int (nI (0))), (0, .ref o)]) hx hb d_M_decode_213 rfl hl (by decide) rfl (fun ls hl => ?_)
        have lp214 : ∀ (k i3 : Nat) (H : Heap) (locs : List Loc) (ls : Array Slot), i3 + k = 16 → sx_S g E E H0 H locs → lv_has ls 2 [(1, .int (nI (i3))), (0, .ref o)] → W p l e rm_M_decode s m args below meth c H locs 0 0 Q (F0 m 214 ls []) := by
          intro k
          induction k with
          | zero =>
            intro i3  H locs ls hi  hS hl
            refine lv_iload_n hx hb d_M_decode_214 rfl (lv_at hl 0 rfl) ?_
            refine lv_bipush (v := nI 16) hx hb d_M_decode_215 (by decide +kernel) ?_
            refine lv_icmp_ge (tgt := 257) hx hb d_M_decode_217 (by decide) (fun _ => ?_) (fun q => absurd (nI_le (by omega) (by omega)) q)
            refine lv_aload_n hx hb d_M_decode_257 rfl (lv_at hl 1 rfl) ?_
            refine lv_aload_n hx hb d_M_decode_258 rfl (lv_at hl 1 rfl) ?_
            refine sx_get EE (hS.1.ob hE hM.1) rfl i_M 20 (by decide) rfl fl_M_58 rfl d_M_decode_259 ?_
            refine lv_aload_n hx hb d_M_decode_262 rfl (lv_at hl 1 rfl) ?_
            refine sx_get EE (hS.1.ob hE hM.1) rfl i_M 24 (by decide) rfl fl_M_70 rfl d_M_decode_263 ?_
            refine lv_aload_n hx hb d_M_decode_266 rfl (lv_at hl 1 rfl) ?_
            refine sx_get EE (hS.1.ob hE hM.1) rfl i_M 27 (by decide) rfl fl_M_79 rfl d_M_decode_267 ?_
            refine sx_gv (sx_runV (As := [.ref (r 20), .ref (r 24), .ref (r 27)]) (rest := []) EE (hS.1.ob hE hM.1) rfl rfl (c_M_power (hM.kept hS.1 hE) hE hW (hS.a (mo_20 hM)) (mow_20 hW) (hS.a (mo_24 hM)) (hS.a (mo_27 hM))) w_M_200 rfl ⟨rfl, rfl⟩ ⟨Nat.le_of_ble_eq_true rfl, Nat.le_of_ble_eq_true rfl⟩ ⟨Nat.zero_le _, Nat.zero_le _⟩ hl.1 rfl (Nat.le_of_ble_eq_true rfl) d_M_decode_270) hS (fun H locs hS => ?_)
            refine lv_aload_n hx hb d_M_decode_273 rfl (lv_at hl 1 rfl) ?_
            refine lv_aload_n hx hb d_M_decode_274 rfl (lv_at hl 1 rfl) ?_
            refine sx_get EE (hS.1.ob hE hM.1) rfl i_M 26 (by decide) rfl fl_M_76 rfl d_M_decode_275 ?_
            refine lv_aload_n hx hb d_M_decode_278 rfl (lv_at hl 1 rfl) ?_
            refine sx_get EE (hS.1.ob hE hM.1) rfl i_M 20 (by decide) rfl fl_M_58 rfl d_M_decode_279 ?_
            refine lv_aload_n hx hb d_M_decode_282 rfl (lv_at hl 1 rfl) ?_
            refine sx_get EE (hS.1.ob hE hM.1) rfl i_M 20 (by decide) rfl fl_M_58 rfl d_M_decode_283 ?_
            refine lv_aload_n hx hb d_M_decode_286 rfl (lv_at hl 1 rfl) ?_
            refine sx_get EE (hS.1.ob hE hM.1) rfl i_M 10 (by decide) rfl fl_M_27 rfl d_M_decode_287 ?_
            refine lv_aload_n hx hb d_M_decode_290 rfl (lv_at hl 1 rfl) ?_
            refine sx_get EE (hS.1.ob hE hM.1) rfl i_M 11 (by decide) rfl fl_M_31 rfl d_M_decode_291 ?_
            refine sx_gv (sx_runV (As := [.ref (r 26), .ref (r 20), .ref (r 20), .ref (r 10), .ref (r 11)]) (rest := []) EE (hS.1.ob hE hM.1) rfl rfl (c_M_times (hM.kept hS.1 hE) hE hW (hS.a (mo_26 hM)) (mow_26 hW) (hS.a (mo_20 hM)) (hS.a (mo_20 hM)) (hS.a (mo_10 hM)) (hS.a (mo_11 hM))) w_M_188 rfl ⟨rfl, rfl⟩ ⟨Nat.le_of_ble_eq_true rfl, Nat.le_of_ble_eq_true rfl⟩ ⟨Nat.zero_le _, Nat.zero_le _⟩ hl.1 rfl (Nat.le_of_ble_eq_true rfl) d_M_decode_294) hS (fun H locs hS => ?_)
            refine lv_aload_n hx hb d_M_decode_297 rfl (lv_at hl 1 rfl) ?_
            refine sx_get EE (hS.1.ob hE hM.1) rfl i_M 26 (by decide) rfl fl_M_76 rfl d_M_decode_298 ?_
            refine lv_aload_n hx hb d_M_decode_301 rfl (lv_at hl 1 rfl) ?_
            refine sx_get EE (hS.1.ob hE hM.1) rfl i_M 24 (by decide) rfl fl_M_70 rfl d_M_decode_302 ?_
            refine sx_gn (sx_runS (As := [.ref (r 26), .ref (r 24)]) (rest := []) EE (c_M_alike (hS.a (mo_26 hM)) (hS.a (mo_24 hM))) w_M_281 rfl ⟨rfl, rfl⟩ ⟨Nat.le_of_ble_eq_true rfl, Nat.le_of_ble_eq_true rfl⟩ ⟨Nat.zero_le _, Nat.zero_le _⟩ hl.1 rfl (Nat.le_of_ble_eq_true rfl) d_M_decode_305) hS (fun n4 h_n4 H locs hS => ?_)
            have h_n4 : n4 ≤ 1 := h_n4
            have jn335_4 : ∀ (H : Heap) (locs : List Loc) (ls : Array Slot), sx_S g E E H0 H locs → lv_has ls 2 [(1, .int (nI (i3))), (0, .ref o)] → W p l e rm_M_decode s m args below meth c H locs 0 0 Q (F0 m 335 ls []) := by
              intro  H locs ls  hS hl
              refine lv_aload_n hx hb d_M_decode_335 rfl (lv_at hl 1 rfl) ?_
              refine lv_aload_n hx hb d_M_decode_336 rfl (lv_at hl 1 rfl) ?_
              refine sx_get EE (hS.1.ob hE hM.1) rfl i_M 26 (by decide) rfl fl_M_76 rfl d_M_decode_337 ?_
              refine lv_aload_n hx hb d_M_decode_340 rfl (lv_at hl 1 rfl) ?_
              refine sx_get EE (hS.1.ob hE hM.1) rfl i_M 20 (by decide) rfl fl_M_58 rfl d_M_decode_341 ?_
              refine lv_aload_n hx hb d_M_decode_344 rfl (lv_at hl 1 rfl) ?_
              refine sx_get EE (hS.1.ob hE hM.1) rfl i_M 20 (by decide) rfl fl_M_58 rfl d_M_decode_345 ?_
              refine lv_aload_n hx hb d_M_decode_348 rfl (lv_at hl 1 rfl) ?_
              refine sx_get EE (hS.1.ob hE hM.1) rfl i_M 10 (by decide) rfl fl_M_27 rfl d_M_decode_349 ?_
              refine lv_aload_n hx hb d_M_decode_352 rfl (lv_at hl 1 rfl) ?_
              refine sx_get EE (hS.1.ob hE hM.1) rfl i_M 11 (by decide) rfl fl_M_31 rfl d_M_decode_353 ?_
              refine sx_gv (sx_runV (As := [.ref (r 26), .ref (r 20), .ref (r 20), .ref (r 10), .ref (r 11)]) (rest := []) EE (hS.1.ob hE hM.1) rfl rfl (c_M_times (hM.kept hS.1 hE) hE hW (hS.a (mo_26 hM)) (mow_26 hW) (hS.a (mo_20 hM)) (hS.a (mo_20 hM)) (hS.a (mo_10 hM)) (hS.a (mo_11 hM))) w_M_188 rfl ⟨rfl, rfl⟩ ⟨Nat.le_of_ble_eq_true rfl, Nat.le_of_ble_eq_true rfl⟩ ⟨Nat.zero_le _, Nat.zero_le _⟩ hl.1 rfl (Nat.le_of_ble_eq_true rfl) d_M_decode_356) hS (fun H locs hS => ?_)
              refine lv_aload_n hx hb d_M_decode_359 rfl (lv_at hl 1 rfl) ?_
              refine sx_get EE (hS.1.ob hE hM.1) rfl i_M 26 (by decide) rfl fl_M_76 rfl d_M_decode_360 ?_
              refine lv_aload_n hx hb d_M_decode_363 rfl (lv_at hl 1 rfl) ?_
              refine sx_get EE (hS.1.ob hE hM.1) rfl i_M 24 (by decide) rfl fl_M_70 rfl d_M_decode_364 ?_
              refine sx_gn (sx_runS (As := [.ref (r 26), .ref (r 24)]) (rest := []) EE (c_M_alike (hS.a (mo_26 hM)) (hS.a (mo_24 hM))) w_M_281 rfl ⟨rfl, rfl⟩ ⟨Nat.le_of_ble_eq_true rfl, Nat.le_of_ble_eq_true rfl⟩ ⟨Nat.zero_le _, Nat.zero_le _⟩ hl.1 rfl (Nat.le_of_ble_eq_true rfl) d_M_decode_367) hS (fun n6 h_n6 H locs hS => ?_)
              have h_n6 : n6 ≤ 1 := h_n6
              refine lv_if_ne (tgt := 375) hx hb d_M_decode_370 (by decide) (fun q370 => ?_) (fun q370 => ?_)
              · skip
                have q370 : ¬ (n6 = 0) := fun z => q370 ((nI_eq (a := n6) (b := 0) (by omega) (by omega)).mpr z)
                refine lv_aload_n hx hb d_M_decode_375 rfl (lv_at hl 1 rfl) ?_
                refine sx_get EE (hS.1.ob hE hM.1) rfl i_M 35 (by decide) rfl fl_M_103 rfl d_M_decode_376 ?_
                refine lv_bipush (v := nI 31) hx hb d_M_decode_379 (by decide +kernel) ?_
                refine sx_bald hx hb hG hS (mo_35 hM) (sx_in (by omega) (by decide)) d_M_decode_381 (fun z7 => ?_)
                refine lv_bipush (v := nI 7) hx hb d_M_decode_382 (by decide +kernel) ?_
                refine sx_ishr hx hb d_M_decode_384 (fun x8 => ?_)
                refine lv_iconst (v := nI 1) hx hb d_M_decode_385 (by decide +kernel) ?_
                refine sx_iand hx hb d_M_decode_386 (fun x9 => ?_)
                refine lv_istore_n (lv' := [(1, .int x9), (0, .ref o)]) hx hb d_M_decode_387 rfl hl (by decide) rfl (fun ls hl => ?_)
                refine lv_aload_n hx hb d_M_decode_388 rfl (lv_at hl 1 rfl) ?_
                refine sx_get EE (hS.1.ob hE hM.1) rfl i_M 20 (by decide) rfl fl_M_58 rfl d_M_decode_389 ?_
                refine sx_gn (sx_runS (As := [.ref (r 20)]) (rest := []) EE (c_M_zero (hS.a (mo_20 hM))) w_M_228 rfl ⟨rfl, rfl⟩ ⟨Nat.le_of_ble_eq_true rfl, Nat.le_of_ble_eq_true rfl⟩ ⟨Nat.zero_le _, Nat.zero_le _⟩ hl.1 rfl (Nat.le_of_ble_eq_true rfl) d_M_decode_392) hS (fun n10 h_n10 H locs hS => ?_)
                have h_n10 : n10 ≤ 1 := h_n10
                refine lv_if_eq (tgt := 405) hx hb d_M_decode_395 (by decide) (fun q395 => ?_) (fun q395 => ?_)
                · skip
                  have q395 : n10 = 0 := (nI_eq (a := n10) (b := 0) (by omega) (by omega)).mp q395
                  refine lv_aload_n hx hb d_M_decode_405 rfl (lv_at hl 1 rfl) ?_
                  refine sx_get EE (hS.1.ob hE hM.1) rfl i_M 20 (by decide) rfl fl_M_58 rfl d_M_decode_406 ?_
                  refine lv_iconst (v := nI 0) hx hb d_M_decode_409 (by decide +kernel) ?_
                  refine sx_lald hx hb hG hS (mo_20 hM) (sx_in (by omega) (by decide)) d_M_decode_410 (fun z11 => ?_)
                  refine lv_lconst (v := 1) hx hb d_M_decode_411 (by decide +kernel) ?_
                  refine sx_land hx hb d_M_decode_412 (fun z12 => ?_)
                  refine lv_iload_n hx hb d_M_decode_413 rfl (lv_at hl 0 rfl) ?_
                  refine sx_i2l hx hb d_M_decode_414 (fun z13 => ?_)
                  refine sx_lcmp hx hb d_M_decode_415 (fun z14 => ?_)
                  have jn446_14 : ∀ (H : Heap) (locs : List Loc) (ls : Array Slot), sx_S g E E H0 H locs → lv_has ls 2 [(1, .int x9), (0, .ref o)] → W p l e rm_M_decode s m args below meth c H locs 0 0 Q (F0 m 446 ls []) := by
                    intro  H locs ls  hS hl
                    refine lv_iconst (v := nI 1) hx hb d_M_decode_446 (by decide +kernel) ?_
                    exact hret _ _ _ _ (1) (by omega) hS d_M_decode_447
                  refine lv_if_eq (tgt := 446) hx hb d_M_decode_416 (by decide) (fun _ => ?_) (fun _ => ?_)
                  · skip
                    exact jn446_14  _ _ _  hS (lv_sub hl [0, 1] rfl)
                  · skip
                    refine lv_aload_n hx hb d_M_decode_419 rfl (lv_at hl 1 rfl) ?_
                    refine sx_get EE (hS.1.ob hE hM.1) rfl i_M 26 (by decide) rfl fl_M_76 rfl d_M_decode_420 ?_
                    refine lv_iconst (v := nI 0) hx hb d_M_decode_423 (by decide +kernel) ?_
                    refine sx_gv (sx_runS (As := [.ref (r 26), .int (nI (0))]) (rest := []) EE (c_M_set (hS.a (mo_26 hM)) (mow_26 hW)) w_M_177 rfl ⟨rfl, rfl⟩ ⟨Nat.le_of_ble_eq_true rfl, Nat.le_of_ble_eq_true rfl⟩ ⟨Nat.zero_le _, Nat.zero_le _⟩ hl.1 rfl (Nat.le_of_ble_eq_true rfl) d_M_decode_424) hS (fun H locs hS => ?_)
                    refine lv_aload_n hx hb d_M_decode_427 rfl (lv_at hl 1 rfl) ?_
                    refine sx_get EE (hS.1.ob hE hM.1) rfl i_M 20 (by decide) rfl fl_M_58 rfl d_M_decode_428 ?_
                    refine lv_aload_n hx hb d_M_decode_431 rfl (lv_at hl 1 rfl) ?_
                    refine sx_get EE (hS.1.ob hE hM.1) rfl i_M 26 (by decide) rfl fl_M_76 rfl d_M_decode_432 ?_
                    refine lv_aload_n hx hb d_M_decode_435 rfl (lv_at hl 1 rfl) ?_
                    refine sx_get EE (hS.1.ob hE hM.1) rfl i_M 20 (by decide) rfl fl_M_58 rfl d_M_decode_436 ?_
                    refine lv_aload_n hx hb d_M_decode_439 rfl (lv_at hl 1 rfl) ?_
                    refine sx_get EE (hS.1.ob hE hM.1) rfl i_M 10 (by decide) rfl fl_M_27 rfl d_M_decode_440 ?_
                    refine sx_gv (sx_runS (As := [.ref (r 20), .ref (r 26), .ref (r 20), .ref (r 10)]) (rest := []) EE (c_M_minus (hS.a (mo_20 hM)) (mow_20 hW) (hS.a (mo_26 hM)) (hS.a (mo_20 hM)) (hS.a (mo_10 hM))) w_M_192 rfl ⟨rfl, rfl⟩ ⟨Nat.le_of_ble_eq_true rfl, Nat.le_of_ble_eq_true rfl⟩ ⟨Nat.zero_le _, Nat.zero_le _⟩ hl.1 rfl (Nat.le_of_ble_eq_true rfl) d_M_decode_443) hS (fun H locs hS => ?_)
                    exact jn446_14  _ _ _  hS (lv_sub hl [0, 1] rfl)
                · skip
                  have q395 : ¬ (n10 = 0) := fun z => q395 ((nI_eq (a := n10) (b := 0) (by omega) (by omega)).mpr z)
                  refine lv_iload_n hx hb d_M_decode_398 rfl (lv_at hl 0 rfl) ?_
                  refine lv_iconst (v := nI 1) hx hb d_M_decode_399 (by decide +kernel) ?_
                  refine lv_icmp_ne (tgt := 405) hx hb d_M_decode_400 (by decide) (fun _ => ?_) (fun _ => ?_)
                  · skip
                    refine lv_aload_n hx hb d_M_decode_405 rfl (lv_at hl 1 rfl) ?_
                    refine sx_get EE (hS.1.ob hE hM.1) rfl i_M 20 (by decide) rfl fl_M_58 rfl d_M_decode_406 ?_
                    refine lv_iconst (v := nI 0) hx hb d_M_decode_409 (by decide +kernel) ?_
                    refine sx_lald hx hb hG hS (mo_20 hM) (sx_in (by omega) (by decide)) d_M_decode_410 (fun z16 => ?_)
                    refine lv_lconst (v := 1) hx hb d_M_decode_411 (by decide +kernel) ?_
                    refine sx_land hx hb d_M_decode_412 (fun z17 => ?_)
                    refine lv_iload_n hx hb d_M_decode_413 rfl (lv_at hl 0 rfl) ?_
                    refine sx_i2l hx hb d_M_decode_414 (fun z18 => ?_)
                    refine sx_lcmp hx hb d_M_decode_415 (fun z19 => ?_)
                    have jn446_19 : ∀ (H : Heap) (locs : List Loc) (ls : Array Slot), sx_S g E E H0 H locs → lv_has ls 2 [(1, .int x9), (0, .ref o)] → W p l e rm_M_decode s m args below meth c H locs 0 0 Q (F0 m 446 ls []) := by
                      intro  H locs ls  hS hl
                      refine lv_iconst (v := nI 1) hx hb d_M_decode_446 (by decide +kernel) ?_
                      exact hret _ _ _ _ (1) (by omega) hS d_M_decode_447
                    refine lv_if_eq (tgt := 446) hx hb d_M_decode_416 (by decide) (fun _ => ?_) (fun _ => ?_)
                    · skip
                      exact jn446_19  _ _ _  hS (lv_sub hl [0, 1] rfl)
                    · skip
                      refine lv_aload_n hx hb d_M_decode_419 rfl (lv_at hl 1 rfl) ?_
                      refine sx_get EE (hS.1.ob hE hM.1) rfl i_M 26 (by decide) rfl fl_M_76 rfl d_M_decode_420 ?_
                      refine lv_iconst (v := nI 0) hx hb d_M_decode_423 (by decide +kernel) ?_
                      refine sx_gv (sx_runS (As := [.ref (r 26), .int (nI (0))]) (rest := []) EE (c_M_set (hS.a (mo_26 hM)) (mow_26 hW)) w_M_177 rfl ⟨rfl, rfl⟩ ⟨Nat.le_of_ble_eq_true rfl, Nat.le_of_ble_eq_true rfl⟩ ⟨Nat.zero_le _, Nat.zero_le _⟩ hl.1 rfl (Nat.le_of_ble_eq_true rfl) d_M_decode_424) hS (fun H locs hS => ?_)
                      refine lv_aload_n hx hb d_M_decode_427 rfl (lv_at hl 1 rfl) ?_
                      refine sx_get EE (hS.1.ob hE hM.1) rfl i_M 20 (by decide) rfl fl_M_58 rfl d_M_decode_428 ?_
                      refine lv_aload_n hx hb d_M_decode_431 rfl (lv_at hl 1 rfl) ?_
                      refine sx_get EE (hS.1.ob hE hM.1) rfl i_M 26 (by decide) rfl fl_M_76 rfl d_M_decode_432 ?_
                      refine lv_aload_n hx hb d_M_decode_435 rfl (lv_at hl 1 rfl) ?_
                      refine sx_get EE (hS.1.ob hE hM.1) rfl i_M 20 (by decide) rfl fl_M_58 rfl d_M_decode_436 ?_
                      refine lv_aload_n hx hb d_M_decode_439 rfl (lv_at hl 1 rfl) ?_
                      refine sx_get EE (hS.1.ob hE hM.1) rfl i_M 10 (by decide) rfl fl_M_27 rfl d_M_decode_440 ?_
                      refine sx_gv (sx_runS (As := [.ref (r 20), .ref (r 26), .ref (r 20), .ref (r 10)]) (rest := []) EE (c_M_minus (hS.a (mo_20 hM)) (mow_20 hW) (hS.a (mo_26 hM)) (hS.a (mo_20 hM)) (hS.a (mo_10 hM))) w_M_192 rfl ⟨rfl, rfl⟩ ⟨Nat.le_of_ble_eq_true rfl, Nat.le_of_ble_eq_true rfl⟩ ⟨Nat.zero_le _, Nat.zero_le _⟩ hl.1 rfl (Nat.le_of_ble_eq_true rfl) d_M_decode_443) hS (fun H locs hS => ?_)
                      exact jn446_19  _ _ _  hS (lv_sub hl [0, 1] rfl)
                  · skip
                    refine lv_iconst (v := nI 0) hx hb d_M_decode_403 (by decide +kernel) ?_
                    exact hret _ _ _ _ (0) (by omega) hS d_M_decode_404
              · skip
                have q370 : n6 = 0 := (nI_eq (a := n6) (b := 0) (by omega) (by omega)).mp q370
                refine lv_iconst (v := nI 0) hx hb d_M_decode_373 (by decide +kernel) ?_
                exact hret _ _ _ _ (0) (by omega) hS d_M_decode_374
            refine lv_if_ne (tgt := 335) hx hb d_M_decode_308 (by decide) (fun q308 => ?_) (fun q308 => ?_)
            · skip
              have q308 : ¬ (n4 = 0) := fun z => q308 ((nI_eq (a := n4) (b := 0) (by omega) (by omega)).mpr z)
              exact jn335_4  _ _ _  hS (lv_sub hl [0, 1] rfl)
            · skip
              have q308 : n4 = 0 := (nI_eq (a := n4) (b := 0) (by omega) (by omega)).mp q308
              refine lv_aload_n hx hb d_M_decode_311 rfl (lv_at hl 1 rfl) ?_
              refine lv_aload_n hx hb d_M_decode_312 rfl (lv_at hl 1 rfl) ?_
              refine sx_get EE (hS.1.ob hE hM.1) rfl i_M 20 (by decide) rfl fl_M_58 rfl d_M_decode_313 ?_
              refine lv_aload_n hx hb d_M_decode_316 rfl (lv_at hl 1 rfl) ?_
              refine sx_get EE (hS.1.ob hE hM.1) rfl i_M 20 (by decide) rfl fl_M_58 rfl d_M_decode_317 ?_
              refine lv_aload_n hx hb d_M_decode_320 rfl (lv_at hl 1 rfl) ?_
              refine sx_get EE (hS.1.ob hE hM.1) rfl i_M 15 (by decide) rfl fl_M_43 rfl d_M_decode_321 ?_
              refine lv_aload_n hx hb d_M_decode_324 rfl (lv_at hl 1 rfl) ?_
              refine sx_get EE (hS.1.ob hE hM.1) rfl i_M 10 (by decide) rfl fl_M_27 rfl d_M_decode_325 ?_
              refine lv_aload_n hx hb d_M_decode_328 rfl (lv_at hl 1 rfl) ?_
              refine sx_get EE (hS.1.ob hE hM.1) rfl i_M 11 (by decide) rfl fl_M_31 rfl d_M_decode_329 ?_
              refine sx_gv (sx_runV (As := [.ref (r 20), .ref (r 20), .ref (r 15), .ref (r 10), .ref (r 11)]) (rest := []) EE (hS.1.ob hE hM.1) rfl rfl (c_M_times (hM.kept hS.1 hE) hE hW (hS.a (mo_20 hM)) (mow_20 hW) (hS.a (mo_20 hM)) (hS.a (mo_15 hM)) (hS.a (mo_10 hM)) (hS.a (mo_11 hM))) w_M_188 rfl ⟨rfl, rfl⟩ ⟨Nat.le_of_ble_eq_true rfl, Nat.le_of_ble_eq_true rfl⟩ ⟨Nat.zero_le _, Nat.zero_le _⟩ hl.1 rfl (Nat.le_of_ble_eq_true rfl) d_M_decode_332) hS (fun H locs hS => ?_)
              exact jn335_4  _ _ _  hS (lv_sub hl [0, 1] rfl)
          | succ k ih214 =>
            intro i3  H locs ls hi  hS hl
            refine lv_iload_n hx hb d_M_decode_214 rfl (lv_at hl 0 rfl) ?_
            refine lv_bipush (v := nI 16) hx hb d_M_decode_215 (by decide +kernel) ?_
            refine lv_icmp_ge (tgt := 257) hx hb d_M_decode_217 (by decide) (fun q => absurd q (nI_ge (by omega) (by omega))) (fun _ => ?_)
            refine lv_aload_n hx hb d_M_decode_220 rfl (lv_at hl 1 rfl) ?_
            refine sx_get EE (hS.1.ob hE hM.1) rfl i_M 27 (by decide) rfl fl_M_79 rfl d_M_decode_221 ?_
            refine lv_iload_n hx hb d_M_decode_224 rfl (lv_at hl 0 rfl) ?_
            refine lv_iload_n hx hb d_M_decode_225 rfl (lv_at hl 0 rfl) ?_
            have jn250_21 : ∀ (w21 : Int64) (H : Heap) (locs : List Loc) (ls : Array Slot), sx_S g E E H0 H locs → lv_has ls 2 [(1, .int (nI (i3))), (0, .ref o)] → W p l e rm_M_decode s m args below meth c H locs 0 0 Q (F0 m 250 ls [.long w21, .int (nI (i3)), .ref (r 27)]) := by
              intro w21 H locs ls  hS hl
              refine sx_last hx hb hG hS (mo_27 hM) (mow_27 hW) (sx_in (by omega) (by decide)) d_M_decode_250 (fun H locs hS => ?_)
              refine lv_iinc (v := nI (i3 + 1)) (lv' := [(1, .int (nI (i3 + 1))), (0, .ref o)]) hx hb d_M_decode_251 hl (k := 0) rfl (sx_inc _ _) (by decide) rfl (fun ls hl => ?_)
              refine lv_goto (tgt := 214) hx hb d_M_decode_254 (by decide) ?_
              exact ih214 (i3 + 1)  _ _ _ (by omega)  hS (lv_sub hl [0, 1] rfl)
            refine lv_if_ne (tgt := 235) hx hb d_M_decode_226 (by decide) (fun q226 => ?_) (fun q226 => ?_)
            · skip
              have q226 : ¬ (i3 = 0) := fun z => q226 ((nI_eq (a := i3) (b := 0) (by omega) (by omega)).mpr z)
              refine lv_iload_n hx hb d_M_decode_235 rfl (lv_at hl 0 rfl) ?_
              refine lv_bipush (v := nI 15) hx hb d_M_decode_236 (by decide +kernel) ?_
              refine lv_icmp_ne (tgt := 247) hx hb d_M_decode_238 (by decide) (fun q238 => ?_) (fun q238 => ?_)
              · skip
                have q238 : ¬ (i3 = 15) := fun z => q238 ((nI_eq (a := i3) (b := 15) (by omega) (by omega)).mpr z)
                refine lv_ldc2 (v := (65535)) hx hb hown (hts (.constantLong R_M 169 (65535)) (by decide +kernel)) d_M_decode_247 ?_
                exact jn250_21 ((65535)) _ _ _  hS (lv_sub hl [0, 1] rfl)
              · skip
                have q238 : i3 = 15 := (nI_eq (a := i3) (b := 15) (by omega) (by omega)).mp q238
                refine lv_ldc2 (v := (4095)) hx hb hown (hts (.constantLong R_M 279 (4095)) (by decide +kernel)) d_M_decode_241 ?_
                refine lv_goto (tgt := 250) hx hb d_M_decode_244 (by decide) ?_
                exact jn250_21 ((4095)) _ _ _  hS (lv_sub hl [0, 1] rfl)
            · skip
              have q226 : i3 = 0 := (nI_eq (a := i3) (b := 0) (by omega) (by omega)).mp q226
              refine lv_ldc2 (v := (65534)) hx hb hown (hts (.constantLong R_M 277 (65534)) (by decide +kernel)) d_M_decode_229 ?_
              refine lv_goto (tgt := 250) hx hb d_M_decode_232 (by decide) ?_
              exact jn250_21 ((65534)) _ _ _  hS (lv_sub hl [0, 1] rfl)
        exact lp214 (16) 0  _ _ _ (by omega)  hS (lv_sub hl [0, 1] rfl)
      · skip
        have q81 : n2 = 0 := (nI_eq (a := n2) (b := 0) (by omega) (by omega)).mp q81
        refine lv_iconst (v := nI 0) hx hb d_M_decode_84 (by decide +kernel) ?_
        exact hret _ _ _ _ (0) (by omega) hS d_M_decode_85
    | succ k ih2 =>
      intro i1  H locs ls hi  hS hl
      refine lv_iload_n hx hb d_M_decode_2 rfl (lv_at hl 0 rfl) ?_
      refine lv_bipush (v := nI 16) hx hb d_M_decode_3 (by decide +kernel) ?_
      refine lv_icmp_ge (tgt := 70) hx hb d_M_decode_5 (by decide) (fun q => absurd q (nI_ge (by omega) (by omega))) (fun _ => ?_)
      refine lv_aload_n hx hb d_M_decode_8 rfl (lv_at hl 1 rfl) ?_
      refine sx_get EE (hS.1.ob hE hM.1) rfl i_M 21 (by decide) rfl fl_M_61 rfl d_M_decode_9 ?_
      refine lv_iload_n hx hb d_M_decode_12 rfl (lv_at hl 0 rfl) ?_
      refine lv_aload_n hx hb d_M_decode_13 rfl (lv_at hl 1 rfl) ?_
      refine sx_get EE (hS.1.ob hE hM.1) rfl i_M 35 (by decide) rfl fl_M_103 rfl d_M_decode_14 ?_
      refine lv_iconst (v := nI 2) hx hb d_M_decode_17 (by decide +kernel) ?_
      refine lv_iload_n hx hb d_M_decode_18 rfl (lv_at hl 0 rfl) ?_
      refine lv_imul hx hb d_M_decode_19 ?_
      refine sx_ti (y := nI (2 * i1)) (pk_mul _ _) ?_
      refine sx_bald hx hb hG hS (mo_35 hM) (sx_in (by omega) (by decide)) d_M_decode_20 (fun z23 => ?_)
      refine lv_sipush (v := nI 255) hx hb d_M_decode_21 (by decide +kernel) ?_
      refine sx_iand hx hb d_M_decode_24 (fun x24 => ?_)
      refine lv_iload_n hx hb d_M_decode_25 rfl (lv_at hl 0 rfl) ?_
      refine lv_bipush (v := nI 15) hx hb d_M_decode_26 (by decide +kernel) ?_
      have jn58_29 : ∀ (x29 : Int32) (H : Heap) (locs : List Loc) (ls : Array Slot), sx_S g E E H0 H locs → lv_has ls 2 [(1, .int (nI (i1))), (0, .ref o)] → W p l e rm_M_decode s m args below meth c H locs 0 0 Q (F0 m 58 ls [.int x29, .int x24, .int (nI (i1)), .ref (r 21)]) := by
        intro x29 H locs ls  hS hl
        refine lv_bipush (v := nI 8) hx hb d_M_decode_58 (by decide +kernel) ?_
        refine sx_ishl hx hb d_M_decode_60 (fun x31 => ?_)
        refine sx_ior hx hb d_M_decode_61 (fun x32 => ?_)
        refine sx_i2l hx hb d_M_decode_62 (fun z33 => ?_)
        refine sx_last hx hb hG hS (mo_21 hM) (mow_21 hW) (sx_in (by omega) (by decide)) d_M_decode_63 (fun H locs hS => ?_)
        refine lv_iinc (v := nI (i1 + 1)) (lv' := [(1, .int (nI (i1 + 1))), (0, .ref o)]) hx hb d_M_decode_64 hl (k := 0) rfl (sx_inc _ _) (by decide) rfl (fun ls hl => ?_)
        refine lv_goto (tgt := 2) hx hb d_M_decode_67 (by decide) ?_
        exact ih2 (i1 + 1)  _ _ _ (by omega)  hS (lv_sub hl [0, 1] rfl)
      refine lv_icmp_ne (tgt := 44) hx hb d_M_decode_28 (by decide) (fun q28 => ?_) (fun q28 => ?_)
      · skip
        have q28 : ¬ (i1 = 15) := fun z => q28 ((nI_eq (a := i1) (b := 15) (by omega) (by omega)).mpr z)
        refine lv_aload_n hx hb d_M_decode_44 rfl (lv_at hl 1 rfl) ?_
        refine sx_get EE (hS.1.ob hE hM.1) rfl i_M 35 (by decide) rfl fl_M_103 rfl d_M_decode_45 ?_
        refine lv_iconst (v := nI 2) hx hb d_M_decode_48 (by decide +kernel) ?_
        refine lv_iload_n hx hb d_M_decode_49 rfl (lv_at hl 0 rfl) ?_
        refine lv_imul hx hb d_M_decode_50 ?_
        refine sx_ti (y := nI (2 * i1)) (pk_mul _ _) ?_
        refine lv_iconst (v := nI 1) hx hb d_M_decode_51 (by decide +kernel) ?_
        refine lv_iadd hx hb d_M_decode_52 ?_
        refine sx_ti (y := nI ((2 * i1) + 1)) (nI_add _ _) ?_
        refine sx_bald hx hb hG hS (mo_35 hM) (sx_in (by omega) (by decide)) d_M_decode_53 (fun z34 => ?_)
        refine lv_sipush (v := nI 255) hx hb d_M_decode_54 (by decide +kernel) ?_
        refine sx_iand hx hb d_M_decode_57 (fun x35 => ?_)
        exact jn58_29 x35 _ _ _  hS (lv_sub hl [0, 1] rfl)
      · skip
        have q28 : i1 = 15 := (nI_eq (a := i1) (b := 15) (by omega) (by omega)).mp q28
        refine lv_aload_n hx hb d_M_decode_31 rfl (lv_at hl 1 rfl) ?_
        refine sx_get EE (hS.1.ob hE hM.1) rfl i_M 35 (by decide) rfl fl_M_103 rfl d_M_decode_32 ?_
        refine lv_bipush (v := nI 31) hx hb d_M_decode_35 (by decide +kernel) ?_
        refine sx_bald hx hb hG hS (mo_35 hM) (sx_in (by omega) (by decide)) d_M_decode_37 (fun z36 => ?_)
        refine lv_bipush (v := nI 127) hx hb d_M_decode_38 (by decide +kernel) ?_
        refine sx_iand hx hb d_M_decode_40 (fun x37 => ?_)
        refine lv_goto (tgt := 58) hx hb d_M_decode_41 (by decide) ?_
        exact jn58_29 x37 _ _ _  hS (lv_sub hl [0, 1] rfl)
  exact lp2 (16) 0  _ _ _ (by omega)  hS (lv_sub hl [0, 1] rfl)
