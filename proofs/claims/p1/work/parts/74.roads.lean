set_option maxHeartbeats 4000000 in
set_option maxRecDepth 100000 in
theorem lr_feed {p : Program} {l : Launch} {e : Env} {s : State} {m : MethodId} {args : Array Value} {below : List Frame} {meth : Method} {c : Code} {Q : State → Prop} {D : va_G} {g : ClassId → FieldType → Prop} {b : Nat} {xs : Nat → Int32} {H : Heap} {locs : List Loc} {ls : Array Slot} {x o ou : Nat} {r rt rm ro : Nat → Nat} (htr : l.stackTraces = false) (EE : sx_E p s m args c code 7 R_L D g) (hKx : tx_K s) (hX : va_X b 6 xs s s.heap) (hbl : b < s.heap.size) (hI : LI_ D g s H x r rt rm o ro ou) (hlo : ∀ q ∈ locs, s.heap.size ≤ q.base) (hl : lv_has ls 7 [(4, .int (nI 0)), (3, .ref ou), (2, .ref o), (1, .ref x), (0, .ref b)]) (hend : LQ_ p l e s m args below meth c b Q)  : W p l e room_1 s m args below meth c H locs 274 206097 Q (F0 m 104 ls []) := by
  obtain ⟨hz, h0, k_x, k_r6, k_r7, f_rt0, x_rt0, f_r1, n_x_r6, n_x_r7, n_r6_r7, f_r2, z_r2, k_o, f_o1, f_o9, z_o9, k_ou, a_ox, a_o6, a_o7, a_ot, a_ou, a_1u, a_ut, b_x, b_6, b_7, b_t, b_o, b_1, b_u⟩ := hI
  obtain ⟨hx, hb, hml, hown, hts, hG, hK⟩ := id EE
  refine lv_aload_n hx hb d_L_law_104 rfl (lv_at hl 3 rfl) ?_
  refine lv_aload_n hx hb d_L_law_105 rfl (lv_at hl 4 rfl) ?_
  refine lv_iload hx hb d_L_law_106 (lv_at hl 0 rfl) ?_
  refine lv_iconst (v := nI 1) hx hb d_L_law_108 (by decide +kernel) ?_
  refine lv_iadd hx hb d_L_law_109 ?_
  refine sx_ti (y := nI (1)) (nI_add _ _) ?_
  refine lw_ld hx hb hX hbl h0 (by decide) d_L_law_110 ?_
  refine lv_aload_n hx hb d_L_law_111 rfl (lv_at hl 4 rfl) ?_
  refine lv_iload hx hb d_L_law_112 (lv_at hl 0 rfl) ?_
  refine lv_iconst (v := nI 2) hx hb d_L_law_114 (by decide +kernel) ?_
  refine lv_iadd hx hb d_L_law_115 ?_
  refine sx_ti (y := nI (2)) (nI_add _ _) ?_
  refine lw_ld hx hb hX hbl h0 (by decide) d_L_law_116 ?_
  refine lv_aload_n hx hb d_L_law_117 rfl (lv_at hl 4 rfl) ?_
  refine lv_iload hx hb d_L_law_118 (lv_at hl 0 rfl) ?_
  refine lv_iconst (v := nI 3) hx hb d_L_law_120 (by decide +kernel) ?_
  refine lv_iadd hx hb d_L_law_121 ?_
  refine sx_ti (y := nI (3)) (nI_add _ _) ?_
  refine lw_ld hx hb hX hbl h0 (by decide) d_L_law_122 ?_
  refine lv_aload_n hx hb d_L_law_123 rfl (lv_at hl 4 rfl) ?_
  refine lv_iload hx hb d_L_law_124 (lv_at hl 0 rfl) ?_
  refine lv_iconst (v := nI 4) hx hb d_L_law_126 (by decide +kernel) ?_
  refine lv_iadd hx hb d_L_law_127 ?_
  refine sx_ti (y := nI (4)) (nI_add _ _) ?_
  refine lw_ld hx hb hX hbl h0 (by decide) d_L_law_128 ?_
  refine lv_aload_n hx hb d_L_law_129 rfl (lv_at hl 4 rfl) ?_
  refine lv_iload hx hb d_L_law_130 (lv_at hl 0 rfl) ?_
  refine lv_iconst (v := nI 5) hx hb d_L_law_132 (by decide +kernel) ?_
  refine lv_iadd hx hb d_L_law_133 ?_
  refine sx_ti (y := nI (5)) (nI_add _ _) ?_
  refine lw_ld hx hb hX hbl h0 (by decide) d_L_law_134 ?_
  refine lv_aload_n hx hb d_L_law_135 rfl (lv_at hl 1 rfl) ?_
  have hF : ∀ q, (fun z => z = (r 6) ∨ z = (rt 0) ∨ z = ou) q → s.heap.size ≤ q := by
    intro q h
    rcases h with rfl | rfl | rfl
    · exact b_6
    · exact b_t
    · exact b_u
  refine px_gW (E' := (fun z => z = (r 6) ∨ z = (rt 0) ∨ z = ou)) (F := fun q => s.heap.size ≤ q) (V := nI 0) (P := fun H => lo_ g H ou 20) (mc := 0) (ms := 0) (cells' := 274) (slots' := 206097) (px_runSW (As := [.ref x, .int (xs 1), .int (xs 2), .int (xs 3), .int (xs 4), .int (xs 5), .ref ou]) (rest := []) EE hKx h0 (c_L_feed k_x k_r6 k_r7 f_rt0 x_rt0 f_r1 k_ou n_x_r6 n_x_r7 n_r6_r7 a_ut) ws_L_59 rfl ⟨rfl, rfl⟩ ⟨Nat.le_of_ble_eq_true rfl, Nat.le_of_ble_eq_true rfl⟩ ⟨Nat.le_of_ble_eq_true rfl, Nat.le_of_ble_eq_true rfl⟩ hl.1 rfl (Nat.le_of_ble_eq_true rfl) d_L_law_136) hF hlo rfl rfl (fun H1 locs hJ hP hlo => ?_)
  have h0 : ∀ q : Nat, q < s.heap.size → H1[q]? = s.heap[q]? := fun q hq => (hJ.2.1 q (Nat.lt_of_lt_of_le hq hz) (fun h => Nat.not_le.mpr hq (hF q h))).trans (h0 q hq)
  have hz := Nat.le_trans hz hJ.1
  have k_o := hJ.ob (fun h => h.elim a_o6 (fun h => h.elim a_ot a_ou)) k_o
  have f_o1 := hJ.2.2.1 _ _ _ f_o1
  have k_ou := hP
  refine lv_istore (lv' := [(5, .int (nI (0))), (4, .int (nI (0))), (3, .ref ou), (2, .ref o), (1, .ref x), (0, .ref b)]) hx hb d_L_law_139 hl (by decide) rfl (fun ls hl => ?_)
  refine lv_aload_n hx hb d_L_law_141 rfl (lv_at hl 3 rfl) ?_
  refine lv_aload_n hx hb d_L_law_142 rfl (lv_at hl 5 rfl) ?_
  refine lv_iload hx hb d_L_law_143 (lv_at hl 1 rfl) ?_
  refine lv_iconst (v := nI 1) hx hb d_L_law_145 (by decide +kernel) ?_
  refine lv_iadd hx hb d_L_law_146 ?_
  refine sx_ti (y := nI (1)) (nI_add _ _) ?_
  refine lw_ld hx hb hX hbl h0 (by decide) d_L_law_147 ?_
  refine lv_aload_n hx hb d_L_law_148 rfl (lv_at hl 5 rfl) ?_
  refine lv_iload hx hb d_L_law_149 (lv_at hl 1 rfl) ?_
  refine lv_iconst (v := nI 2) hx hb d_L_law_151 (by decide +kernel) ?_
  refine lv_iadd hx hb d_L_law_152 ?_
  refine sx_ti (y := nI (2)) (nI_add _ _) ?_
  refine lw_ld hx hb hX hbl h0 (by decide) d_L_law_153 ?_
  refine lv_aload_n hx hb d_L_law_154 rfl (lv_at hl 5 rfl) ?_
  refine lv_iload hx hb d_L_law_155 (lv_at hl 1 rfl) ?_
  refine lv_iconst (v := nI 3) hx hb d_L_law_157 (by decide +kernel) ?_
  refine lv_iadd hx hb d_L_law_158 ?_
  refine sx_ti (y := nI (3)) (nI_add _ _) ?_
  refine lw_ld hx hb hX hbl h0 (by decide) d_L_law_159 ?_
  refine lv_aload_n hx hb d_L_law_160 rfl (lv_at hl 5 rfl) ?_
  refine lv_iload hx hb d_L_law_161 (lv_at hl 1 rfl) ?_
  refine lv_iconst (v := nI 4) hx hb d_L_law_163 (by decide +kernel) ?_
  refine lv_iadd hx hb d_L_law_164 ?_
  refine sx_ti (y := nI (4)) (nI_add _ _) ?_
  refine lw_ld hx hb hX hbl h0 (by decide) d_L_law_165 ?_
  refine lv_aload_n hx hb d_L_law_166 rfl (lv_at hl 5 rfl) ?_
  refine lv_iload hx hb d_L_law_167 (lv_at hl 1 rfl) ?_
  refine lv_iconst (v := nI 5) hx hb d_L_law_169 (by decide +kernel) ?_
  refine lv_iadd hx hb d_L_law_170 ?_
  refine sx_ti (y := nI (5)) (nI_add _ _) ?_
  refine lw_ld hx hb hX hbl h0 (by decide) d_L_law_171 ?_
  have hF : ∀ q, (fun z => z = o ∨ z = (ro 1)) q → s.heap.size ≤ q := by
    intro q h
    rcases h with rfl | rfl
    · exact b_o
    · exact b_1
  refine px_gW (E' := (fun z => z = o ∨ z = (ro 1))) (F := fun q => s.heap.size ≤ q) (V := nI 20) (P := fun H => va_P D classes [(o, .inr (0, mo_fs ro (fun k => if k = 5 then (nI (20)) else 0)))] H) (mc := 0) (ms := 0) (cells' := 274) (slots' := 206097) (sx_runV (As := [.int (xs 1), .int (xs 2), .int (xs 3), .int (xs 4), .int (xs 5)]) (rest := []) EE k_o rfl rfl (c_M_feed k_o f_o1) w_L_64 rfl ⟨rfl, rfl⟩ ⟨Nat.le_of_ble_eq_true rfl, Nat.le_of_ble_eq_true rfl⟩ ⟨Nat.le_of_ble_eq_true rfl, Nat.le_of_ble_eq_true rfl⟩ hl.1 rfl (Nat.le_of_ble_eq_true rfl) d_L_law_172) hF hlo rfl rfl (fun H2 locs hJ hP hlo => ?_)
  have h0 : ∀ q : Nat, q < s.heap.size → H2[q]? = s.heap[q]? := fun q hq => (hJ.2.1 q (Nat.lt_of_lt_of_le hq hz) (fun h => Nat.not_le.mpr hq (hF q h))).trans (h0 q hq)
  have hz := Nat.le_trans hz hJ.1
  have k_o := hP
  have k_ou := k_ou.j hJ (fun h => h.elim (Ne.symm a_ou) (Ne.symm a_1u))
  refine lv_istore (lv' := [(6, .int (nI (20))), (5, .int (nI (0))), (4, .int (nI (0))), (3, .ref ou), (2, .ref o), (1, .ref x), (0, .ref b)]) hx hb d_L_law_175 hl (by decide) rfl (fun ls hl => ?_)
  refine lv_aload_n hx hb d_L_law_177 rfl (lv_at hl 4 rfl) ?_
  refine px_gW (E' := (fun _ => False)) (F := fun q => s.heap.size ≤ q) (V := nI 0) (P := fun H => True) (mc := 0) (ms := 0) (cells' := 274) (slots' := 206097) (sx_runV (As := []) (rest := []) EE k_o rfl rfl (c_M_thrown k_o rfl) w_L_65 rfl ⟨rfl, rfl⟩ ⟨Nat.le_of_ble_eq_true rfl, Nat.le_of_ble_eq_true rfl⟩ ⟨Nat.le_of_ble_eq_true rfl, Nat.le_of_ble_eq_true rfl⟩ hl.1 rfl (Nat.le_of_ble_eq_true rfl) d_L_law_178) (fun _ h => h.elim) hlo rfl rfl (fun H3 locs hJ hP hlo => ?_)
  have h0 : ∀ q : Nat, q < s.heap.size → H3[q]? = s.heap[q]? := fun q hq => (hJ.2.1 q (Nat.lt_of_lt_of_le hq hz) (fun h => h.elim)).trans (h0 q hq)
  have hz := Nat.le_trans hz hJ.1
  have k_ou := k_ou.j hJ id
  refine lv_iload hx hb d_L_law_181 (lv_at hl 1 rfl) ?_
  refine lv_icmp_eq (tgt := 188) hx hb d_L_law_183 (by decide) (fun _ => ?_) (fun q => absurd (by decide +kernel) q)
  refine lv_iload hx hb d_L_law_188 (lv_at hl 1 rfl) ?_
  refine lv_if_ne (tgt := 205) hx hb d_L_law_190 (by decide) (fun q => absurd (by decide +kernel) q) (fun _ => ?_)
  refine lv_aload_n hx hb d_L_law_193 rfl (lv_at hl 3 rfl) ?_
  refine lv_iconst (v := nI 0) hx hb d_L_law_194 (by decide +kernel) ?_
  refine px_outld hx hb hG k_ou d_L_law_195 ?_
  refine lv_iload hx hb d_L_law_196 (lv_at hl 0 rfl) ?_
  refine lv_i2l (v := 20) hx hb d_L_law_198 (by decide +kernel) ?_
  refine W.lcmp hx hb d_L_law_199 ?_
  refine lv_if_eq (tgt := 205) hx hb d_L_law_200 (by decide) (fun _ => ?_) (fun q => absurd (by decide +kernel) q)
  refine lv_goto (tgt := 712) hx hb d_L_law_205 (by decide) ?_
  exact hend _ _ _ _ _ h0 hlo (Nat.le_of_ble_eq_true rfl) (Nat.le_of_ble_eq_true rfl) (lv_sub hl [2, 6] rfl)
set_option maxHeartbeats 4000000 in
set_option maxRecDepth 100000 in
theorem lr_end0 {p : Program} {l : Launch} {e : Env} {s : State} {m : MethodId} {args : Array Value} {below : List Frame} {meth : Method} {c : Code} {Q : State → Prop} {D : va_G} {g : ClassId → FieldType → Prop} {b : Nat} {xs : Nat → Int32} {H : Heap} {locs : List Loc} {ls : Array Slot} {x o ou : Nat} {r rt rm ro : Nat → Nat} (htr : l.stackTraces = false) (EE : sx_E p s m args c code 7 R_L D g) (hKx : tx_K s) (hX : va_X b 6 xs s s.heap) (hbl : b < s.heap.size) (hI : LI_ D g s H x r rt rm o ro ou) (hlo : ∀ q ∈ locs, s.heap.size ≤ q.base) (hl : lv_has ls 7 [(4, .int (nI 0)), (3, .ref ou), (2, .ref o), (1, .ref x), (0, .ref b)]) (hend : LQ_ p l e s m args below meth c b Q) (y0 : xs 1 = nI 0) : W p l e room_1 s m args below meth c H locs 274 206097 Q (F0 m 208 ls []) := by
  obtain ⟨hz, h0, k_x, k_r6, k_r7, f_rt0, x_rt0, f_r1, n_x_r6, n_x_r7, n_r6_r7, f_r2, z_r2, k_o, f_o1, f_o9, z_o9, k_ou, a_ox, a_o6, a_o7, a_ot, a_ou, a_1u, a_ut, b_x, b_6, b_7, b_t, b_o, b_1, b_u⟩ := hI
  obtain ⟨hx, hb, hml, hown, hts, hG, hK⟩ := id EE
  refine lv_aload_n hx hb d_L_law_208 rfl (lv_at hl 3 rfl) ?_
  refine lv_aload_n hx hb d_L_law_209 rfl (lv_at hl 4 rfl) ?_
  refine lv_iload hx hb d_L_law_210 (lv_at hl 0 rfl) ?_
  refine lv_iconst (v := nI 1) hx hb d_L_law_212 (by decide +kernel) ?_
  refine lv_iadd hx hb d_L_law_213 ?_
  refine sx_ti (y := nI (1)) (nI_add _ _) ?_
  refine lw_ld hx hb hX hbl h0 (by decide) d_L_law_214 ?_
  refine sx_ti (y := (nI (0))) y0 ?_
  refine lv_aload_n hx hb d_L_law_215 rfl (lv_at hl 1 rfl) ?_
  have hF : ∀ q, (fun z => z = (r 6) ∨ z = ou) q → s.heap.size ≤ q := by
    intro q h
    rcases h with rfl | rfl
    · exact b_6
    · exact b_u
  refine px_gW (E' := (fun z => z = (r 6) ∨ z = ou)) (F := fun q => s.heap.size ≤ q) (V := nI 0) (P := fun H => lo_ g H ou 0) (mc := 0) (ms := 0) (cells' := 274) (slots' := 206097) (px_runSW (As := [.ref x, .int (nI (0)), .ref ou]) (rest := []) EE hKx h0 (c_L_end0 k_x k_r6 k_r7 f_rt0 x_rt0 f_r1 k_ou n_x_r6 n_x_r7 n_r6_r7 a_ut) ws_L_68 rfl ⟨rfl, rfl⟩ ⟨Nat.le_of_ble_eq_true rfl, Nat.le_of_ble_eq_true rfl⟩ ⟨Nat.le_of_ble_eq_true rfl, Nat.le_of_ble_eq_true rfl⟩ hl.1 rfl (Nat.le_of_ble_eq_true rfl) d_L_law_216) hF hlo rfl rfl (fun H1 locs hJ hP hlo => ?_)
  have h0 : ∀ q : Nat, q < s.heap.size → H1[q]? = s.heap[q]? := fun q hq => (hJ.2.1 q (Nat.lt_of_lt_of_le hq hz) (fun h => Nat.not_le.mpr hq (hF q h))).trans (h0 q hq)
  have hz := Nat.le_trans hz hJ.1
  have k_o := hJ.ob (fun h => h.elim a_o6 a_ou) k_o
  have f_o1 := hJ.2.2.1 _ _ _ f_o1
  have k_ou := hP
  refine lv_istore (lv' := [(5, .int (nI (0))), (4, .int (nI (0))), (3, .ref ou), (2, .ref o), (1, .ref x), (0, .ref b)]) hx hb d_L_law_219 hl (by decide) rfl (fun ls hl => ?_)
  refine lv_aload_n hx hb d_L_law_221 rfl (lv_at hl 3 rfl) ?_
  refine lv_aload_n hx hb d_L_law_222 rfl (lv_at hl 5 rfl) ?_
  refine lv_iload hx hb d_L_law_223 (lv_at hl 1 rfl) ?_
  refine lv_iconst (v := nI 1) hx hb d_L_law_225 (by decide +kernel) ?_
  refine lv_iadd hx hb d_L_law_226 ?_
  refine sx_ti (y := nI (1)) (nI_add _ _) ?_
  refine lw_ld hx hb hX hbl h0 (by decide) d_L_law_227 ?_
  refine sx_ti (y := (nI (0))) y0 ?_
  have hF : ∀ q, (fun z => z = o) q → s.heap.size ≤ q := by
    intro q h
    rw [show q = o from h]
    exact b_o
  refine px_gW (E' := (fun z => z = o)) (F := fun q => s.heap.size ≤ q) (V := nI 0) (P := fun H => va_P D classes [(o, .inr (0, mo_fs ro (fun _ => 0)))] H) (mc := 0) (ms := 0) (cells' := 274) (slots' := 206097) (sx_runV (As := [.int (nI (0))]) (rest := []) EE k_o rfl rfl (c_M_end0 k_o) w_L_71 rfl ⟨rfl, rfl⟩ ⟨Nat.le_of_ble_eq_true rfl, Nat.le_of_ble_eq_true rfl⟩ ⟨Nat.le_of_ble_eq_true rfl, Nat.le_of_ble_eq_true rfl⟩ hl.1 rfl (Nat.le_of_ble_eq_true rfl) d_L_law_228) hF hlo rfl rfl (fun H2 locs hJ hP hlo => ?_)
  have h0 : ∀ q : Nat, q < s.heap.size → H2[q]? = s.heap[q]? := fun q hq => (hJ.2.1 q (Nat.lt_of_lt_of_le hq hz) (fun h => Nat.not_le.mpr hq (hF q h))).trans (h0 q hq)
  have hz := Nat.le_trans hz hJ.1
  have k_o := hP
  have k_ou := k_ou.j hJ (Ne.symm a_ou)
  refine lv_istore (lv' := [(6, .int (nI (0))), (5, .int (nI (0))), (4, .int (nI (0))), (3, .ref ou), (2, .ref o), (1, .ref x), (0, .ref b)]) hx hb d_L_law_231 hl (by decide) rfl (fun ls hl => ?_)
  refine lv_aload_n hx hb d_L_law_233 rfl (lv_at hl 4 rfl) ?_
  refine px_gW (E' := (fun _ => False)) (F := fun q => s.heap.size ≤ q) (V := nI 0) (P := fun H => True) (mc := 0) (ms := 0) (cells' := 274) (slots' := 206097) (sx_runV (As := []) (rest := []) EE k_o rfl rfl (c_M_thrown k_o rfl) w_L_65 rfl ⟨rfl, rfl⟩ ⟨Nat.le_of_ble_eq_true rfl, Nat.le_of_ble_eq_true rfl⟩ ⟨Nat.le_of_ble_eq_true rfl, Nat.le_of_ble_eq_true rfl⟩ hl.1 rfl (Nat.le_of_ble_eq_true rfl) d_L_law_234) (fun _ h => h.elim) hlo rfl rfl (fun H3 locs hJ hP hlo => ?_)
  have h0 : ∀ q : Nat, q < s.heap.size → H3[q]? = s.heap[q]? := fun q hq => (hJ.2.1 q (Nat.lt_of_lt_of_le hq hz) (fun h => h.elim)).trans (h0 q hq)
  have hz := Nat.le_trans hz hJ.1
  have k_ou := k_ou.j hJ id
  refine lv_iload hx hb d_L_law_237 (lv_at hl 1 rfl) ?_
  refine lv_icmp_eq (tgt := 244) hx hb d_L_law_239 (by decide) (fun _ => ?_) (fun q => absurd (by decide +kernel) q)
  refine lv_iload hx hb d_L_law_244 (lv_at hl 1 rfl) ?_
  refine lv_if_ne (tgt := 261) hx hb d_L_law_246 (by decide) (fun q => absurd (by decide +kernel) q) (fun _ => ?_)
  refine lv_aload_n hx hb d_L_law_249 rfl (lv_at hl 3 rfl) ?_
  refine lv_iconst (v := nI 0) hx hb d_L_law_250 (by decide +kernel) ?_
  refine px_outld hx hb hG k_ou d_L_law_251 ?_
  refine lv_iload hx hb d_L_law_252 (lv_at hl 0 rfl) ?_
  refine lv_i2l (v := 0) hx hb d_L_law_254 (by decide +kernel) ?_
  refine W.lcmp hx hb d_L_law_255 ?_
  refine lv_if_eq (tgt := 261) hx hb d_L_law_256 (by decide) (fun _ => ?_) (fun q => absurd (by decide +kernel) q)
  refine lv_goto (tgt := 712) hx hb d_L_law_261 (by decide) ?_
  exact hend _ _ _ _ _ h0 hlo (Nat.le_of_ble_eq_true rfl) (Nat.le_of_ble_eq_true rfl) (lv_sub hl [2, 6] rfl)
set_option maxHeartbeats 4000000 in
set_option maxRecDepth 100000 in
theorem lr_end {p : Program} {l : Launch} {e : Env} {s : State} {m : MethodId} {args : Array Value} {below : List Frame} {meth : Method} {c : Code} {Q : State → Prop} {D : va_G} {g : ClassId → FieldType → Prop} {b : Nat} {xs : Nat → Int32} {H : Heap} {locs : List Loc} {ls : Array Slot} {x o ou : Nat} {r rt rm ro : Nat → Nat} (htr : l.stackTraces = false) (EE : sx_E p s m args c code 7 R_L D g) (hKx : tx_K s) (hX : va_X b 6 xs s s.heap) (hbl : b < s.heap.size) (hI : LI_ D g s H x r rt rm o ro ou) (hlo : ∀ q ∈ locs, s.heap.size ≤ q.base) (hl : lv_has ls 7 [(4, .int (nI 0)), (3, .ref ou), (2, .ref o), (1, .ref x), (0, .ref b)]) (hend : LQ_ p l e s m args below meth c b Q) (y0 : xs 1 ≠ 0) : W p l e room_1 s m args below meth c H locs 274 206097 Q (F0 m 208 ls []) := by
  obtain ⟨hz, h0, k_x, k_r6, k_r7, f_rt0, x_rt0, f_r1, n_x_r6, n_x_r7, n_r6_r7, f_r2, z_r2, k_o, f_o1, f_o9, z_o9, k_ou, a_ox, a_o6, a_o7, a_ot, a_ou, a_1u, a_ut, b_x, b_6, b_7, b_t, b_o, b_1, b_u⟩ := hI
  obtain ⟨hx, hb, hml, hown, hts, hG, hK⟩ := id EE
  refine lv_aload_n hx hb d_L_law_208 rfl (lv_at hl 3 rfl) ?_
  refine lv_aload_n hx hb d_L_law_209 rfl (lv_at hl 4 rfl) ?_
  refine lv_iload hx hb d_L_law_210 (lv_at hl 0 rfl) ?_
  refine lv_iconst (v := nI 1) hx hb d_L_law_212 (by decide +kernel) ?_
  refine lv_iadd hx hb d_L_law_213 ?_
  refine sx_ti (y := nI (1)) (nI_add _ _) ?_
  refine lw_ld hx hb hX hbl h0 (by decide) d_L_law_214 ?_
  refine lv_aload_n hx hb d_L_law_215 rfl (lv_at hl 1 rfl) ?_
  have hF : ∀ q, (fun _ => False) q → s.heap.size ≤ q := by
    intro q h
    exact h.elim
  refine px_gW (E' := (fun _ => False)) (F := fun q => s.heap.size ≤ q) (V := nI 1) (P := fun H => True) (mc := 1) (ms := 6) (cells' := 275) (slots' := 206103) (px_runSW (As := [.ref x, .int (xs 1), .ref ou]) (rest := []) EE hKx h0 (c_L_end htr k_x k_r6 k_r7 f_rt0 x_rt0 f_r1 k_ou n_x_r6 n_x_r7 n_r6_r7 y0) ws_L_68 rfl ⟨rfl, rfl⟩ ⟨Nat.le_of_ble_eq_true rfl, Nat.le_of_ble_eq_true rfl⟩ ⟨Nat.le_of_ble_eq_true rfl, Nat.le_of_ble_eq_true rfl⟩ hl.1 rfl (Nat.le_of_ble_eq_true rfl) d_L_law_216) hF hlo rfl rfl (fun H1 locs hJ hP hlo => ?_)
  have h0 : ∀ q : Nat, q < s.heap.size → H1[q]? = s.heap[q]? := fun q hq => (hJ.2.1 q (Nat.lt_of_lt_of_le hq hz) (fun h => Nat.not_le.mpr hq (hF q h))).trans (h0 q hq)
  have hz := Nat.le_trans hz hJ.1
  have k_o := hJ.ob id k_o
  have f_o1 := hJ.2.2.1 _ _ _ f_o1
  refine lv_istore (lv' := [(5, .int (nI (1))), (4, .int (nI (0))), (3, .ref ou), (2, .ref o), (1, .ref x), (0, .ref b)]) hx hb d_L_law_219 hl (by decide) rfl (fun ls hl => ?_)
  refine lv_aload_n hx hb d_L_law_221 rfl (lv_at hl 3 rfl) ?_
  refine lv_aload_n hx hb d_L_law_222 rfl (lv_at hl 5 rfl) ?_
  refine lv_iload hx hb d_L_law_223 (lv_at hl 1 rfl) ?_
  refine lv_iconst (v := nI 1) hx hb d_L_law_225 (by decide +kernel) ?_
  refine lv_iadd hx hb d_L_law_226 ?_
  refine sx_ti (y := nI (1)) (nI_add _ _) ?_
  refine lw_ld hx hb hX hbl h0 (by decide) d_L_law_227 ?_
  have hF : ∀ q, (fun z => z = o) q → s.heap.size ≤ q := by
    intro q h
    rw [show q = o from h]
    exact b_o
  refine px_gW (E' := (fun z => z = o)) (F := fun q => s.heap.size ≤ q) (V := nI 0) (P := fun H => va_P D classes [(o, .inr (0, mo_fs ro (fun k => if k = 0 then (nI (1)) else 0)))] H) (mc := 0) (ms := 0) (cells' := 275) (slots' := 206103) (sx_runV (As := [.int (xs 1)]) (rest := []) EE k_o rfl rfl (c_M_end k_o y0) w_L_71 rfl ⟨rfl, rfl⟩ ⟨Nat.le_of_ble_eq_true rfl, Nat.le_of_ble_eq_true rfl⟩ ⟨Nat.le_of_ble_eq_true rfl, Nat.le_of_ble_eq_true rfl⟩ hl.1 rfl (Nat.le_of_ble_eq_true rfl) d_L_law_228) hF hlo rfl rfl (fun H2 locs hJ hP hlo => ?_)
  have h0 : ∀ q : Nat, q < s.heap.size → H2[q]? = s.heap[q]? := fun q hq => (hJ.2.1 q (Nat.lt_of_lt_of_le hq hz) (fun h => Nat.not_le.mpr hq (hF q h))).trans (h0 q hq)
  have hz := Nat.le_trans hz hJ.1
  have k_o := hP
  refine lv_istore (lv' := [(6, .int (nI (0))), (5, .int (nI (1))), (4, .int (nI (0))), (3, .ref ou), (2, .ref o), (1, .ref x), (0, .ref b)]) hx hb d_L_law_231 hl (by decide) rfl (fun ls hl => ?_)
  refine lv_aload_n hx hb d_L_law_233 rfl (lv_at hl 4 rfl) ?_
  refine px_gW (E' := (fun _ => False)) (F := fun q => s.heap.size ≤ q) (V := nI 1) (P := fun H => True) (mc := 0) (ms := 0) (cells' := 275) (slots' := 206103) (sx_runV (As := []) (rest := []) EE k_o rfl rfl (c_M_thrown k_o rfl) w_L_65 rfl ⟨rfl, rfl⟩ ⟨Nat.le_of_ble_eq_true rfl, Nat.le_of_ble_eq_true rfl⟩ ⟨Nat.le_of_ble_eq_true rfl, Nat.le_of_ble_eq_true rfl⟩ hl.1 rfl (Nat.le_of_ble_eq_true rfl) d_L_law_234) (fun _ h => h.elim) hlo rfl rfl (fun H3 locs hJ hP hlo => ?_)
  have h0 : ∀ q : Nat, q < s.heap.size → H3[q]? = s.heap[q]? := fun q hq => (hJ.2.1 q (Nat.lt_of_lt_of_le hq hz) (fun h => h.elim)).trans (h0 q hq)
  have hz := Nat.le_trans hz hJ.1
  refine lv_iload hx hb d_L_law_237 (lv_at hl 1 rfl) ?_
  refine lv_icmp_eq (tgt := 244) hx hb d_L_law_239 (by decide) (fun _ => ?_) (fun q => absurd (by decide +kernel) q)
  refine lv_iload hx hb d_L_law_244 (lv_at hl 1 rfl) ?_
  refine lv_if_ne (tgt := 261) hx hb d_L_law_246 (by decide) (fun _ => ?_) (fun q => absurd q (by decide +kernel))
  refine lv_goto (tgt := 712) hx hb d_L_law_261 (by decide) ?_
  exact hend _ _ _ _ _ h0 hlo (Nat.le_of_ble_eq_true rfl) (Nat.le_of_ble_eq_true rfl) (lv_sub hl [2, 6] rfl)
set_option maxHeartbeats 4000000 in
set_option maxRecDepth 100000 in
theorem lr_key {p : Program} {l : Launch} {e : Env} {s : State} {m : MethodId} {args : Array Value} {below : List Frame} {meth : Method} {c : Code} {Q : State → Prop} {D : va_G} {g : ClassId → FieldType → Prop} {b : Nat} {xs : Nat → Int32} {H : Heap} {locs : List Loc} {ls : Array Slot} {x o ou : Nat} {r rt rm ro : Nat → Nat} (htr : l.stackTraces = false) (EE : sx_E p s m args c code 7 R_L D g) (hKx : tx_K s) (hX : va_X b 6 xs s s.heap) (hbl : b < s.heap.size) (hI : LI_ D g s H x r rt rm o ro ou) (hlo : ∀ q ∈ locs, s.heap.size ≤ q.base) (hl : lv_has ls 7 [(4, .int (nI 0)), (3, .ref ou), (2, .ref o), (1, .ref x), (0, .ref b)]) (hend : LQ_ p l e s m args below meth c b Q)  : W p l e room_1 s m args below meth c H locs 274 206097 Q (F0 m 264 ls []) := by
  obtain ⟨hz, h0, k_x, k_r6, k_r7, f_rt0, x_rt0, f_r1, n_x_r6, n_x_r7, n_r6_r7, f_r2, z_r2, k_o, f_o1, f_o9, z_o9, k_ou, a_ox, a_o6, a_o7, a_ot, a_ou, a_1u, a_ut, b_x, b_6, b_7, b_t, b_o, b_1, b_u⟩ := hI
  obtain ⟨hx, hb, hml, hown, hts, hG, hK⟩ := id EE
  refine lv_aload_n hx hb d_L_law_264 rfl (lv_at hl 3 rfl) ?_
  refine lv_aload_n hx hb d_L_law_265 rfl (lv_at hl 1 rfl) ?_
  have hF : ∀ q, (fun _ => False) q → s.heap.size ≤ q := by
    intro q h
    exact h.elim
  refine px_gW (E' := (fun _ => False)) (F := fun q => s.heap.size ≤ q) (V := nI 1) (P := fun H => True) (mc := 1) (ms := 6) (cells' := 275) (slots' := 206103) (px_runSW (As := [.ref x, .ref ou]) (rest := []) EE hKx h0 (c_L_key htr k_x k_r6 k_r7 f_rt0 x_rt0 f_r1 k_ou n_x_r6 n_x_r7 n_r6_r7) ws_L_72 rfl ⟨rfl, rfl⟩ ⟨Nat.le_of_ble_eq_true rfl, Nat.le_of_ble_eq_true rfl⟩ ⟨Nat.le_of_ble_eq_true rfl, Nat.le_of_ble_eq_true rfl⟩ hl.1 rfl (Nat.le_of_ble_eq_true rfl) d_L_law_266) hF hlo rfl rfl (fun H1 locs hJ hP hlo => ?_)
  have h0 : ∀ q : Nat, q < s.heap.size → H1[q]? = s.heap[q]? := fun q hq => (hJ.2.1 q (Nat.lt_of_lt_of_le hq hz) (fun h => Nat.not_le.mpr hq (hF q h))).trans (h0 q hq)
  have hz := Nat.le_trans hz hJ.1
  have k_o := hJ.ob id k_o
  have f_o1 := hJ.2.2.1 _ _ _ f_o1
  refine lv_istore (lv' := [(5, .int (nI (1))), (4, .int (nI (0))), (3, .ref ou), (2, .ref o), (1, .ref x), (0, .ref b)]) hx hb d_L_law_269 hl (by decide) rfl (fun ls hl => ?_)
  refine lv_aload_n hx hb d_L_law_271 rfl (lv_at hl 3 rfl) ?_
  have hF : ∀ q, (fun z => z = o) q → s.heap.size ≤ q := by
    intro q h
    rw [show q = o from h]
    exact b_o
  refine px_gW (E' := (fun z => z = o)) (F := fun q => s.heap.size ≤ q) (V := nI 0) (P := fun H => va_P D classes [(o, .inr (0, mo_fs ro (fun k => if k = 0 then (nI (1)) else 0)))] H) (mc := 0) (ms := 0) (cells' := 275) (slots' := 206103) (sx_runV (As := []) (rest := []) EE k_o rfl rfl (c_M_key k_o) w_L_75 rfl ⟨rfl, rfl⟩ ⟨Nat.le_of_ble_eq_true rfl, Nat.le_of_ble_eq_true rfl⟩ ⟨Nat.le_of_ble_eq_true rfl, Nat.le_of_ble_eq_true rfl⟩ hl.1 rfl (Nat.le_of_ble_eq_true rfl) d_L_law_272) hF hlo rfl rfl (fun H2 locs hJ hP hlo => ?_)
  have h0 : ∀ q : Nat, q < s.heap.size → H2[q]? = s.heap[q]? := fun q hq => (hJ.2.1 q (Nat.lt_of_lt_of_le hq hz) (fun h => Nat.not_le.mpr hq (hF q h))).trans (h0 q hq)
  have hz := Nat.le_trans hz hJ.1
  have k_o := hP
  refine lv_istore (lv' := [(6, .int (nI (0))), (5, .int (nI (1))), (4, .int (nI (0))), (3, .ref ou), (2, .ref o), (1, .ref x), (0, .ref b)]) hx hb d_L_law_275 hl (by decide) rfl (fun ls hl => ?_)
  refine lv_aload_n hx hb d_L_law_277 rfl (lv_at hl 4 rfl) ?_
  refine px_gW (E' := (fun _ => False)) (F := fun q => s.heap.size ≤ q) (V := nI 1) (P := fun H => True) (mc := 0) (ms := 0) (cells' := 275) (slots' := 206103) (sx_runV (As := []) (rest := []) EE k_o rfl rfl (c_M_thrown k_o rfl) w_L_65 rfl ⟨rfl, rfl⟩ ⟨Nat.le_of_ble_eq_true rfl, Nat.le_of_ble_eq_true rfl⟩ ⟨Nat.le_of_ble_eq_true rfl, Nat.le_of_ble_eq_true rfl⟩ hl.1 rfl (Nat.le_of_ble_eq_true rfl) d_L_law_278) (fun _ h => h.elim) hlo rfl rfl (fun H3 locs hJ hP hlo => ?_)
  have h0 : ∀ q : Nat, q < s.heap.size → H3[q]? = s.heap[q]? := fun q hq => (hJ.2.1 q (Nat.lt_of_lt_of_le hq hz) (fun h => h.elim)).trans (h0 q hq)
  have hz := Nat.le_trans hz hJ.1
  refine lv_iload hx hb d_L_law_281 (lv_at hl 1 rfl) ?_
  refine lv_icmp_eq (tgt := 288) hx hb d_L_law_283 (by decide) (fun _ => ?_) (fun q => absurd (by decide +kernel) q)
  refine lv_iload hx hb d_L_law_288 (lv_at hl 1 rfl) ?_
  refine lv_if_ne (tgt := 305) hx hb d_L_law_290 (by decide) (fun _ => ?_) (fun q => absurd q (by decide +kernel))
  refine lv_goto (tgt := 712) hx hb d_L_law_305 (by decide) ?_
  exact hend _ _ _ _ _ h0 hlo (Nat.le_of_ble_eq_true rfl) (Nat.le_of_ble_eq_true rfl) (lv_sub hl [2, 6] rfl)
set_option maxHeartbeats 4000000 in
set_option maxRecDepth 100000 in
theorem lr_open {p : Program} {l : Launch} {e : Env} {s : State} {m : MethodId} {args : Array Value} {below : List Frame} {meth : Method} {c : Code} {Q : State → Prop} {D : va_G} {g : ClassId → FieldType → Prop} {b : Nat} {xs : Nat → Int32} {H : Heap} {locs : List Loc} {ls : Array Slot} {x o ou : Nat} {r rt rm ro : Nat → Nat} (htr : l.stackTraces = false) (EE : sx_E p s m args c code 7 R_L D g) (hKx : tx_K s) (hX : va_X b 6 xs s s.heap) (hbl : b < s.heap.size) (hI : LI_ D g s H x r rt rm o ro ou) (hlo : ∀ q ∈ locs, s.heap.size ≤ q.base) (hl : lv_has ls 7 [(4, .int (nI 0)), (3, .ref ou), (2, .ref o), (1, .ref x), (0, .ref b)]) (hend : LQ_ p l e s m args below meth c b Q)  : W p l e room_1 s m args below meth c H locs 274 206097 Q (F0 m 308 ls []) := by
  obtain ⟨hz, h0, k_x, k_r6, k_r7, f_rt0, x_rt0, f_r1, n_x_r6, n_x_r7, n_r6_r7, f_r2, z_r2, k_o, f_o1, f_o9, z_o9, k_ou, a_ox, a_o6, a_o7, a_ot, a_ou, a_1u, a_ut, b_x, b_6, b_7, b_t, b_o, b_1, b_u⟩ := hI
  obtain ⟨hx, hb, hml, hown, hts, hG, hK⟩ := id EE
  refine lv_aload_n hx hb d_L_law_308 rfl (lv_at hl 3 rfl) ?_
  refine lv_aload_n hx hb d_L_law_309 rfl (lv_at hl 4 rfl) ?_
  refine lv_iload hx hb d_L_law_310 (lv_at hl 0 rfl) ?_
  refine lv_iconst (v := nI 1) hx hb d_L_law_312 (by decide +kernel) ?_
  refine lv_iadd hx hb d_L_law_313 ?_
  refine sx_ti (y := nI (1)) (nI_add _ _) ?_
  refine lw_ld hx hb hX hbl h0 (by decide) d_L_law_314 ?_
  refine lv_aload_n hx hb d_L_law_315 rfl (lv_at hl 4 rfl) ?_
  refine lv_iload hx hb d_L_law_316 (lv_at hl 0 rfl) ?_
  refine lv_iconst (v := nI 2) hx hb d_L_law_318 (by decide +kernel) ?_
  refine lv_iadd hx hb d_L_law_319 ?_
  refine sx_ti (y := nI (2)) (nI_add _ _) ?_
  refine lw_ld hx hb hX hbl h0 (by decide) d_L_law_320 ?_
  have hF : ∀ q, (fun _ => False) q → s.heap.size ≤ q := by
    intro q h
    exact h.elim
  refine px_gW (E' := (fun _ => False)) (F := fun q => s.heap.size ≤ q) (V := nI 1) (P := fun H => True) (mc := 1) (ms := 6) (cells' := 275) (slots' := 206103) (px_runSW (As := [.ref x, .int (xs 1), .int (xs 2)]) (rest := []) EE hKx h0 (c_L_open htr k_x k_r6 k_r7 f_rt0 x_rt0 f_r1 n_x_r6 n_x_r7 n_r6_r7) ws_L_76 rfl ⟨rfl, rfl⟩ ⟨Nat.le_of_ble_eq_true rfl, Nat.le_of_ble_eq_true rfl⟩ ⟨Nat.le_of_ble_eq_true rfl, Nat.le_of_ble_eq_true rfl⟩ hl.1 rfl (Nat.le_of_ble_eq_true rfl) d_L_law_321) hF hlo rfl rfl (fun H1 locs hJ hP hlo => ?_)
  have h0 : ∀ q : Nat, q < s.heap.size → H1[q]? = s.heap[q]? := fun q hq => (hJ.2.1 q (Nat.lt_of_lt_of_le hq hz) (fun h => Nat.not_le.mpr hq (hF q h))).trans (h0 q hq)
  have hz := Nat.le_trans hz hJ.1
  have k_o := hJ.ob id k_o
  have f_o1 := hJ.2.2.1 _ _ _ f_o1
  refine lv_istore (lv' := [(5, .int (nI (1))), (4, .int (nI (0))), (3, .ref ou), (2, .ref o), (1, .ref x), (0, .ref b)]) hx hb d_L_law_324 hl (by decide) rfl (fun ls hl => ?_)
  refine lv_aload_n hx hb d_L_law_326 rfl (lv_at hl 3 rfl) ?_
  refine lv_aload_n hx hb d_L_law_327 rfl (lv_at hl 5 rfl) ?_
  refine lv_iload hx hb d_L_law_328 (lv_at hl 1 rfl) ?_
  refine lv_iconst (v := nI 1) hx hb d_L_law_330 (by decide +kernel) ?_
  refine lv_iadd hx hb d_L_law_331 ?_
  refine sx_ti (y := nI (1)) (nI_add _ _) ?_
  refine lw_ld hx hb hX hbl h0 (by decide) d_L_law_332 ?_
  refine lv_aload_n hx hb d_L_law_333 rfl (lv_at hl 5 rfl) ?_
  refine lv_iload hx hb d_L_law_334 (lv_at hl 1 rfl) ?_
  refine lv_iconst (v := nI 2) hx hb d_L_law_336 (by decide +kernel) ?_
  refine lv_iadd hx hb d_L_law_337 ?_
  refine sx_ti (y := nI (2)) (nI_add _ _) ?_
  refine lw_ld hx hb hX hbl h0 (by decide) d_L_law_338 ?_
  have hF : ∀ q, (fun z => z = o) q → s.heap.size ≤ q := by
    intro q h
    rw [show q = o from h]
    exact b_o
  refine px_gWv (E' := (fun z => z = o)) (F := fun q => s.heap.size ≤ q) (P := fun H => va_P D classes [(o, .inr (0, mo_fs ro (fun k => if k = 0 then (nI (1)) else 0)))] H) (mc := 0) (ms := 0) (cells' := 275) (slots' := 206103) (sx_runV (As := [.int (xs 1), .int (xs 2)]) (rest := []) EE k_o rfl rfl (c_M_open k_o) w_L_79 rfl ⟨rfl, rfl⟩ ⟨Nat.le_of_ble_eq_true rfl, Nat.le_of_ble_eq_true rfl⟩ ⟨Nat.le_of_ble_eq_true rfl, Nat.le_of_ble_eq_true rfl⟩ hl.1 rfl (Nat.le_of_ble_eq_true rfl) d_L_law_339) hF hlo rfl rfl (fun H2 locs hJ hP hlo => ?_)
  have h0 : ∀ q : Nat, q < s.heap.size → H2[q]? = s.heap[q]? := fun q hq => (hJ.2.1 q (Nat.lt_of_lt_of_le hq hz) (fun h => Nat.not_le.mpr hq (hF q h))).trans (h0 q hq)
  have hz := Nat.le_trans hz hJ.1
  have k_o := hP
  refine lv_aload_n hx hb d_L_law_342 rfl (lv_at hl 3 rfl) ?_
  refine px_gW (E' := (fun _ => False)) (F := fun q => s.heap.size ≤ q) (V := nI 1) (P := fun H => True) (mc := 0) (ms := 0) (cells' := 275) (slots' := 206103) (sx_runV (As := []) (rest := []) EE k_o rfl rfl (c_M_thrown k_o rfl) w_L_65 rfl ⟨rfl, rfl⟩ ⟨Nat.le_of_ble_eq_true rfl, Nat.le_of_ble_eq_true rfl⟩ ⟨Nat.le_of_ble_eq_true rfl, Nat.le_of_ble_eq_true rfl⟩ hl.1 rfl (Nat.le_of_ble_eq_true rfl) d_L_law_343) (fun _ h => h.elim) hlo rfl rfl (fun H3 locs hJ hP hlo => ?_)
  have h0 : ∀ q : Nat, q < s.heap.size → H3[q]? = s.heap[q]? := fun q hq => (hJ.2.1 q (Nat.lt_of_lt_of_le hq hz) (fun h => h.elim)).trans (h0 q hq)
  have hz := Nat.le_trans hz hJ.1
  refine lv_iload hx hb d_L_law_346 (lv_at hl 0 rfl) ?_
  refine lv_icmp_eq (tgt := 353) hx hb d_L_law_348 (by decide) (fun _ => ?_) (fun q => absurd (by decide +kernel) q)
  refine lv_goto (tgt := 712) hx hb d_L_law_353 (by decide) ?_
  exact hend _ _ _ _ _ h0 hlo (Nat.le_of_ble_eq_true rfl) (Nat.le_of_ble_eq_true rfl) (lv_sub hl [1, 5] rfl)
set_option maxHeartbeats 4000000 in
set_option maxRecDepth 100000 in
theorem lr_agree {p : Program} {l : Launch} {e : Env} {s : State} {m : MethodId} {args : Array Value} {below : List Frame} {meth : Method} {c : Code} {Q : State → Prop} {D : va_G} {g : ClassId → FieldType → Prop} {b : Nat} {xs : Nat → Int32} {H : Heap} {locs : List Loc} {ls : Array Slot} {x o ou : Nat} {r rt rm ro : Nat → Nat} (htr : l.stackTraces = false) (EE : sx_E p s m args c code 7 R_L D g) (hKx : tx_K s) (hX : va_X b 6 xs s s.heap) (hbl : b < s.heap.size) (hI : LI_ D g s H x r rt rm o ro ou) (hlo : ∀ q ∈ locs, s.heap.size ≤ q.base) (hl : lv_has ls 7 [(4, .int (nI 0)), (3, .ref ou), (2, .ref o), (1, .ref x), (0, .ref b)]) (hend : LQ_ p l e s m args below meth c b Q)  : W p l e room_1 s m args below meth c H locs 274 206097 Q (F0 m 356 ls []) := by
  obtain ⟨hz, h0, k_x, k_r6, k_r7, f_rt0, x_rt0, f_r1, n_x_r6, n_x_r7, n_r6_r7, f_r2, z_r2, k_o, f_o1, f_o9, z_o9, k_ou, a_ox, a_o6, a_o7, a_ot, a_ou, a_1u, a_ut, b_x, b_6, b_7, b_t, b_o, b_1, b_u⟩ := hI
  obtain ⟨hx, hb, hml, hown, hts, hG, hK⟩ := id EE
  refine lv_aload_n hx hb d_L_law_356 rfl (lv_at hl 3 rfl) ?_
  refine lv_aload_n hx hb d_L_law_357 rfl (lv_at hl 4 rfl) ?_
  refine lv_iload hx hb d_L_law_358 (lv_at hl 0 rfl) ?_
  refine lv_iconst (v := nI 1) hx hb d_L_law_360 (by decide +kernel) ?_
  refine lv_iadd hx hb d_L_law_361 ?_
  refine sx_ti (y := nI (1)) (nI_add _ _) ?_
  refine lw_ld hx hb hX hbl h0 (by decide) d_L_law_362 ?_
  refine lv_aload_n hx hb d_L_law_363 rfl (lv_at hl 1 rfl) ?_
  have hF : ∀ q, (fun _ => False) q → s.heap.size ≤ q := by
    intro q h
    exact h.elim
  refine px_gW (E' := (fun _ => False)) (F := fun q => s.heap.size ≤ q) (V := nI 1) (P := fun H => True) (mc := 1) (ms := 6) (cells' := 275) (slots' := 206103) (px_runSW (As := [.ref x, .int (xs 1), .ref ou]) (rest := []) EE hKx h0 (c_L_agree htr k_x k_r6 k_r7 f_rt0 x_rt0 f_r1 k_ou n_x_r6 n_x_r7 n_r6_r7) ws_L_80 rfl ⟨rfl, rfl⟩ ⟨Nat.le_of_ble_eq_true rfl, Nat.le_of_ble_eq_true rfl⟩ ⟨Nat.le_of_ble_eq_true rfl, Nat.le_of_ble_eq_true rfl⟩ hl.1 rfl (Nat.le_of_ble_eq_true rfl) d_L_law_364) hF hlo rfl rfl (fun H1 locs hJ hP hlo => ?_)
  have h0 : ∀ q : Nat, q < s.heap.size → H1[q]? = s.heap[q]? := fun q hq => (hJ.2.1 q (Nat.lt_of_lt_of_le hq hz) (fun h => Nat.not_le.mpr hq (hF q h))).trans (h0 q hq)
  have hz := Nat.le_trans hz hJ.1
  have k_o := hJ.ob id k_o
  have f_o1 := hJ.2.2.1 _ _ _ f_o1
  refine lv_istore (lv' := [(5, .int (nI (1))), (4, .int (nI (0))), (3, .ref ou), (2, .ref o), (1, .ref x), (0, .ref b)]) hx hb d_L_law_367 hl (by decide) rfl (fun ls hl => ?_)
  refine lv_aload_n hx hb d_L_law_369 rfl (lv_at hl 3 rfl) ?_
  refine lv_aload_n hx hb d_L_law_370 rfl (lv_at hl 5 rfl) ?_
  refine lv_iload hx hb d_L_law_371 (lv_at hl 1 rfl) ?_
  refine lv_iconst (v := nI 1) hx hb d_L_law_373 (by decide +kernel) ?_
  refine lv_iadd hx hb d_L_law_374 ?_
  refine sx_ti (y := nI (1)) (nI_add _ _) ?_
  refine lw_ld hx hb hX hbl h0 (by decide) d_L_law_375 ?_
  have hF : ∀ q, (fun z => z = o) q → s.heap.size ≤ q := by
    intro q h
    rw [show q = o from h]
    exact b_o
  refine px_gW (E' := (fun z => z = o)) (F := fun q => s.heap.size ≤ q) (V := nI 0) (P := fun H => va_P D classes [(o, .inr (0, mo_fs ro (fun k => if k = 0 then (nI (1)) else 0)))] H) (mc := 0) (ms := 0) (cells' := 275) (slots' := 206103) (sx_runV (As := [.int (xs 1)]) (rest := []) EE k_o rfl rfl (c_M_agree k_o) w_L_82 rfl ⟨rfl, rfl⟩ ⟨Nat.le_of_ble_eq_true rfl, Nat.le_of_ble_eq_true rfl⟩ ⟨Nat.le_of_ble_eq_true rfl, Nat.le_of_ble_eq_true rfl⟩ hl.1 rfl (Nat.le_of_ble_eq_true rfl) d_L_law_376) hF hlo rfl rfl (fun H2 locs hJ hP hlo => ?_)
  have h0 : ∀ q : Nat, q < s.heap.size → H2[q]? = s.heap[q]? := fun q hq => (hJ.2.1 q (Nat.lt_of_lt_of_le hq hz) (fun h => Nat.not_le.mpr hq (hF q h))).trans (h0 q hq)
  have hz := Nat.le_trans hz hJ.1
  have k_o := hP
  refine lv_istore (lv' := [(6, .int (nI (0))), (5, .int (nI (1))), (4, .int (nI (0))), (3, .ref ou), (2, .ref o), (1, .ref x), (0, .ref b)]) hx hb d_L_law_379 hl (by decide) rfl (fun ls hl => ?_)
  refine lv_aload_n hx hb d_L_law_381 rfl (lv_at hl 4 rfl) ?_
  refine px_gW (E' := (fun _ => False)) (F := fun q => s.heap.size ≤ q) (V := nI 1) (P := fun H => True) (mc := 0) (ms := 0) (cells' := 275) (slots' := 206103) (sx_runV (As := []) (rest := []) EE k_o rfl rfl (c_M_thrown k_o rfl) w_L_65 rfl ⟨rfl, rfl⟩ ⟨Nat.le_of_ble_eq_true rfl, Nat.le_of_ble_eq_true rfl⟩ ⟨Nat.le_of_ble_eq_true rfl, Nat.le_of_ble_eq_true rfl⟩ hl.1 rfl (Nat.le_of_ble_eq_true rfl) d_L_law_382) (fun _ h => h.elim) hlo rfl rfl (fun H3 locs hJ hP hlo => ?_)
  have h0 : ∀ q : Nat, q < s.heap.size → H3[q]? = s.heap[q]? := fun q hq => (hJ.2.1 q (Nat.lt_of_lt_of_le hq hz) (fun h => h.elim)).trans (h0 q hq)
  have hz := Nat.le_trans hz hJ.1
  refine lv_iload hx hb d_L_law_385 (lv_at hl 1 rfl) ?_
  refine lv_icmp_eq (tgt := 392) hx hb d_L_law_387 (by decide) (fun _ => ?_) (fun q => absurd (by decide +kernel) q)
  refine lv_iload hx hb d_L_law_392 (lv_at hl 1 rfl) ?_
  refine lv_if_ne (tgt := 416) hx hb d_L_law_394 (by decide) (fun _ => ?_) (fun q => absurd q (by decide +kernel))
  refine lv_goto (tgt := 712) hx hb d_L_law_416 (by decide) ?_
  exact hend _ _ _ _ _ h0 hlo (Nat.le_of_ble_eq_true rfl) (Nat.le_of_ble_eq_true rfl) (lv_sub hl [2, 6] rfl)
set_option maxHeartbeats 4000000 in
set_option maxRecDepth 100000 in
theorem lr_message {p : Program} {l : Launch} {e : Env} {s : State} {m : MethodId} {args : Array Value} {below : List Frame} {meth : Method} {c : Code} {Q : State → Prop} {D : va_G} {g : ClassId → FieldType → Prop} {b : Nat} {xs : Nat → Int32} {H : Heap} {locs : List Loc} {ls : Array Slot} {x o ou : Nat} {r rt rm ro : Nat → Nat} (htr : l.stackTraces = false) (EE : sx_E p s m args c code 7 R_L D g) (hKx : tx_K s) (hX : va_X b 6 xs s s.heap) (hbl : b < s.heap.size) (hI : LI_ D g s H x r rt rm o ro ou) (hlo : ∀ q ∈ locs, s.heap.size ≤ q.base) (hl : lv_has ls 7 [(4, .int (nI 0)), (3, .ref ou), (2, .ref o), (1, .ref x), (0, .ref b)]) (hend : LQ_ p l e s m args below meth c b Q)  : W p l e room_1 s m args below meth c H locs 274 206097 Q (F0 m 419 ls []) := by
  obtain ⟨hz, h0, k_x, k_r6, k_r7, f_rt0, x_rt0, f_r1, n_x_r6, n_x_r7, n_r6_r7, f_r2, z_r2, k_o, f_o1, f_o9, z_o9, k_ou, a_ox, a_o6, a_o7, a_ot, a_ou, a_1u, a_ut, b_x, b_6, b_7, b_t, b_o, b_1, b_u⟩ := hI
  obtain ⟨hx, hb, hml, hown, hts, hG, hK⟩ := id EE
  refine lv_aload_n hx hb d_L_law_419 rfl (lv_at hl 3 rfl) ?_
  have hF : ∀ q, (fun z => z = x ∨ z = (r 6) ∨ z = (r 7)) q → s.heap.size ≤ q := by
    intro q h
    rcases h with rfl | rfl | rfl
    · exact b_x
    · exact b_6
    · exact b_7
  refine px_gW (E' := (fun z => z = x ∨ z = (r 6) ∨ z = (r 7))) (F := fun q => s.heap.size ≤ q) (V := nI 0) (P := fun H => True) (mc := 0) (ms := 0) (cells' := 274) (slots' := 206097) (sx_runV (As := []) (rest := []) EE k_x rfl rfl (c_K_message k_x k_r6 k_r7 f_rt0 x_rt0 f_r1 n_x_r6 n_x_r7 n_r6_r7) w_L_83 rfl ⟨rfl, rfl⟩ ⟨Nat.le_of_ble_eq_true rfl, Nat.le_of_ble_eq_true rfl⟩ ⟨Nat.le_of_ble_eq_true rfl, Nat.le_of_ble_eq_true rfl⟩ hl.1 rfl (Nat.le_of_ble_eq_true rfl) d_L_law_420) hF hlo rfl rfl (fun H1 locs hJ hP hlo => ?_)
  have h0 : ∀ q : Nat, q < s.heap.size → H1[q]? = s.heap[q]? := fun q hq => (hJ.2.1 q (Nat.lt_of_lt_of_le hq hz) (fun h => Nat.not_le.mpr hq (hF q h))).trans (h0 q hq)
  have hz := Nat.le_trans hz hJ.1
  have k_o := hJ.ob (fun h => h.elim a_ox (fun h => h.elim a_o6 a_o7)) k_o
  have f_o1 := hJ.2.2.1 _ _ _ f_o1
  have f_o9 := hJ.2.2.1 _ _ _ f_o9
  refine lv_aload_n hx hb d_L_law_423 rfl (lv_at hl 2 rfl) ?_
  have hF : ∀ q, (fun z => z = o) q → s.heap.size ≤ q := by
    intro q h
    rw [show q = o from h]
    exact b_o
  refine px_gW (E' := (fun z => z = o)) (F := fun q => s.heap.size ≤ q) (V := nI 0) (P := fun H => va_P D classes [(o, .inr (0, mo_fs ro (fun _ => 0)))] H) (mc := 0) (ms := 0) (cells' := 274) (slots' := 206097) (sx_runV (As := []) (rest := [.int (nI (0))]) EE k_o rfl rfl (c_M_message k_o) w_L_86 rfl ⟨rfl, rfl⟩ ⟨Nat.le_of_ble_eq_true rfl, Nat.le_of_ble_eq_true rfl⟩ ⟨Nat.le_of_ble_eq_true rfl, Nat.le_of_ble_eq_true rfl⟩ hl.1 rfl (Nat.le_of_ble_eq_true rfl) d_L_law_424) hF hlo rfl rfl (fun H2 locs hJ hP hlo => ?_)
  have h0 : ∀ q : Nat, q < s.heap.size → H2[q]? = s.heap[q]? := fun q hq => (hJ.2.1 q (Nat.lt_of_lt_of_le hq hz) (fun h => Nat.not_le.mpr hq (hF q h))).trans (h0 q hq)
  have hz := Nat.le_trans hz hJ.1
  have k_o := hP
  refine lv_icmp_eq (tgt := 712) hx hb d_L_law_427 (by decide) (fun _ => ?_) (fun q => absurd (by decide +kernel) q)
  exact hend _ _ _ _ _ h0 hlo (Nat.le_of_ble_eq_true rfl) (Nat.le_of_ble_eq_true rfl) (lv_sub hl [0, 4] rfl)
