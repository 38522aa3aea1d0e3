set_option maxHeartbeats 4000000 in
set_option maxRecDepth 100000 in
theorem lr_feed {l : Launch} {D : va_G} {g : ClassId → FieldType → Prop} {kq : Nat → Nat → Nat} {ts : Nat → Nat} {x kA re ve ou o a1 a3 cap : Nat} {r : Nat → Nat} {p : Program} {e : Env} {s : State} {m : MethodId} {args : Array Value} {below : List Frame} {meth : Method} {c : Code} {Q : State → Prop} {ls : Array Slot} {locs : List Loc} {H : Heap} {b L n cells slots : Nat} {xs : Nat → Int32} (htr : l.stackTraces = false) (EE : sx_E p s m args c b_L_law 7 R_L D g) (hKx : tx_K s) (hX : va_X b L xs s s.heap) (hL : L ≤ 3072) (hbl : b < s.heap.size) (hn6 : 6 * n + 6 ≤ L) (hcx : Cxt D kq ts ou o s.heap.size a1 a3 r) (hR : RelE D g kq ts x kA re ve ou o s.heap.size a1 a3 cap r H) (h0 : ∀ q : Nat, q < s.heap.size → H[q]? = s.heap[q]?) (hz : s.heap.size ≤ H.size) (hlo : ∀ q ∈ locs, s.heap.size ≤ q.base) (hcl : cells ≤ 274 + 5 * n) (hsl : slots ≤ 206097 + 2 * cap + 133 * n) (hl : lv_has ls 7 [(4, .int (nI (6 * n))), (3, .ref ou), (2, .ref o), (1, .ref x), (0, .ref b)]) (hend : LQ_ p l e s m args below meth c Q D g kq ts x kA re ve ou o a1 a3 r b n) : W p l e room_1 s m args below meth c H locs cells slots Q (F0 m 104 ls []) := by
  obtain ⟨hx, hb, hml, hown, hts, hG, hK⟩ := id EE
  have hcap := hR.cap
  obtain ⟨th, tl, ml, rl, kc, tp, ms, rs, ks, hR⟩ := hR
  have k_o := hR.2.1.1
  obtain ⟨fx, k_x⟩ := hR.1.px
  have hmE : ∀ z, mE o r z → s.heap.size ≤ z := fun z h => (hcx.2.2.1 z h).1
  have hCZ : ∀ z, CZ s.heap.size a1 a3 z → s.heap.size ≤ z := fun z h => by have h1 := hcx.1.2.2.2.1; have h2 := hcx.1.2.1 (0, 0) (by decide +kernel); rcases h with h | h <;> omega
  have ha3 : s.heap.size ≤ a3 := hCZ _ (Or.inr (Nat.le_refl _))
  refine lv_aload_n hx hb d_L_law_104 rfl (lv_at hl 3 rfl) ?_
  refine lv_aload_n hx hb d_L_law_105 rfl (lv_at hl 4 rfl) ?_
  refine lv_iload hx hb d_L_law_106 (lv_at hl 0 rfl) ?_
  refine lv_iconst (v := nI 1) hx hb d_L_law_108 (by decide +kernel) ?_
  refine lv_iadd hx hb d_L_law_109 ?_
  refine sx_ti (y := nI (6 * n + 1)) (nI_add _ _) ?_
  refine lw_ld (k := 6 * n + 1) hx hb hX hL hbl h0 (by omega) d_L_law_110 ?_
  refine lv_aload_n hx hb d_L_law_111 rfl (lv_at hl 4 rfl) ?_
  refine lv_iload hx hb d_L_law_112 (lv_at hl 0 rfl) ?_
  refine lv_iconst (v := nI 2) hx hb d_L_law_114 (by decide +kernel) ?_
  refine lv_iadd hx hb d_L_law_115 ?_
  refine sx_ti (y := nI (6 * n + 2)) (nI_add _ _) ?_
  refine lw_ld (k := 6 * n + 2) hx hb hX hL hbl h0 (by omega) d_L_law_116 ?_
  refine lv_aload_n hx hb d_L_law_117 rfl (lv_at hl 4 rfl) ?_
  refine lv_iload hx hb d_L_law_118 (lv_at hl 0 rfl) ?_
  refine lv_iconst (v := nI 3) hx hb d_L_law_120 (by decide +kernel) ?_
  refine lv_iadd hx hb d_L_law_121 ?_
  refine sx_ti (y := nI (6 * n + 3)) (nI_add _ _) ?_
  refine lw_ld (k := 6 * n + 3) hx hb hX hL hbl h0 (by omega) d_L_law_122 ?_
  refine lv_aload_n hx hb d_L_law_123 rfl (lv_at hl 4 rfl) ?_
  refine lv_iload hx hb d_L_law_124 (lv_at hl 0 rfl) ?_
  refine lv_iconst (v := nI 4) hx hb d_L_law_126 (by decide +kernel) ?_
  refine lv_iadd hx hb d_L_law_127 ?_
  refine sx_ti (y := nI (6 * n + 4)) (nI_add _ _) ?_
  refine lw_ld (k := 6 * n + 4) hx hb hX hL hbl h0 (by omega) d_L_law_128 ?_
  refine lv_aload_n hx hb d_L_law_129 rfl (lv_at hl 4 rfl) ?_
  refine lv_iload hx hb d_L_law_130 (lv_at hl 0 rfl) ?_
  refine lv_iconst (v := nI 5) hx hb d_L_law_132 (by decide +kernel) ?_
  refine lv_iadd hx hb d_L_law_133 ?_
  refine sx_ti (y := nI (6 * n + 5)) (nI_add _ _) ?_
  refine lw_ld (k := 6 * n + 5) hx hb hX hL hbl h0 (by omega) d_L_law_134 ?_
  refine lv_aload_n hx hb d_L_law_135 rfl (lv_at hl 1 rfl) ?_
  obtain ⟨kk_, hC⟩ := (j_feed htr hcx hR (xs (6 * n + 1)) (xs (6 * n + 2)) (xs (6 * n + 3)) (xs (6 * n + 4)) (xs (6 * n + 5))).u
  refine go_c (vs := [.ref x, .int (xs (6 * n + 1)), .int (xs (6 * n + 2)), .int (xs (6 * n + 3)), .int (xs (6 * n + 4)), .int (xs (6 * n + 5)), .ref ou]) (rest := []) EE hKx h0 hz hlo hcx.2.2.2.2.1 ha3 hC ws_L_59 rfl (by decide) (by omega) (by omega) hl.1 rfl (Nat.le_of_ble_eq_true rfl) d_L_law_136 (fun H1 locs cap1 cells1 slots1 hR1 hJ1 h0 hz hlo hcl1 hsl1 hcp1 => ?_)
  have k_o := hJ1.ob (fun h => h.elim (hcx.2.2.1 o (Or.inl rfl)).2 (fun e => hcx.2.2.2.2.2 (e ▸ Or.inl rfl))) k_o
  refine lv_istore (lv' := [(5, .int (nI kk_)), (4, .int (nI (6 * n))), (3, .ref ou), (2, .ref o), (1, .ref x), (0, .ref b)]) hx hb d_L_law_139 hl (by decide) rfl (fun ls hl => ?_)
  refine lv_aload_n hx hb d_L_law_141 rfl (lv_at hl 3 rfl) ?_
  refine lv_aload_n hx hb d_L_law_142 rfl (lv_at hl 5 rfl) ?_
  refine lv_iload hx hb d_L_law_143 (lv_at hl 1 rfl) ?_
  refine lv_iconst (v := nI 1) hx hb d_L_law_145 (by decide +kernel) ?_
  refine lv_iadd hx hb d_L_law_146 ?_
  refine sx_ti (y := nI (6 * n + 1)) (nI_add _ _) ?_
  refine lw_ld (k := 6 * n + 1) hx hb hX hL hbl h0 (by omega) d_L_law_147 ?_
  refine lv_aload_n hx hb d_L_law_148 rfl (lv_at hl 5 rfl) ?_
  refine lv_iload hx hb d_L_law_149 (lv_at hl 1 rfl) ?_
  refine lv_iconst (v := nI 2) hx hb d_L_law_151 (by decide +kernel) ?_
  refine lv_iadd hx hb d_L_law_152 ?_
  refine sx_ti (y := nI (6 * n + 2)) (nI_add _ _) ?_
  refine lw_ld (k := 6 * n + 2) hx hb hX hL hbl h0 (by omega) d_L_law_153 ?_
  refine lv_aload_n hx hb d_L_law_154 rfl (lv_at hl 5 rfl) ?_
  refine lv_iload hx hb d_L_law_155 (lv_at hl 1 rfl) ?_
  refine lv_iconst (v := nI 3) hx hb d_L_law_157 (by decide +kernel) ?_
  refine lv_iadd hx hb d_L_law_158 ?_
  refine sx_ti (y := nI (6 * n + 3)) (nI_add _ _) ?_
  refine lw_ld (k := 6 * n + 3) hx hb hX hL hbl h0 (by omega) d_L_law_159 ?_
  refine lv_aload_n hx hb d_L_law_160 rfl (lv_at hl 5 rfl) ?_
  refine lv_iload hx hb d_L_law_161 (lv_at hl 1 rfl) ?_
  refine lv_iconst (v := nI 4) hx hb d_L_law_163 (by decide +kernel) ?_
  refine lv_iadd hx hb d_L_law_164 ?_
  refine sx_ti (y := nI (6 * n + 4)) (nI_add _ _) ?_
  refine lw_ld (k := 6 * n + 4) hx hb hX hL hbl h0 (by omega) d_L_law_165 ?_
  refine lv_aload_n hx hb d_L_law_166 rfl (lv_at hl 5 rfl) ?_
  refine lv_iload hx hb d_L_law_167 (lv_at hl 1 rfl) ?_
  refine lv_iconst (v := nI 5) hx hb d_L_law_169 (by decide +kernel) ?_
  refine lv_iadd hx hb d_L_law_170 ?_
  refine sx_ti (y := nI (6 * n + 5)) (nI_add _ _) ?_
  refine lw_ld (k := 6 * n + 5) hx hb hX hL hbl h0 (by omega) d_L_law_171 ?_
  obtain ⟨V2_, hR1⟩ := hR1
  refine go_d (As := [.int (xs (6 * n + 1)), .int (xs (6 * n + 2)), .int (xs (6 * n + 3)), .int (xs (6 * n + 4)), .int (xs (6 * n + 5))]) (rest := []) EE k_o rfl rfl h0 hz hlo hmE hR1 w_L_64 rfl (by decide) (by omega) (by omega) hl.1 rfl (Nat.le_of_ble_eq_true rfl) d_L_law_172 (fun H2 locs hR2 hJ2 h0 hz hlo => ?_)
  refine lv_istore (lv' := [(6, .int V2_), (5, .int (nI kk_)), (4, .int (nI (6 * n))), (3, .ref ou), (2, .ref o), (1, .ref x), (0, .ref b)]) hx hb d_L_law_175 hl (by decide) rfl (fun ls hl => ?_)
  refine lv_goto (tgt := 480) hx hb d_L_law_177 (by decide) ?_
  have hR4 := hR2
  have hcap2 := hR4.cap
  exact hend _ _ _ _ _ _ hR4 h0 hz hlo (by omega) (by omega) (lv_sub hl [2, 3, 4, 5, 6] rfl)
set_option maxHeartbeats 4000000 in
set_option maxRecDepth 100000 in
theorem lr_end {l : Launch} {D : va_G} {g : ClassId → FieldType → Prop} {kq : Nat → Nat → Nat} {ts : Nat → Nat} {x kA re ve ou o a1 a3 cap : Nat} {r : Nat → Nat} {p : Program} {e : Env} {s : State} {m : MethodId} {args : Array Value} {below : List Frame} {meth : Method} {c : Code} {Q : State → Prop} {ls : Array Slot} {locs : List Loc} {H : Heap} {b L n cells slots : Nat} {xs : Nat → Int32} (htr : l.stackTraces = false) (EE : sx_E p s m args c b_L_law 7 R_L D g) (hKx : tx_K s) (hX : va_X b L xs s s.heap) (hL : L ≤ 3072) (hbl : b < s.heap.size) (hn6 : 6 * n + 6 ≤ L) (hcx : Cxt D kq ts ou o s.heap.size a1 a3 r) (hR : RelE D g kq ts x kA re ve ou o s.heap.size a1 a3 cap r H) (h0 : ∀ q : Nat, q < s.heap.size → H[q]? = s.heap[q]?) (hz : s.heap.size ≤ H.size) (hlo : ∀ q ∈ locs, s.heap.size ≤ q.base) (hcl : cells ≤ 274 + 5 * n) (hsl : slots ≤ 206097 + 2 * cap + 133 * n) (hl : lv_has ls 7 [(4, .int (nI (6 * n))), (3, .ref ou), (2, .ref o), (1, .ref x), (0, .ref b)]) (hend : LQ_ p l e s m args below meth c Q D g kq ts x kA re ve ou o a1 a3 r b n) : W p l e room_1 s m args below meth c H locs cells slots Q (F0 m 180 ls []) := by
  obtain ⟨hx, hb, hml, hown, hts, hG, hK⟩ := id EE
  have hcap := hR.cap
  obtain ⟨th, tl, ml, rl, kc, tp, ms, rs, ks, hR⟩ := hR
  have k_o := hR.2.1.1
  obtain ⟨fx, k_x⟩ := hR.1.px
  have hmE : ∀ z, mE o r z → s.heap.size ≤ z := fun z h => (hcx.2.2.1 z h).1
  have hCZ : ∀ z, CZ s.heap.size a1 a3 z → s.heap.size ≤ z := fun z h => by have h1 := hcx.1.2.2.2.1; have h2 := hcx.1.2.1 (0, 0) (by decide +kernel); rcases h with h | h <;> omega
  have ha3 : s.heap.size ≤ a3 := hCZ _ (Or.inr (Nat.le_refl _))
  refine lv_aload_n hx hb d_L_law_180 rfl (lv_at hl 3 rfl) ?_
  refine lv_aload_n hx hb d_L_law_181 rfl (lv_at hl 4 rfl) ?_
  refine lv_iload hx hb d_L_law_182 (lv_at hl 0 rfl) ?_
  refine lv_iconst (v := nI 1) hx hb d_L_law_184 (by decide +kernel) ?_
  refine lv_iadd hx hb d_L_law_185 ?_
  refine sx_ti (y := nI (6 * n + 1)) (nI_add _ _) ?_
  refine lw_ld (k := 6 * n + 1) hx hb hX hL hbl h0 (by omega) d_L_law_186 ?_
  refine lv_aload_n hx hb d_L_law_187 rfl (lv_at hl 1 rfl) ?_
  obtain ⟨kk_, hC⟩ := (j_end htr hcx hR (xs (6 * n + 1))).u
  refine go_c (vs := [.ref x, .int (xs (6 * n + 1)), .ref ou]) (rest := []) EE hKx h0 hz hlo hcx.2.2.2.2.1 ha3 hC ws_L_65 rfl (by decide) (by omega) (by omega) hl.1 rfl (Nat.le_of_ble_eq_true rfl) d_L_law_188 (fun H1 locs cap1 cells1 slots1 hR1 hJ1 h0 hz hlo hcl1 hsl1 hcp1 => ?_)
  have k_o := hJ1.ob (fun h => h.elim (hcx.2.2.1 o (Or.inl rfl)).2 (fun e => hcx.2.2.2.2.2 (e ▸ Or.inl rfl))) k_o
  refine lv_istore (lv' := [(5, .int (nI kk_)), (4, .int (nI (6 * n))), (3, .ref ou), (2, .ref o), (1, .ref x), (0, .ref b)]) hx hb d_L_law_191 hl (by decide) rfl (fun ls hl => ?_)
  refine lv_aload_n hx hb d_L_law_193 rfl (lv_at hl 3 rfl) ?_
  refine lv_aload_n hx hb d_L_law_194 rfl (lv_at hl 5 rfl) ?_
  refine lv_iload hx hb d_L_law_195 (lv_at hl 1 rfl) ?_
  refine lv_iconst (v := nI 1) hx hb d_L_law_197 (by decide +kernel) ?_
  refine lv_iadd hx hb d_L_law_198 ?_
  refine sx_ti (y := nI (6 * n + 1)) (nI_add _ _) ?_
  refine lw_ld (k := 6 * n + 1) hx hb hX hL hbl h0 (by omega) d_L_law_199 ?_
  obtain ⟨V2_, hR1⟩ := hR1
  refine go_d (As := [.int (xs (6 * n + 1))]) (rest := []) EE k_o rfl rfl h0 hz hlo hmE hR1 w_L_68 rfl (by decide) (by omega) (by omega) hl.1 rfl (Nat.le_of_ble_eq_true rfl) d_L_law_200 (fun H2 locs hR2 hJ2 h0 hz hlo => ?_)
  refine lv_istore (lv' := [(6, .int V2_), (5, .int (nI kk_)), (4, .int (nI (6 * n))), (3, .ref ou), (2, .ref o), (1, .ref x), (0, .ref b)]) hx hb d_L_law_203 hl (by decide) rfl (fun ls hl => ?_)
  refine lv_goto (tgt := 480) hx hb d_L_law_205 (by decide) ?_
  have hR4 := hR2
  have hcap2 := hR4.cap
  exact hend _ _ _ _ _ _ hR4 h0 hz hlo (by omega) (by omega) (lv_sub hl [2, 3, 4, 5, 6] rfl)
set_option maxHeartbeats 4000000 in
set_option maxRecDepth 100000 in
theorem lr_key {l : Launch} {D : va_G} {g : ClassId → FieldType → Prop} {kq : Nat → Nat → Nat} {ts : Nat → Nat} {x kA re ve ou o a1 a3 cap : Nat} {r : Nat → Nat} {p : Program} {e : Env} {s : State} {m : MethodId} {args : Array Value} {below : List Frame} {meth : Method} {c : Code} {Q : State → Prop} {ls : Array Slot} {locs : List Loc} {H : Heap} {b L n cells slots : Nat} {xs : Nat → Int32} (htr : l.stackTraces = false) (EE : sx_E p s m args c b_L_law 7 R_L D g) (hKx : tx_K s) (hX : va_X b L xs s s.heap) (hL : L ≤ 3072) (hbl : b < s.heap.size) (hn6 : 6 * n + 6 ≤ L) (hcx : Cxt D kq ts ou o s.heap.size a1 a3 r) (hR : RelE D g kq ts x kA re ve ou o s.heap.size a1 a3 cap r H) (h0 : ∀ q : Nat, q < s.heap.size → H[q]? = s.heap[q]?) (hz : s.heap.size ≤ H.size) (hlo : ∀ q ∈ locs, s.heap.size ≤ q.base) (hcl : cells ≤ 274 + 5 * n) (hsl : slots ≤ 206097 + 2 * cap + 133 * n) (hl : lv_has ls 7 [(4, .int (nI (6 * n))), (3, .ref ou), (2, .ref o), (1, .ref x), (0, .ref b)]) (hend : LQ_ p l e s m args below meth c Q D g kq ts x kA re ve ou o a1 a3 r b n) : W p l e room_1 s m args below meth c H locs cells slots Q (F0 m 208 ls []) := by
  obtain ⟨hx, hb, hml, hown, hts, hG, hK⟩ := id EE
  have hcap := hR.cap
  obtain ⟨th, tl, ml, rl, kc, tp, ms, rs, ks, hR⟩ := hR
  have k_o := hR.2.1.1
  obtain ⟨fx, k_x⟩ := hR.1.px
  have hmE : ∀ z, mE o r z → s.heap.size ≤ z := fun z h => (hcx.2.2.1 z h).1
  have hCZ : ∀ z, CZ s.heap.size a1 a3 z → s.heap.size ≤ z := fun z h => by have h1 := hcx.1.2.2.2.1; have h2 := hcx.1.2.1 (0, 0) (by decide +kernel); rcases h with h | h <;> omega
  have ha3 : s.heap.size ≤ a3 := hCZ _ (Or.inr (Nat.le_refl _))
  refine lv_aload_n hx hb d_L_law_208 rfl (lv_at hl 3 rfl) ?_
  refine lv_aload_n hx hb d_L_law_209 rfl (lv_at hl 1 rfl) ?_
  obtain ⟨kk_, hC⟩ := (j_key htr hcx hR ).u
  refine go_c (vs := [.ref x, .ref ou]) (rest := []) EE hKx h0 hz hlo hcx.2.2.2.2.1 ha3 hC ws_L_69 rfl (by decide) (by omega) (by omega) hl.1 rfl (Nat.le_of_ble_eq_true rfl) d_L_law_210 (fun H1 locs cap1 cells1 slots1 hR1 hJ1 h0 hz hlo hcl1 hsl1 hcp1 => ?_)
  have k_o := hJ1.ob (fun h => h.elim (hcx.2.2.1 o (Or.inl rfl)).2 (fun e => hcx.2.2.2.2.2 (e ▸ Or.inl rfl))) k_o
  refine lv_istore (lv' := [(5, .int (nI kk_)), (4, .int (nI (6 * n))), (3, .ref ou), (2, .ref o), (1, .ref x), (0, .ref b)]) hx hb d_L_law_213 hl (by decide) rfl (fun ls hl => ?_)
  refine lv_aload_n hx hb d_L_law_215 rfl (lv_at hl 3 rfl) ?_
  obtain ⟨V2_, hR1⟩ := hR1
  refine go_d (As := []) (rest := []) EE k_o rfl rfl h0 hz hlo hmE hR1 w_L_72 rfl (by decide) (by omega) (by omega) hl.1 rfl (Nat.le_of_ble_eq_true rfl) d_L_law_216 (fun H2 locs hR2 hJ2 h0 hz hlo => ?_)
  refine lv_istore (lv' := [(6, .int V2_), (5, .int (nI kk_)), (4, .int (nI (6 * n))), (3, .ref ou), (2, .ref o), (1, .ref x), (0, .ref b)]) hx hb d_L_law_219 hl (by decide) rfl (fun ls hl => ?_)
  refine lv_goto (tgt := 480) hx hb d_L_law_221 (by decide) ?_
  have hR4 := hR2
  have hcap2 := hR4.cap
  exact hend _ _ _ _ _ _ hR4 h0 hz hlo (by omega) (by omega) (lv_sub hl [2, 3, 4, 5, 6] rfl)
set_option maxHeartbeats 4000000 in
set_option maxRecDepth 100000 in
theorem lr_open {l : Launch} {D : va_G} {g : ClassId → FieldType → Prop} {kq : Nat → Nat → Nat} {ts : Nat → Nat} {x kA re ve ou o a1 a3 cap : Nat} {r : Nat → Nat} {p : Program} {e : Env} {s : State} {m : MethodId} {args : Array Value} {below : List Frame} {meth : Method} {c : Code} {Q : State → Prop} {ls : Array Slot} {locs : List Loc} {H : Heap} {b L n cells slots : Nat} {xs : Nat → Int32} (htr : l.stackTraces = false) (EE : sx_E p s m args c b_L_law 7 R_L D g) (hKx : tx_K s) (hX : va_X b L xs s s.heap) (hL : L ≤ 3072) (hbl : b < s.heap.size) (hn6 : 6 * n + 6 ≤ L) (hcx : Cxt D kq ts ou o s.heap.size a1 a3 r) (hR : RelE D g kq ts x kA re ve ou o s.heap.size a1 a3 cap r H) (h0 : ∀ q : Nat, q < s.heap.size → H[q]? = s.heap[q]?) (hz : s.heap.size ≤ H.size) (hlo : ∀ q ∈ locs, s.heap.size ≤ q.base) (hcl : cells ≤ 274 + 5 * n) (hsl : slots ≤ 206097 + 2 * cap + 133 * n) (hl : lv_has ls 7 [(4, .int (nI (6 * n))), (3, .ref ou), (2, .ref o), (1, .ref x), (0, .ref b)]) (hend : LQ_ p l e s m args below meth c Q D g kq ts x kA re ve ou o a1 a3 r b n) : W p l e room_1 s m args below meth c H locs cells slots Q (F0 m 224 ls []) := by
  obtain ⟨hx, hb, hml, hown, hts, hG, hK⟩ := id EE
  have hcap := hR.cap
  obtain ⟨th, tl, ml, rl, kc, tp, ms, rs, ks, hR⟩ := hR
  have k_o := hR.2.1.1
  obtain ⟨fx, k_x⟩ := hR.1.px
  have hmE : ∀ z, mE o r z → s.heap.size ≤ z := fun z h => (hcx.2.2.1 z h).1
  have hCZ : ∀ z, CZ s.heap.size a1 a3 z → s.heap.size ≤ z := fun z h => by have h1 := hcx.1.2.2.2.1; have h2 := hcx.1.2.1 (0, 0) (by decide +kernel); rcases h with h | h <;> omega
  have ha3 : s.heap.size ≤ a3 := hCZ _ (Or.inr (Nat.le_refl _))
  refine lv_aload_n hx hb d_L_law_224 rfl (lv_at hl 3 rfl) ?_
  refine lv_aload_n hx hb d_L_law_225 rfl (lv_at hl 4 rfl) ?_
  refine lv_iload hx hb d_L_law_226 (lv_at hl 0 rfl) ?_
  refine lv_iconst (v := nI 1) hx hb d_L_law_228 (by decide +kernel) ?_
  refine lv_iadd hx hb d_L_law_229 ?_
  refine sx_ti (y := nI (6 * n + 1)) (nI_add _ _) ?_
  refine lw_ld (k := 6 * n + 1) hx hb hX hL hbl h0 (by omega) d_L_law_230 ?_
  refine lv_aload_n hx hb d_L_law_231 rfl (lv_at hl 4 rfl) ?_
  refine lv_iload hx hb d_L_law_232 (lv_at hl 0 rfl) ?_
  refine lv_iconst (v := nI 2) hx hb d_L_law_234 (by decide +kernel) ?_
  refine lv_iadd hx hb d_L_law_235 ?_
  refine sx_ti (y := nI (6 * n + 2)) (nI_add _ _) ?_
  refine lw_ld (k := 6 * n + 2) hx hb hX hL hbl h0 (by omega) d_L_law_236 ?_
  obtain ⟨kk_, hC⟩ := (j_open htr hcx hR (xs (6 * n + 1)) (xs (6 * n + 2))).u
  refine go_c (vs := [.ref x, .int (xs (6 * n + 1)), .int (xs (6 * n + 2))]) (rest := []) EE hKx h0 hz hlo hcx.2.2.2.2.1 ha3 hC ws_L_73 rfl (by decide) (by omega) (by omega) hl.1 rfl (Nat.le_of_ble_eq_true rfl) d_L_law_237 (fun H1 locs cap1 cells1 slots1 hR1 hJ1 h0 hz hlo hcl1 hsl1 hcp1 => ?_)
  have k_o := hJ1.ob (fun h => h.elim (hcx.2.2.1 o (Or.inl rfl)).2 (fun e => hcx.2.2.2.2.2 (e ▸ Or.inl rfl))) k_o
  refine lv_istore (lv' := [(5, .int (nI kk_)), (4, .int (nI (6 * n))), (3, .ref ou), (2, .ref o), (1, .ref x), (0, .ref b)]) hx hb d_L_law_240 hl (by decide) rfl (fun ls hl => ?_)
  refine lv_aload_n hx hb d_L_law_242 rfl (lv_at hl 3 rfl) ?_
  refine lv_aload_n hx hb d_L_law_243 rfl (lv_at hl 5 rfl) ?_
  refine lv_iload hx hb d_L_law_244 (lv_at hl 1 rfl) ?_
  refine lv_iconst (v := nI 1) hx hb d_L_law_246 (by decide +kernel) ?_
  refine lv_iadd hx hb d_L_law_247 ?_
  refine sx_ti (y := nI (6 * n + 1)) (nI_add _ _) ?_
  refine lw_ld (k := 6 * n + 1) hx hb hX hL hbl h0 (by omega) d_L_law_248 ?_
  refine lv_aload_n hx hb d_L_law_249 rfl (lv_at hl 5 rfl) ?_
  refine lv_iload hx hb d_L_law_250 (lv_at hl 1 rfl) ?_
  refine lv_iconst (v := nI 2) hx hb d_L_law_252 (by decide +kernel) ?_
  refine lv_iadd hx hb d_L_law_253 ?_
  refine sx_ti (y := nI (6 * n + 2)) (nI_add _ _) ?_
  refine lw_ld (k := 6 * n + 2) hx hb hX hL hbl h0 (by omega) d_L_law_254 ?_
  refine go_v (As := [.int (xs (6 * n + 1)), .int (xs (6 * n + 2))]) (rest := []) EE k_o rfl rfl h0 hz hlo hmE hR1 w_L_76 rfl (by decide) (by omega) (by omega) hl.1 rfl (Nat.le_of_ble_eq_true rfl) d_L_law_255 (fun H2 locs hR2 hJ2 h0 hz hlo => ?_)
  refine lv_goto (tgt := 480) hx hb d_L_law_258 (by decide) ?_
  have hR4 := hR2
  have hcap2 := hR4.cap
  exact hend _ _ _ _ _ _ hR4 h0 hz hlo (by omega) (by omega) (lv_sub hl [1, 2, 3, 4, 5] rfl)
set_option maxHeartbeats 4000000 in
set_option maxRecDepth 100000 in
theorem lr_agree {l : Launch} {D : va_G} {g : ClassId → FieldType → Prop} {kq : Nat → Nat → Nat} {ts : Nat → Nat} {x kA re ve ou o a1 a3 cap : Nat} {r : Nat → Nat} {p : Program} {e : Env} {s : State} {m : MethodId} {args : Array Value} {below : List Frame} {meth : Method} {c : Code} {Q : State → Prop} {ls : Array Slot} {locs : List Loc} {H : Heap} {b L n cells slots : Nat} {xs : Nat → Int32} (htr : l.stackTraces = false) (EE : sx_E p s m args c b_L_law 7 R_L D g) (hKx : tx_K s) (hX : va_X b L xs s s.heap) (hL : L ≤ 3072) (hbl : b < s.heap.size) (hn6 : 6 * n + 6 ≤ L) (hcx : Cxt D kq ts ou o s.heap.size a1 a3 r) (hR : RelE D g kq ts x kA re ve ou o s.heap.size a1 a3 cap r H) (h0 : ∀ q : Nat, q < s.heap.size → H[q]? = s.heap[q]?) (hz : s.heap.size ≤ H.size) (hlo : ∀ q ∈ locs, s.heap.size ≤ q.base) (hcl : cells ≤ 274 + 5 * n) (hsl : slots ≤ 206097 + 2 * cap + 133 * n) (hl : lv_has ls 7 [(4, .int (nI (6 * n))), (3, .ref ou), (2, .ref o), (1, .ref x), (0, .ref b)]) (hend : LQ_ p l e s m args below meth c Q D g kq ts x kA re ve ou o a1 a3 r b n) : W p l e room_1 s m args below meth c H locs cells slots Q (F0 m 261 ls []) := by
  obtain ⟨hx, hb, hml, hown, hts, hG, hK⟩ := id EE
  have hcap := hR.cap
  obtain ⟨th, tl, ml, rl, kc, tp, ms, rs, ks, hR⟩ := hR
  have k_o := hR.2.1.1
  obtain ⟨fx, k_x⟩ := hR.1.px
  have hmE : ∀ z, mE o r z → s.heap.size ≤ z := fun z h => (hcx.2.2.1 z h).1
  have hCZ : ∀ z, CZ s.heap.size a1 a3 z → s.heap.size ≤ z := fun z h => by have h1 := hcx.1.2.2.2.1; have h2 := hcx.1.2.1 (0, 0) (by decide +kernel); rcases h with h | h <;> omega
  have ha3 : s.heap.size ≤ a3 := hCZ _ (Or.inr (Nat.le_refl _))
  refine lv_aload_n hx hb d_L_law_261 rfl (lv_at hl 3 rfl) ?_
  refine lv_aload_n hx hb d_L_law_262 rfl (lv_at hl 4 rfl) ?_
  refine lv_iload hx hb d_L_law_263 (lv_at hl 0 rfl) ?_
  refine lv_iconst (v := nI 1) hx hb d_L_law_265 (by decide +kernel) ?_
  refine lv_iadd hx hb d_L_law_266 ?_
  refine sx_ti (y := nI (6 * n + 1)) (nI_add _ _) ?_
  refine lw_ld (k := 6 * n + 1) hx hb hX hL hbl h0 (by omega) d_L_law_267 ?_
  refine lv_aload_n hx hb d_L_law_268 rfl (lv_at hl 1 rfl) ?_
  obtain ⟨kk_, hC⟩ := (j_agree htr hcx hR (xs (6 * n + 1))).u
  refine go_c (vs := [.ref x, .int (xs (6 * n + 1)), .ref ou]) (rest := []) EE hKx h0 hz hlo hcx.2.2.2.2.1 ha3 hC ws_L_77 rfl (by decide) (by omega) (by omega) hl.1 rfl (Nat.le_of_ble_eq_true rfl) d_L_law_269 (fun H1 locs cap1 cells1 slots1 hR1 hJ1 h0 hz hlo hcl1 hsl1 hcp1 => ?_)
  have k_o := hJ1.ob (fun h => h.elim (hcx.2.2.1 o (Or.inl rfl)).2 (fun e => hcx.2.2.2.2.2 (e ▸ Or.inl rfl))) k_o
  refine lv_istore (lv' := [(5, .int (nI kk_)), (4, .int (nI (6 * n))), (3, .ref ou), (2, .ref o), (1, .ref x), (0, .ref b)]) hx hb d_L_law_272 hl (by decide) rfl (fun ls hl => ?_)
  refine lv_aload_n hx hb d_L_law_274 rfl (lv_at hl 3 rfl) ?_
  refine lv_aload_n hx hb d_L_law_275 rfl (lv_at hl 5 rfl) ?_
  refine lv_iload hx hb d_L_law_276 (lv_at hl 1 rfl) ?_
  refine lv_iconst (v := nI 1) hx hb d_L_law_278 (by decide +kernel) ?_
  refine lv_iadd hx hb d_L_law_279 ?_
  refine sx_ti (y := nI (6 * n + 1)) (nI_add _ _) ?_
  refine lw_ld (k := 6 * n + 1) hx hb hX hL hbl h0 (by omega) d_L_law_280 ?_
  obtain ⟨V2_, hR1⟩ := hR1
  refine go_d (As := [.int (xs (6 * n + 1))]) (rest := []) EE k_o rfl rfl h0 hz hlo hmE hR1 w_L_79 rfl (by decide) (by omega) (by omega) hl.1 rfl (Nat.le_of_ble_eq_true rfl) d_L_law_281 (fun H2 locs hR2 hJ2 h0 hz hlo => ?_)
  refine lv_istore (lv' := [(6, .int V2_), (5, .int (nI kk_)), (4, .int (nI (6 * n))), (3, .ref ou), (2, .ref o), (1, .ref x), (0, .ref b)]) hx hb d_L_law_284 hl (by decide) rfl (fun ls hl => ?_)
  refine lv_goto (tgt := 480) hx hb d_L_law_286 (by decide) ?_
  have hR4 := hR2
  have hcap2 := hR4.cap
  exact hend _ _ _ _ _ _ hR4 h0 hz hlo (by omega) (by omega) (lv_sub hl [2, 3, 4, 5, 6] rfl)
set_option maxHeartbeats 4000000 in
set_option maxRecDepth 100000 in
theorem lr_message {l : Launch} {D : va_G} {g : ClassId → FieldType → Prop} {kq : Nat → Nat → Nat} {ts : Nat → Nat} {x kA re ve ou o a1 a3 cap : Nat} {r : Nat → Nat} {p : Program} {e : Env} {s : State} {m : MethodId} {args : Array Value} {below : List Frame} {meth : Method} {c : Code} {Q : State → Prop} {ls : Array Slot} {locs : List Loc} {H : Heap} {b L n cells slots : Nat} {xs : Nat → Int32} (htr : l.stackTraces = false) (EE : sx_E p s m args c b_L_law 7 R_L D g) (hKx : tx_K s) (hX : va_X b L xs s s.heap) (hL : L ≤ 3072) (hbl : b < s.heap.size) (hn6 : 6 * n + 6 ≤ L) (hcx : Cxt D kq ts ou o s.heap.size a1 a3 r) (hR : RelE D g kq ts x kA re ve ou o s.heap.size a1 a3 cap r H) (h0 : ∀ q : Nat, q < s.heap.size → H[q]? = s.heap[q]?) (hz : s.heap.size ≤ H.size) (hlo : ∀ q ∈ locs, s.heap.size ≤ q.base) (hcl : cells ≤ 274 + 5 * n) (hsl : slots ≤ 206097 + 2 * cap + 133 * n) (hl : lv_has ls 7 [(4, .int (nI (6 * n))), (3, .ref ou), (2, .ref o), (1, .ref x), (0, .ref b)]) (hend : LQ_ p l e s m args below meth c Q D g kq ts x kA re ve ou o a1 a3 r b n) : W p l e room_1 s m args below meth c H locs cells slots Q (F0 m 289 ls []) := by
  obtain ⟨hx, hb, hml, hown, hts, hG, hK⟩ := id EE
  have hcap := hR.cap
  obtain ⟨th, tl, ml, rl, kc, tp, ms, rs, ks, hR⟩ := hR
  have k_o := hR.2.1.1
  obtain ⟨fx, k_x⟩ := hR.1.px
  have hmE : ∀ z, mE o r z → s.heap.size ≤ z := fun z h => (hcx.2.2.1 z h).1
  have hCZ : ∀ z, CZ s.heap.size a1 a3 z → s.heap.size ≤ z := fun z h => by have h1 := hcx.1.2.2.2.1; have h2 := hcx.1.2.1 (0, 0) (by decide +kernel); rcases h with h | h <;> omega
  have ha3 : s.heap.size ≤ a3 := hCZ _ (Or.inr (Nat.le_refl _))
  refine lv_aload_n hx hb d_L_law_289 rfl (lv_at hl 3 rfl) ?_
  obtain ⟨V_, hD⟩ := j_message (l := l) hcx hR 
  refine go_d (As := []) (rest := []) EE k_x rfl rfl h0 hz hlo hCZ hD w_L_80 rfl (by decide) (by omega) (by omega) hl.1 rfl (Nat.le_of_ble_eq_true rfl) d_L_law_290 (fun H1 locs hR1 hJ1 h0 hz hlo => ?_)
  have k_o := hJ1.ob (hcx.2.2.1 o (Or.inl rfl)).2 k_o
  refine lv_pop hx hb d_L_law_293 rfl ?_
  refine lv_aload_n hx hb d_L_law_294 rfl (lv_at hl 2 rfl) ?_
  refine go_d (As := []) (rest := []) EE k_o rfl rfl h0 hz hlo hmE hR1 w_L_83 rfl (by decide) (by omega) (by omega) hl.1 rfl (Nat.le_of_ble_eq_true rfl) d_L_law_295 (fun H2 locs hR2 hJ2 h0 hz hlo => ?_)
  refine lv_pop hx hb d_L_law_298 rfl ?_
  refine lv_goto (tgt := 480) hx hb d_L_law_299 (by decide) ?_
  have hR4 := hR2
  have hcap2 := hR4.cap
  exact hend _ _ _ _ _ _ hR4 h0 hz hlo (by omega) (by omega) (lv_sub hl [0, 1, 2, 3, 4] rfl)
set_option maxHeartbeats 4000000 in
set_option maxRecDepth 100000 in
theorem lr_sign {l : Launch} {D : va_G} {g : ClassId → FieldType → Prop} {kq : Nat → Nat → Nat} {ts : Nat → Nat} {x kA re ve ou o a1 a3 cap : Nat} {r : Nat → Nat} {p : Program} {e : Env} {s : State} {m : MethodId} {args : Array Value} {below : List Frame} {meth : Method} {c : Code} {Q : State → Prop} {ls : Array Slot} {locs : List Loc} {H : Heap} {b L n cells slots : Nat} {xs : Nat → Int32} (htr : l.stackTraces = false) (EE : sx_E p s m args c b_L_law 7 R_L D g) (hKx : tx_K s) (hX : va_X b L xs s s.heap) (hL : L ≤ 3072) (hbl : b < s.heap.size) (hn6 : 6 * n + 6 ≤ L) (hcx : Cxt D kq ts ou o s.heap.size a1 a3 r) (hR : RelE D g kq ts x kA re ve ou o s.heap.size a1 a3 cap r H) (h0 : ∀ q : Nat, q < s.heap.size → H[q]? = s.heap[q]?) (hz : s.heap.size ≤ H.size) (hlo : ∀ q ∈ locs, s.heap.size ≤ q.base) (hcl : cells ≤ 274 + 5 * n) (hsl : slots ≤ 206097 + 2 * cap + 133 * n) (hl : lv_has ls 7 [(4, .int (nI (6 * n))), (3, .ref ou), (2, .ref o), (1, .ref x), (0, .ref b)]) (hend : LQ_ p l e s m args below meth c Q D g kq ts x kA re ve ou o a1 a3 r b n) : W p l e room_1 s m args below meth c H locs cells slots Q (F0 m 302 ls []) := by
  obtain ⟨hx, hb, hml, hown, hts, hG, hK⟩ := id EE
  have hcap := hR.cap
  obtain ⟨th, tl, ml, rl, kc, tp, ms, rs, ks, hR⟩ := hR
  have k_o := hR.2.1.1
  obtain ⟨fx, k_x⟩ := hR.1.px
  have hmE : ∀ z, mE o r z → s.heap.size ≤ z := fun z h => (hcx.2.2.1 z h).1
  have hCZ : ∀ z, CZ s.heap.size a1 a3 z → s.heap.size ≤ z := fun z h => by have h1 := hcx.1.2.2.2.1; have h2 := hcx.1.2.1 (0, 0) (by decide +kernel); rcases h with h | h <;> omega
  have ha3 : s.heap.size ≤ a3 := hCZ _ (Or.inr (Nat.le_refl _))
  refine lv_aload_n hx hb d_L_law_302 rfl (lv_at hl 3 rfl) ?_
  refine lv_aload_n hx hb d_L_law_303 rfl (lv_at hl 4 rfl) ?_
  refine lv_iload hx hb d_L_law_304 (lv_at hl 0 rfl) ?_
  refine lv_iconst (v := nI 1) hx hb d_L_law_306 (by decide +kernel) ?_
  refine lv_iadd hx hb d_L_law_307 ?_
  refine sx_ti (y := nI (6 * n + 1)) (nI_add _ _) ?_
  refine lw_ld (k := 6 * n + 1) hx hb hX hL hbl h0 (by omega) d_L_law_308 ?_
  obtain ⟨kk_, hC⟩ := (j_sign htr hcx hR (xs (6 * n + 1))).u
  refine go_c (vs := [.ref x, .int (xs (6 * n + 1))]) (rest := []) EE hKx h0 hz hlo hcx.2.2.2.2.1 ha3 hC ws_L_84 rfl (by decide) (by omega) (by omega) hl.1 rfl (Nat.le_of_ble_eq_true rfl) d_L_law_309 (fun H1 locs cap1 cells1 slots1 hR1 hJ1 h0 hz hlo hcl1 hsl1 hcp1 => ?_)
  have k_o := hJ1.ob (fun h => h.elim (hcx.2.2.1 o (Or.inl rfl)).2 (fun e => hcx.2.2.2.2.2 (e ▸ Or.inl rfl))) k_o
  refine lv_istore (lv' := [(5, .int (nI kk_)), (4, .int (nI (6 * n))), (3, .ref ou), (2, .ref o), (1, .ref x), (0, .ref b)]) hx hb d_L_law_312 hl (by decide) rfl (fun ls hl => ?_)
  refine lv_aload_n hx hb d_L_law_314 rfl (lv_at hl 3 rfl) ?_
  refine lv_aload_n hx hb d_L_law_315 rfl (lv_at hl 5 rfl) ?_
  refine lv_iload hx hb d_L_law_316 (lv_at hl 1 rfl) ?_
  refine lv_iconst (v := nI 1) hx hb d_L_law_318 (by decide +kernel) ?_
  refine lv_iadd hx hb d_L_law_319 ?_
  refine sx_ti (y := nI (6 * n + 1)) (nI_add _ _) ?_
  refine lw_ld (k := 6 * n + 1) hx hb hX hL hbl h0 (by omega) d_L_law_320 ?_
  refine go_v (As := [.int (xs (6 * n + 1))]) (rest := []) EE k_o rfl rfl h0 hz hlo hmE hR1 w_L_87 rfl (by decide) (by omega) (by omega) hl.1 rfl (Nat.le_of_ble_eq_true rfl) d_L_law_321 (fun H2 locs hR2 hJ2 h0 hz hlo => ?_)
  refine lv_goto (tgt := 480) hx hb d_L_law_324 (by decide) ?_
  have hR4 := hR2
  have hcap2 := hR4.cap
  exact hend _ _ _ _ _ _ hR4 h0 hz hlo (by omega) (by omega) (lv_sub hl [1, 2, 3, 4, 5] rfl)
set_option maxHeartbeats 4000000 in
set_option maxRecDepth 100000 in
theorem lr_verify {l : Launch} {D : va_G} {g : ClassId → FieldType → Prop} {kq : Nat → Nat → Nat} {ts : Nat → Nat} {x kA re ve ou o a1 a3 cap : Nat} {r : Nat → Nat} {p : Program} {e : Env} {s : State} {m : MethodId} {args : Array Value} {below : List Frame} {meth : Method} {c : Code} {Q : State → Prop} {ls : Array Slot} {locs : List Loc} {H : Heap} {b L n cells slots : Nat} {xs : Nat → Int32} (htr : l.stackTraces = false) (EE : sx_E p s m args c b_L_law 7 R_L D g) (hKx : tx_K s) (hX : va_X b L xs s s.heap) (hL : L ≤ 3072) (hbl : b < s.heap.size) (hn6 : 6 * n + 6 ≤ L) (hcx : Cxt D kq ts ou o s.heap.size a1 a3 r) (hR : RelE D g kq ts x kA re ve ou o s.heap.size a1 a3 cap r H) (h0 : ∀ q : Nat, q < s.heap.size → H[q]? = s.heap[q]?) (hz : s.heap.size ≤ H.size) (hlo : ∀ q ∈ locs, s.heap.size ≤ q.base) (hcl : cells ≤ 274 + 5 * n) (hsl : slots ≤ 206097 + 2 * cap + 133 * n) (hl : lv_has ls 7 [(4, .int (nI (6 * n))), (3, .ref ou), (2, .ref o), (1, .ref x), (0, .ref b)]) (hend : LQ_ p l e s m args below meth c Q D g kq ts x kA re ve ou o a1 a3 r b n) : W p l e room_1 s m args below meth c H locs cells slots Q (F0 m 327 ls []) := by
  obtain ⟨hx, hb, hml, hown, hts, hG, hK⟩ := id EE
  have hcap := hR.cap
  obtain ⟨th, tl, ml, rl, kc, tp, ms, rs, ks, hR⟩ := hR
  have k_o := hR.2.1.1
  obtain ⟨fx, k_x⟩ := hR.1.px
  have hmE : ∀ z, mE o r z → s.heap.size ≤ z := fun z h => (hcx.2.2.1 z h).1
  have hCZ : ∀ z, CZ s.heap.size a1 a3 z → s.heap.size ≤ z := fun z h => by have h1 := hcx.1.2.2.2.1; have h2 := hcx.1.2.1 (0, 0) (by decide +kernel); rcases h with h | h <;> omega
  have ha3 : s.heap.size ≤ a3 := hCZ _ (Or.inr (Nat.le_refl _))
  refine lv_aload_n hx hb d_L_law_327 rfl (lv_at hl 3 rfl) ?_
  refine lv_aload_n hx hb d_L_law_328 rfl (lv_at hl 1 rfl) ?_
  obtain ⟨kk_, hC⟩ := j_verify htr hcx hR 
  refine go_c (vs := [.ref x, .ref ou]) (rest := []) EE hKx h0 hz hlo hcx.2.2.2.2.1 ha3 hC ws_L_88 rfl (by decide) (by omega) (by omega) hl.1 rfl (Nat.le_of_ble_eq_true rfl) d_L_law_329 (fun H1 locs cap1 cells1 slots1 hR1 hJ1 h0 hz hlo hcl1 hsl1 hcp1 => ?_)
  have k_o := hJ1.ob (fun h => h.elim (hcx.2.2.1 o (Or.inl rfl)).2 (fun e => hcx.2.2.2.2.2 (e ▸ Or.inl rfl))) k_o
  refine lv_istore (lv' := [(5, .int (nI kk_)), (4, .int (nI (6 * n))), (3, .ref ou), (2, .ref o), (1, .ref x), (0, .ref b)]) hx hb d_L_law_332 hl (by decide) rfl (fun ls hl => ?_)
  refine lv_aload_n hx hb d_L_law_334 rfl (lv_at hl 3 rfl) ?_
  obtain ⟨V2_, hR1⟩ := hR1
  refine go_d (As := []) (rest := []) EE k_o rfl rfl h0 hz hlo hmE hR1 w_L_90 rfl (by decide) (by omega) (by omega) hl.1 rfl (Nat.le_of_ble_eq_true rfl) d_L_law_335 (fun H2 locs hR2 hJ2 h0 hz hlo => ?_)
  refine lv_istore (lv' := [(6, .int V2_), (5, .int (nI kk_)), (4, .int (nI (6 * n))), (3, .ref ou), (2, .ref o), (1, .ref x), (0, .ref b)]) hx hb d_L_law_338 hl (by decide) rfl (fun ls hl => ?_)
  refine lv_goto (tgt := 480) hx hb d_L_law_340 (by decide) ?_
  have hR4 := hR2
  have hcap2 := hR4.cap
  exact hend _ _ _ _ _ _ hR4 h0 hz hlo (by omega) (by omega) (lv_sub hl [2, 3, 4, 5, 6] rfl)
set_option maxHeartbeats 4000000 in
set_option maxRecDepth 100000 in
theorem lr_point {l : Launch} {D : va_G} {g : ClassId → FieldType → Prop} {kq : Nat → Nat → Nat} {ts : Nat → Nat} {x kA re ve ou o a1 a3 cap : Nat} {r : Nat → Nat} {p : Program} {e : Env} {s : State} {m : MethodId} {args : Array Value} {below : List Frame} {meth : Method} {c : Code} {Q : State → Prop} {ls : Array Slot} {locs : List Loc} {H : Heap} {b L n cells slots : Nat} {xs : Nat → Int32} (htr : l.stackTraces = false) (EE : sx_E p s m args c b_L_law 7 R_L D g) (hKx : tx_K s) (hX : va_X b L xs s s.heap) (hL : L ≤ 3072) (hbl : b < s.heap.size) (hn6 : 6 * n + 6 ≤ L) (hcx : Cxt D kq ts ou o s.heap.size a1 a3 r) (hR : RelE D g kq ts x kA re ve ou o s.heap.size a1 a3 cap r H) (h0 : ∀ q : Nat, q < s.heap.size → H[q]? = s.heap[q]?) (hz : s.heap.size ≤ H.size) (hlo : ∀ q ∈ locs, s.heap.size ≤ q.base) (hcl : cells ≤ 274 + 5 * n) (hsl : slots ≤ 206097 + 2 * cap + 133 * n) (hl : lv_has ls 7 [(4, .int (nI (6 * n))), (3, .ref ou), (2, .ref o), (1, .ref x), (0, .ref b)]) (hend : LQ_ p l e s m args below meth c Q D g kq ts x kA re ve ou o a1 a3 r b n) : W p l e room_1 s m args below meth c H locs cells slots Q (F0 m 343 ls []) := by
  obtain ⟨hx, hb, hml, hown, hts, hG, hK⟩ := id EE
  have hcap := hR.cap
  obtain ⟨th, tl, ml, rl, kc, tp, ms, rs, ks, hR⟩ := hR
  have k_o := hR.2.1.1
  obtain ⟨fx, k_x⟩ := hR.1.px
  have hmE : ∀ z, mE o r z → s.heap.size ≤ z := fun z h => (hcx.2.2.1 z h).1
  have hCZ : ∀ z, CZ s.heap.size a1 a3 z → s.heap.size ≤ z := fun z h => by have h1 := hcx.1.2.2.2.1; have h2 := hcx.1.2.1 (0, 0) (by decide +kernel); rcases h with h | h <;> omega
  have ha3 : s.heap.size ≤ a3 := hCZ _ (Or.inr (Nat.le_refl _))
  refine lv_aload_n hx hb d_L_law_343 rfl (lv_at hl 3 rfl) ?_
  refine lv_aload_n hx hb d_L_law_344 rfl (lv_at hl 1 rfl) ?_
  obtain ⟨kk_, hC⟩ := (j_point htr hcx hR ).u
  refine go_c (vs := [.ref x, .ref ou]) (rest := []) EE hKx h0 hz hlo hcx.2.2.2.2.1 ha3 hC ws_L_91 rfl (by decide) (by omega) (by omega) hl.1 rfl (Nat.le_of_ble_eq_true rfl) d_L_law_345 (fun H1 locs cap1 cells1 slots1 hR1 hJ1 h0 hz hlo hcl1 hsl1 hcp1 => ?_)
  have k_o := hJ1.ob (fun h => h.elim (hcx.2.2.1 o (Or.inl rfl)).2 (fun e => hcx.2.2.2.2.2 (e ▸ Or.inl rfl))) k_o
  refine lv_istore (lv' := [(5, .int (nI kk_)), (4, .int (nI (6 * n))), (3, .ref ou), (2, .ref o), (1, .ref x), (0, .ref b)]) hx hb d_L_law_348 hl (by decide) rfl (fun ls hl => ?_)
  refine lv_aload_n hx hb d_L_law_350 rfl (lv_at hl 3 rfl) ?_
  obtain ⟨V2_, hR1⟩ := hR1
  refine go_d (As := []) (rest := []) EE k_o rfl rfl h0 hz hlo hmE hR1 w_L_93 rfl (by decide) (by omega) (by omega) hl.1 rfl (Nat.le_of_ble_eq_true rfl) d_L_law_351 (fun H2 locs hR2 hJ2 h0 hz hlo => ?_)
  refine lv_istore (lv' := [(6, .int V2_), (5, .int (nI kk_)), (4, .int (nI (6 * n))), (3, .ref ou), (2, .ref o), (1, .ref x), (0, .ref b)]) hx hb d_L_law_354 hl (by decide) rfl (fun ls hl => ?_)
  refine lv_goto (tgt := 480) hx hb d_L_law_356 (by decide) ?_
  have hR4 := hR2
  have hcap2 := hR4.cap
  exact hend _ _ _ _ _ _ hR4 h0 hz hlo (by omega) (by omega) (lv_sub hl [2, 3, 4, 5, 6] rfl)
set_option maxHeartbeats 4000000 in
set_option maxRecDepth 100000 in
theorem lr_back {l : Launch} {D : va_G} {g : ClassId → FieldType → Prop} {kq : Nat → Nat → Nat} {ts : Nat → Nat} {x kA re ve ou o a1 a3 cap : Nat} {r : Nat → Nat} {p : Program} {e : Env} {s : State} {m : MethodId} {args : Array Value} {below : List Frame} {meth : Method} {c : Code} {Q : State → Prop} {ls : Array Slot} {locs : List Loc} {H : Heap} {b L n cells slots : Nat} {xs : Nat → Int32} (htr : l.stackTraces = false) (EE : sx_E p s m args c b_L_law 7 R_L D g) (hKx : tx_K s) (hX : va_X b L xs s s.heap) (hL : L ≤ 3072) (hbl : b < s.heap.size) (hn6 : 6 * n + 6 ≤ L) (hcx : Cxt D kq ts ou o s.heap.size a1 a3 r) (hR : RelE D g kq ts x kA re ve ou o s.heap.size a1 a3 cap r H) (h0 : ∀ q : Nat, q < s.heap.size → H[q]? = s.heap[q]?) (hz : s.heap.size ≤ H.size) (hlo : ∀ q ∈ locs, s.heap.size ≤ q.base) (hcl : cells ≤ 274 + 5 * n) (hsl : slots ≤ 206097 + 2 * cap + 133 * n) (hl : lv_has ls 7 [(4, .int (nI (6 * n))), (3, .ref ou), (2, .ref o), (1, .ref x), (0, .ref b)]) (hend : LQ_ p l e s m args below meth c Q D g kq ts x kA re ve ou o a1 a3 r b n) : W p l e room_1 s m args below meth c H locs cells slots Q (F0 m 359 ls []) := by
  obtain ⟨hx, hb, hml, hown, hts, hG, hK⟩ := id EE
  have hcap := hR.cap
  obtain ⟨th, tl, ml, rl, kc, tp, ms, rs, ks, hR⟩ := hR
  have k_o := hR.2.1.1
  obtain ⟨fx, k_x⟩ := hR.1.px
  have hmE : ∀ z, mE o r z → s.heap.size ≤ z := fun z h => (hcx.2.2.1 z h).1
  have hCZ : ∀ z, CZ s.heap.size a1 a3 z → s.heap.size ≤ z := fun z h => by have h1 := hcx.1.2.2.2.1; have h2 := hcx.1.2.1 (0, 0) (by decide +kernel); rcases h with h | h <;> omega
  have ha3 : s.heap.size ≤ a3 := hCZ _ (Or.inr (Nat.le_refl _))
  refine lv_aload_n hx hb d_L_law_359 rfl (lv_at hl 3 rfl) ?_
  refine lv_aload_n hx hb d_L_law_360 rfl (lv_at hl 4 rfl) ?_
  refine lv_iload hx hb d_L_law_361 (lv_at hl 0 rfl) ?_
  refine lv_iconst (v := nI 1) hx hb d_L_law_363 (by decide +kernel) ?_
  refine lv_iadd hx hb d_L_law_364 ?_
  refine sx_ti (y := nI (6 * n + 1)) (nI_add _ _) ?_
  refine lw_ld (k := 6 * n + 1) hx hb hX hL hbl h0 (by omega) d_L_law_365 ?_
  refine lv_aload_n hx hb d_L_law_366 rfl (lv_at hl 4 rfl) ?_
  refine lv_iload hx hb d_L_law_367 (lv_at hl 0 rfl) ?_
  refine lv_iconst (v := nI 2) hx hb d_L_law_369 (by decide +kernel) ?_
  refine lv_iadd hx hb d_L_law_370 ?_
  refine sx_ti (y := nI (6 * n + 2)) (nI_add _ _) ?_
  refine lw_ld (k := 6 * n + 2) hx hb hX hL hbl h0 (by omega) d_L_law_371 ?_
  refine lv_aload_n hx hb d_L_law_372 rfl (lv_at hl 1 rfl) ?_
  obtain ⟨kk_, hC⟩ := (j_back htr hcx hR (xs (6 * n + 1)) (xs (6 * n + 2))).u
  refine go_c (vs := [.ref x, .int (xs (6 * n + 1)), .int (xs (6 * n + 2)), .ref ou]) (rest := []) EE hKx h0 hz hlo hcx.2.2.2.2.1 ha3 hC ws_L_94 rfl (by decide) (by omega) (by omega) hl.1 rfl (Nat.le_of_ble_eq_true rfl) d_L_law_373 (fun H1 locs cap1 cells1 slots1 hR1 hJ1 h0 hz hlo hcl1 hsl1 hcp1 => ?_)
  have k_o := hJ1.ob (fun h => h.elim (hcx.2.2.1 o (Or.inl rfl)).2 (fun e => hcx.2.2.2.2.2 (e ▸ Or.inl rfl))) k_o
  refine lv_istore (lv' := [(5, .int (nI kk_)), (4, .int (nI (6 * n))), (3, .ref ou), (2, .ref o), (1, .ref x), (0, .ref b)]) hx hb d_L_law_376 hl (by decide) rfl (fun ls hl => ?_)
  refine lv_aload_n hx hb d_L_law_378 rfl (lv_at hl 3 rfl) ?_
  refine lv_aload_n hx hb d_L_law_379 rfl (lv_at hl 5 rfl) ?_
  refine lv_iload hx hb d_L_law_380 (lv_at hl 1 rfl) ?_
  refine lv_iconst (v := nI 1) hx hb d_L_law_382 (by decide +kernel) ?_
  refine lv_iadd hx hb d_L_law_383 ?_
  refine sx_ti (y := nI (6 * n + 1)) (nI_add _ _) ?_
  refine lw_ld (k := 6 * n + 1) hx hb hX hL hbl h0 (by omega) d_L_law_384 ?_
  refine lv_aload_n hx hb d_L_law_385 rfl (lv_at hl 5 rfl) ?_
  refine lv_iload hx hb d_L_law_386 (lv_at hl 1 rfl) ?_
  refine lv_iconst (v := nI 2) hx hb d_L_law_388 (by decide +kernel) ?_
  refine lv_iadd hx hb d_L_law_389 ?_
  refine sx_ti (y := nI (6 * n + 2)) (nI_add _ _) ?_
  refine lw_ld (k := 6 * n + 2) hx hb hX hL hbl h0 (by omega) d_L_law_390 ?_
  obtain ⟨V2_, hR1⟩ := hR1
  refine go_d (As := [.int (xs (6 * n + 1)), .int (xs (6 * n + 2))]) (rest := []) EE k_o rfl rfl h0 hz hlo hmE hR1 w_L_97 rfl (by decide) (by omega) (by omega) hl.1 rfl (Nat.le_of_ble_eq_true rfl) d_L_law_391 (fun H2 locs hR2 hJ2 h0 hz hlo => ?_)
  refine lv_istore (lv' := [(6, .int V2_), (5, .int (nI kk_)), (4, .int (nI (6 * n))), (3, .ref ou), (2, .ref o), (1, .ref x), (0, .ref b)]) hx hb d_L_law_394 hl (by decide) rfl (fun ls hl => ?_)
  refine lv_goto (tgt := 480) hx hb d_L_law_396 (by decide) ?_
  have hR4 := hR2
  have hcap2 := hR4.cap
  exact hend _ _ _ _ _ _ hR4 h0 hz hlo (by omega) (by omega) (lv_sub hl [2, 3, 4, 5, 6] rfl)
set_option maxHeartbeats 4000000 in
set_option maxRecDepth 100000 in
theorem lr_result {l : Launch} {D : va_G} {g : ClassId → FieldType → Prop} {kq : Nat → Nat → Nat} {ts : Nat → Nat} {x kA re ve ou o a1 a3 cap : Nat} {r : Nat → Nat} {p : Program} {e : Env} {s : State} {m : MethodId} {args : Array Value} {below : List Frame} {meth : Method} {c : Code} {Q : State → Prop} {ls : Array Slot} {locs : List Loc} {H : Heap} {b L n cells slots : Nat} {xs : Nat → Int32} (htr : l.stackTraces = false) (EE : sx_E p s m args c b_L_law 7 R_L D g) (hKx : tx_K s) (hX : va_X b L xs s s.heap) (hL : L ≤ 3072) (hbl : b < s.heap.size) (hn6 : 6 * n + 6 ≤ L) (hcx : Cxt D kq ts ou o s.heap.size a1 a3 r) (hR : RelE D g kq ts x kA re ve ou o s.heap.size a1 a3 cap r H) (h0 : ∀ q : Nat, q < s.heap.size → H[q]? = s.heap[q]?) (hz : s.heap.size ≤ H.size) (hlo : ∀ q ∈ locs, s.heap.size ≤ q.base) (hcl : cells ≤ 274 + 5 * n) (hsl : slots ≤ 206097 + 2 * cap + 133 * n) (hl : lv_has ls 7 [(4, .int (nI (6 * n))), (3, .ref ou), (2, .ref o), (1, .ref x), (0, .ref b)]) (hend : LQ_ p l e s m args below meth c Q D g kq ts x kA re ve ou o a1 a3 r b n) : W p l e room_1 s m args below meth c H locs cells slots Q (F0 m 399 ls []) := by
  obtain ⟨hx, hb, hml, hown, hts, hG, hK⟩ := id EE
  have hcap := hR.cap
  obtain ⟨th, tl, ml, rl, kc, tp, ms, rs, ks, hR⟩ := hR
  have k_o := hR.2.1.1
  obtain ⟨fx, k_x⟩ := hR.1.px
  have hmE : ∀ z, mE o r z → s.heap.size ≤ z := fun z h => (hcx.2.2.1 z h).1
  have hCZ : ∀ z, CZ s.heap.size a1 a3 z → s.heap.size ≤ z := fun z h => by have h1 := hcx.1.2.2.2.1; have h2 := hcx.1.2.1 (0, 0) (by decide +kernel); rcases h with h | h <;> omega
  have ha3 : s.heap.size ≤ a3 := hCZ _ (Or.inr (Nat.le_refl _))
  refine lv_aload_n hx hb d_L_law_399 rfl (lv_at hl 3 rfl) ?_
  refine lv_aload_n hx hb d_L_law_400 rfl (lv_at hl 4 rfl) ?_
  refine lv_iload hx hb d_L_law_401 (lv_at hl 0 rfl) ?_
  refine lv_iconst (v := nI 1) hx hb d_L_law_403 (by decide +kernel) ?_
  refine lv_iadd hx hb d_L_law_404 ?_
  refine sx_ti (y := nI (6 * n + 1)) (nI_add _ _) ?_
  refine lw_ld (k := 6 * n + 1) hx hb hX hL hbl h0 (by omega) d_L_law_405 ?_
  refine lv_aload_n hx hb d_L_law_406 rfl (lv_at hl 1 rfl) ?_
  obtain ⟨kk_, V2_, hC⟩ := j_result htr hcx hR (xs (6 * n + 1))
  refine go_c (vs := [.ref x, .int (xs (6 * n + 1)), .ref ou]) (rest := []) EE hKx h0 hz hlo hcx.2.2.2.2.1 ha3 hC ws_L_98 rfl (by decide) (by omega) (by omega) hl.1 rfl (Nat.le_of_ble_eq_true rfl) d_L_law_407 (fun H1 locs cap1 cells1 slots1 hR1 hJ1 h0 hz hlo hcl1 hsl1 hcp1 => ?_)
  have k_o := hJ1.ob (fun h => h.elim (hcx.2.2.1 o (Or.inl rfl)).2 (fun e => hcx.2.2.2.2.2 (e ▸ Or.inl rfl))) k_o
  obtain ⟨w_, hw1, hwe, hR1⟩ := hR1
  refine lv_istore (lv' := [(5, .int (nI kk_)), (4, .int (nI (6 * n))), (3, .ref ou), (2, .ref o), (1, .ref x), (0, .ref b)]) hx hb d_L_law_410 hl (by decide) rfl (fun ls hl => ?_)
  refine lv_aload_n hx hb d_L_law_412 rfl (lv_at hl 3 rfl) ?_
  refine lv_aload_n hx hb d_L_law_413 rfl (lv_at hl 5 rfl) ?_
  refine lv_iload hx hb d_L_law_414 (lv_at hl 1 rfl) ?_
  refine lv_iconst (v := nI 1) hx hb d_L_law_416 (by decide +kernel) ?_
  refine lv_iadd hx hb d_L_law_417 ?_
  refine sx_ti (y := nI (6 * n + 1)) (nI_add _ _) ?_
  refine lw_ld (k := 6 * n + 1) hx hb hX hL hbl h0 (by omega) d_L_law_418 ?_
  refine go_d (As := [.int (xs (6 * n + 1))]) (rest := []) EE k_o rfl rfl h0 hz hlo hmE hR1 w_L_100 rfl (by decide) (by omega) (by omega) hl.1 rfl (Nat.le_of_ble_eq_true rfl) d_L_law_419 (fun H2 locs hR2 hJ2 h0 hz hlo => ?_)
  obtain ⟨⟨tl, ml, rl, kc, tp, ms, rs, ks, hR2⟩, hw2⟩ := hR2
  refine lv_istore (lv' := [(6, .int V2_), (5, .int (nI kk_)), (4, .int (nI (6 * n))), (3, .ref ou), (2, .ref o), (1, .ref x), (0, .ref b)]) hx hb d_L_law_422 hl (by decide) rfl (fun ls hl => ?_)
  refine lv_aload_n hx hb d_L_law_424 rfl (lv_at hl 4 rfl) ?_
  refine go_d (Z := fun _ => False) (R := fun _ => True) (As := []) (rest := []) EE hR2.2.1.1 rfl rfl h0 hz hlo (fun z h => h.elim) (n_thrown hR2.2.1) w_L_101 rfl (by decide) (by omega) (by omega) hl.1 rfl (Nat.le_of_ble_eq_true rfl) d_L_law_425 (fun H3 locs hT3 hJ3 h0 hz hlo => ?_)
  have hR3 := hR2.same hcx hJ3
  have hw3 := hw2.j hJ3 id
  refine lv_iload hx hb d_L_law_428 (lv_at hl 1 rfl) ?_
  refine lv_icmp_eq (tgt := 435) hx hb d_L_law_430 (by decide) (fun _ => ?_) (fun q => absurd rfl q)
  refine lv_iload hx hb d_L_law_435 (lv_at hl 1 rfl) ?_
  refine lv_if_ne (tgt := 452) hx hb d_L_law_437 (by decide) (fun _ => ?_) (fun hk0 => ?_)
  · skip
    refine lv_goto (tgt := 480) hx hb d_L_law_452 (by decide) ?_
    have hR4 : RelE D g kq ts x kA re ve ou o s.heap.size a1 a3 cap1 r H3 := ⟨_, tl, ml, rl, kc, tp, ms, rs, ks, hR3⟩
    have hcap2 := hR4.cap
    exact hend _ _ _ _ _ _ hR4 h0 hz hlo (by omega) (by omega) (lv_sub hl [2, 3, 4, 5, 6] rfl)
  · skip
    refine lv_aload_n hx hb d_L_law_440 rfl (lv_at hl 3 rfl) ?_
    refine lv_iconst (v := nI 0) hx hb d_L_law_441 (by decide +kernel) ?_
    refine px_outld hx hb hG hw3 d_L_law_442 ?_
    refine lv_iload hx hb d_L_law_443 (lv_at hl 0 rfl) ?_
    refine lv_i2l hx hb d_L_law_445 rfl ?_
    refine W.lcmp hx hb d_L_law_446 ?_
    refine lv_if_eq (tgt := 452) hx hb d_L_law_447 (by decide) (fun _ => ?_) (fun q => absurd (by rw [hwe trivial hk0]; exact lgc _) q)
    refine lv_goto (tgt := 480) hx hb d_L_law_452 (by decide) ?_
    have hR4 : RelE D g kq ts x kA re ve ou o s.heap.size a1 a3 cap1 r H3 := ⟨_, tl, ml, rl, kc, tp, ms, rs, ks, hR3⟩
    have hcap2 := hR4.cap
    exact hend _ _ _ _ _ _ hR4 h0 hz hlo (by omega) (by omega) (lv_sub hl [2, 3, 4, 5, 6] rfl)
set_option maxHeartbeats 4000000 in
set_option maxRecDepth 100000 in
theorem lr_count {l : Launch} {D : va_G} {g : ClassId → FieldType → Prop} {kq : Nat → Nat → Nat} {ts : Nat → Nat} {x kA re ve ou o a1 a3 cap : Nat} {r : Nat → Nat} {p : Program} {e : Env} {s : State} {m : MethodId} {args : Array Value} {below : List Frame} {meth : Method} {c : Code} {Q : State → Prop} {ls : Array Slot} {locs : List Loc} {H : Heap} {b L n cells slots : Nat} {xs : Nat → Int32} (htr : l.stackTraces = false) (EE : sx_E p s m args c b_L_law 7 R_L D g) (hKx : tx_K s) (hX : va_X b L xs s s.heap) (hL : L ≤ 3072) (hbl : b < s.heap.size) (hn6 : 6 * n + 6 ≤ L) (hcx : Cxt D kq ts ou o s.heap.size a1 a3 r) (hR : RelE D g kq ts x kA re ve ou o s.heap.size a1 a3 cap r H) (h0 : ∀ q : Nat, q < s.heap.size → H[q]? = s.heap[q]?) (hz : s.heap.size ≤ H.size) (hlo : ∀ q ∈ locs, s.heap.size ≤ q.base) (hcl : cells ≤ 274 + 5 * n) (hsl : slots ≤ 206097 + 2 * cap + 133 * n) (hl : lv_has ls 7 [(4, .int (nI (6 * n))), (3, .ref ou), (2, .ref o), (1, .ref x), (0, .ref b)]) (hend : LQ_ p l e s m args below meth c Q D g kq ts x kA re ve ou o a1 a3 r b n) : W p l e room_1 s m args below meth c H locs cells slots Q (F0 m 455 ls []) := by
  obtain ⟨hx, hb, hml, hown, hts, hG, hK⟩ := id EE
  have hcap := hR.cap
  obtain ⟨th, tl, ml, rl, kc, tp, ms, rs, ks, hR⟩ := hR
  have k_o := hR.2.1.1
  obtain ⟨fx, k_x⟩ := hR.1.px
  have hmE : ∀ z, mE o r z → s.heap.size ≤ z := fun z h => (hcx.2.2.1 z h).1
  have hCZ : ∀ z, CZ s.heap.size a1 a3 z → s.heap.size ≤ z := fun z h => by have h1 := hcx.1.2.2.2.1; have h2 := hcx.1.2.1 (0, 0) (by decide +kernel); rcases h with h | h <;> omega
  have ha3 : s.heap.size ≤ a3 := hCZ _ (Or.inr (Nat.le_refl _))
  refine lv_aload_n hx hb d_L_law_455 rfl (lv_at hl 3 rfl) ?_
  refine lv_aload_n hx hb d_L_law_456 rfl (lv_at hl 4 rfl) ?_
  refine lv_iload hx hb d_L_law_457 (lv_at hl 0 rfl) ?_
  refine lv_iconst (v := nI 1) hx hb d_L_law_459 (by decide +kernel) ?_
  refine lv_iadd hx hb d_L_law_460 ?_
  refine sx_ti (y := nI (6 * n + 1)) (nI_add _ _) ?_
  refine lw_ld (k := 6 * n + 1) hx hb hX hL hbl h0 (by omega) d_L_law_461 ?_
  obtain ⟨V_, hD⟩ := j_count (l := l) hcx hR (xs (6 * n + 1))
  refine go_d (As := [.int (xs (6 * n + 1))]) (rest := []) EE k_x rfl rfl h0 hz hlo hCZ hD w_L_104 rfl (by decide) (by omega) (by omega) hl.1 rfl (Nat.le_of_ble_eq_true rfl) d_L_law_462 (fun H1 locs hR1 hJ1 h0 hz hlo => ?_)
  have k_o := hJ1.ob (hcx.2.2.1 o (Or.inl rfl)).2 k_o
  refine lv_pop hx hb d_L_law_465 rfl ?_
  refine lv_aload_n hx hb d_L_law_466 rfl (lv_at hl 2 rfl) ?_
  refine lv_aload_n hx hb d_L_law_467 rfl (lv_at hl 4 rfl) ?_
  refine lv_iload hx hb d_L_law_468 (lv_at hl 0 rfl) ?_
  refine lv_iconst (v := nI 1) hx hb d_L_law_470 (by decide +kernel) ?_
  refine lv_iadd hx hb d_L_law_471 ?_
  refine sx_ti (y := nI (6 * n + 1)) (nI_add _ _) ?_
  refine lw_ld (k := 6 * n + 1) hx hb hX hL hbl h0 (by omega) d_L_law_472 ?_
  obtain ⟨V2_, hR1⟩ := hR1
  refine go_d (As := [.int (xs (6 * n + 1))]) (rest := []) EE k_o rfl rfl h0 hz hlo hmE hR1 w_L_107 rfl (by decide) (by omega) (by omega) hl.1 rfl (Nat.le_of_ble_eq_true rfl) d_L_law_473 (fun H2 locs hR2 hJ2 h0 hz hlo => ?_)
  refine lv_pop hx hb d_L_law_476 rfl ?_
  refine lv_goto (tgt := 480) hx hb d_L_law_477 (by decide) ?_
  have hR4 := hR2
  have hcap2 := hR4.cap
  exact hend _ _ _ _ _ _ hR4 h0 hz hlo (by omega) (by omega) (lv_sub hl [0, 1, 2, 3, 4] rfl)
