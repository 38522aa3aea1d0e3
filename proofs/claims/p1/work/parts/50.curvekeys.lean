abbrev rm_K_init : Room := { frames := 6, cells := 223, slots := 4669, locals := 187 }
set_option maxHeartbeats 4000000 in
set_option maxRecDepth 100000 in
theorem c_K_init {l : Launch} {D : va_G} {g : ClassId → FieldType → Prop} {E : Nat → Prop} {H0 : Heap} {o : Nat} {ts : Nat → Nat} (hEo : E o) (hEn : ∀ q, H0.size ≤ q → E q) (hO : va_P D classes [(o, .inr (1, [.null, .null, .null, .null, .null, .null, .null, .null, .int 0, .int 0, .int 0, .int 0]))] H0) (hst : st_H D g E H0 ts) : Met l y_K_init (.code y_K_init b_K_init 2 none :: G_) rm_K_init (sx_Pc [.ref o] H0 D g) (va_Qv (fun _ : Unit => True) (fun _ t => sx_J g E H0 t.heap ∧ ∃ r : Nat → Nat, va_P D classes [(o, .inr (1, [.ref (r 0), .ref (r 1), .ref (r 2), .ref (r 3), .ref (r 4), .ref (r 5), .ref (r 6), .ref (r 7), .int 0, .int 0, .int 0, .int 0]))] t.heap ∧ sx_AR g t.heap [(r 1, .byte, 64), (r 2, .int, 4)] ∧ (∀ k, H0.size ≤ r k) ∧ zi_ t.heap (r 2) 4 ∧ r 6 ≠ r 7 ∧ ∃ rt rm : Nat → Nat, va_P D classes [(r 6, .inr (9, [.ref (rt 0), .int 0]))] t.heap ∧ va_P D classes [(r 7, .inr (9, [.ref (rm 0), .int 0]))] t.heap ∧ sx_AR g t.heap [(rt 0, .byte, 1024)] ∧ sx_AR g t.heap [(rm 0, .byte, 1024)] ∧ (∀ k, H0.size ≤ rt k) ∧ ∀ k, H0.size ≤ rm k) E) 223 4669 E := by
  refine sx_mva (own := R_K) (P := fun H => ∃ r : Nat → Nat, va_P D classes [(o, .inr (1, [.ref (r 0), .ref (r 1), .ref (r 2), .ref (r 3), .ref (r 4), .ref (r 5), .ref (r 6), .ref (r 7), .int 0, .int 0, .int 0, .int 0]))] H ∧ sx_AR g H [(r 1, .byte, 64), (r 2, .int, 4)] ∧ (∀ k, H0.size ≤ r k) ∧ zi_ H (r 2) 4 ∧ r 6 ≠ r 7 ∧ ∃ rt rm : Nat → Nat, va_P D classes [(r 6, .inr (9, [.ref (rt 0), .int 0]))] H ∧ va_P D classes [(r 7, .inr (9, [.ref (rm 0), .int 0]))] H ∧ sx_AR g H [(rt 0, .byte, 1024)] ∧ sx_AR g H [(rm 0, .byte, 1024)] ∧ (∀ k, H0.size ≤ rt k) ∧ ∀ k, H0.size ≤ rm k) (by decide) rfl (Nat.le_of_ble_eq_true rfl) ?_
  intro p e s m args below meth c Q ls EE hin hl hret
  obtain ⟨hx, hb, hml, hown, hts, hG, hK⟩ := id EE
  have hS : sx_S g E E H0 H0 [] := sx_S.rf
  have hA : sx_AR g H0 [] := sx_AR.nil
  have hZ : ∀ x ∈ ([] : List Nat), H0.size ≤ x := sx_nilZ
  have ho : o < H0.size := (hO 0 _ rfl).lt
  have hl : lv_has ls 2 [(0, .ref o)] := hl
  refine lv_aload_n hx hb d_K_init_0 rfl (lv_at hl 0 rfl) ?_
  refine W.objInit hx hb hown (hts (.methodLink R_K 1 objectInit) (by decide +kernel)) (hts (.instanceMethod objectInit) (by decide +kernel)) (hts (.code objectInit ⟨#[0xb1]⟩ 1 none) (by decide +kernel)) rfl (by rw [hml]; exact hl.1) rfl d_K_init_1 (Nat.le_of_ble_eq_true rfl) (Nat.le_of_ble_eq_true rfl) ?_
  refine W.eq (g2 := F0 m 4 ls []) rfl ?_
  have hz := hS.1.1
  refine sx_newo (ci := 2) (fs := [.null, .null, .null, .null, .null, .null, .null]) (cells' := 1) (slots' := 7) EE rfl i_F t_F tok_F nw_K_7 (by decide) rfl rfl (Nat.le_of_ble_eq_true rfl) (Nat.le_of_ble_eq_true rfl) d_K_init_4 (fun q4 H4 e0 hN s0 k1 => ?_)
  have z_q4 : H0.size ≤ q4 := e0 ▸ hz
  have hZ := sx_consZ hZ z_q4
  refine lv_dup hx hb d_K_init_7 rfl ?_
  refine sx_gI (E' := fun z => z = q4 ∨ Array.size H4 ≤ z) (P := fun H => ∃ r : Nat → Nat, va_P D classes [(q4, .inr (2, [.ref (r 0), .ref (r 1), .ref (r 2), .ref (r 3), .ref (r 4), .ref (r 5), .ref (r 6)]))] H ∧ sx_AR g H [(r 0, .long, 10), (r 1, .long, 10), (r 2, .long, 10), (r 3, .long, 10), (r 4, .long, 10), (r 5, .long, 10), (r 6, .long, 10)] ∧ (∀ k, Array.size H4 ≤ r k)) (F := E) (mc := 7) (ms := 70) (cells' := 8) (slots' := 77) (sx_runIN (As := []) (rest := [.ref q4]) EE (c_F_init (E := fun z => z = q4 ∨ Array.size H4 ≤ z) (Or.inl rfl) (fun z h => Or.inr h) hN) il_K_9 iw_K_9 rfl rfl ⟨rfl, rfl⟩ ⟨Nat.le_of_ble_eq_true rfl, Nat.le_of_ble_eq_true rfl⟩ ⟨Nat.le_of_ble_eq_true rfl, Nat.le_of_ble_eq_true rfl⟩ hl.1 rfl (Nat.le_of_ble_eq_true rfl) d_K_init_8) (fun z h => hEn _ (by rcases h with h | h <;> omega)) hS.2.2 rfl rfl (fun H8 locs hJc hPc hlo => ?_)
  have hk := sx_J.news e0 k1 (by omega) hJc (fun _ h => h)
  have hJ : sx_J g E H0 H8 := (sx_J.grow (by omega) k1).tr (hJc.mono (fun z h => hEn _ (by rcases h with h | h <;> omega)))
  have hS : sx_S g E E H0 H8 locs := ⟨hS.1.tr hJ, fun _ h => h, hlo⟩
  have hA := hA.kept hJ
  have hO := hO.grown hk
  refine lv_astore_n (lv' := [(1, .ref q4), (0, .ref o)]) hx hb d_K_init_11 rfl hl (by decide) rfl (fun ls hl => ?_)
  refine lv_aload_n hx hb d_K_init_12 rfl (lv_at hl 1 rfl) ?_
  refine lv_bipush (v := nI 100) hx hb d_K_init_13 (by decide +kernel) ?_
  have hz := hS.1.1
  refine sx_newr (C := R_Ke) (cells' := 9) (slots' := 177) EE (by decide +kernel) hK.2.2.2.2.2.2 (by decide) (by decide) rfl rfl (Nat.le_of_ble_eq_true rfl) (Nat.le_of_ble_eq_true rfl) hS d_K_init_15 (fun q15 H15 e0 y_q15 hJ hk hS => ?_)
  have hA := hA.kept hJ
  have hO := hO.grown hk
  have z_q15 : H0.size ≤ q15 := e0 ▸ hz
  have hZ := sx_consZ hZ z_q15
  refine sx_putF EE hin hO rfl i_K t_K tok_K n_K 0 (by decide) rfl fl_K_14 (ty := t_K 0) (by decide +kernel) rfl rfl (Nat.le_of_ble_eq_true rfl) hEo hS d_K_init_18 (fun H18 locs hO hJ hs hS => ?_)
  have hA := hA.kept hJ
  have hO : va_P D classes [(o, .inr (1, [.ref q15, .null, .null, .null, .null, .null, .null, .null, .int 0, .int 0, .int 0, .int 0]))] H18 := hO
  refine lv_aload_n hx hb d_K_init_21 rfl (lv_at hl 1 rfl) ?_
  refine lv_bipush (v := nI 64) hx hb d_K_init_22 (by decide +kernel) ?_
  have hz := hS.1.1
  refine sx_newa (cells' := 10) (slots' := 241) hx hb hG hts rfl (Or.inr (Or.inl rfl)) (by decide +kernel) (by decide) (by decide) rfl rfl (Nat.le_of_ble_eq_true rfl) (Nat.le_of_ble_eq_true rfl) hS d_K_init_24 (fun q24 H24 e0 a0' l0 y0 hJ hk hS => ?_)
  have hA := hA.kept hJ
  have hO := hO.grown hk
  have hA : sx_AR g H24 [(q24, .byte, 64)] := hA.cons a0' l0
  have z_q24 : H0.size ≤ q24 := e0 ▸ hz
  have hZ := sx_consZ hZ z_q24
  refine sx_putF EE hin hO rfl i_K t_K tok_K n_K 1 (by decide) rfl fl_K_18 (ty := t_K 1) (by decide +kernel) rfl rfl (Nat.le_of_ble_eq_true rfl) hEo hS d_K_init_26 (fun H26 locs hO hJ hs hS => ?_)
  have hA := hA.kept hJ
  have hO : va_P D classes [(o, .inr (1, [.ref q15, .ref q24, .null, .null, .null, .null, .null, .null, .int 0, .int 0, .int 0, .int 0]))] H26 := hO
  refine lv_aload_n hx hb d_K_init_29 rfl (lv_at hl 1 rfl) ?_
  refine lv_iconst (v := nI 4) hx hb d_K_init_30 (by decide +kernel) ?_
  have hz := hS.1.1
  refine sx_newa (cells' := 11) (slots' := 245) hx hb hG hts rfl (Or.inr (Or.inr rfl)) (by decide +kernel) (by decide) (by decide) rfl rfl (Nat.le_of_ble_eq_true rfl) (Nat.le_of_ble_eq_true rfl) hS d_K_init_31 (fun q31 H31 e0 a0' l0 y0 hJ hk hS => ?_)
  have hA := hA.kept hJ
  have hO := hO.grown hk
  have hA : sx_AR g H31 [(q31, .int, 4), (q24, .byte, 64)] := hA.cons a0' l0
  have z_q31 : H0.size ≤ q31 := e0 ▸ hz
  have hZ := sx_consZ hZ z_q31
  have t_q31 : zi_ H31 q31 4 := y0
  refine sx_putF EE hin hO rfl i_K t_K tok_K n_K 2 (by decide) rfl fl_K_22 (ty := t_K 2) (by decide +kernel) rfl rfl (Nat.le_of_ble_eq_true rfl) hEo hS d_K_init_33 (fun H33 locs hO hJ hs hS => ?_)
  have hA := hA.kept hJ
  have hO : va_P D classes [(o, .inr (1, [.ref q15, .ref q24, .ref q31, .null, .null, .null, .null, .null, .int 0, .int 0, .int 0, .int 0]))] H33 := hO
  have t_q31 := t_q31.kept (hs _ (Nat.ne_of_gt (Nat.lt_of_lt_of_le ho z_q31)))
  refine lv_aload_n hx hb d_K_init_36 rfl (lv_at hl 1 rfl) ?_
  have hz := hS.1.1
  refine sx_newo (ci := 3) (fs := [.null, .null, .null, .null, .null, .null, .null, .null, .null, .null, .null, .null]) (cells' := 12) (slots' := 257) EE rfl i_La t_La tok_La nw_K_26 (by decide) rfl rfl (Nat.le_of_ble_eq_true rfl) (Nat.le_of_ble_eq_true rfl) d_K_init_37 (fun q37 H37 e0 hN s0 k1 => ?_)
  have z_q37 : H0.size ≤ q37 := e0 ▸ hz
  have hZ := sx_consZ hZ z_q37
  refine lv_dup hx hb d_K_init_40 rfl ?_
  refine lv_aload_n hx hb d_K_init_41 rfl (lv_at hl 0 rfl) ?_
  refine sx_gI (E' := fun z => z = q37 ∨ Array.size H37 ≤ z) (P := fun H => ∃ r : Nat → Nat, va_P D classes [(q37, .inr (3, [.ref q4, .ref (r 1), .ref (r 2), .ref (r 3), .ref (r 4), .ref (r 5), .ref (r 6), .ref (r 7), .ref (r 8), .ref (r 9), .ref (r 10), .ref (r 11)]))] H ∧ sx_AR g H [(r 1, .byte, 32), (r 2, .byte, 32), (r 3, .long, 10), (r 4, .long, 10), (r 5, .long, 10), (r 6, .long, 10), (r 7, .long, 10), (r 8, .long, 10), (r 9, .long, 10), (r 10, .long, 10), (r 11, .long, 10)] ∧ (∀ k, Array.size H37 ≤ r k)) (F := E) (mc := 11) (ms := 154) (cells' := 23) (slots' := 411) (sx_runI (As := [.ref q4]) (rest := [.ref q37, .ref o]) EE (c_La_init (E := fun z => z = q37 ∨ Array.size H37 ≤ z) (Or.inl rfl) (fun z h => Or.inr h) hN) iw_K_28 rfl rfl ⟨rfl, rfl⟩ ⟨Nat.le_of_ble_eq_true rfl, Nat.le_of_ble_eq_true rfl⟩ ⟨Nat.le_of_ble_eq_true rfl, Nat.le_of_ble_eq_true rfl⟩ hl.1 rfl (Nat.le_of_ble_eq_true rfl) d_K_init_42) (fun z h => hEn _ (by rcases h with h | h <;> omega)) hS.2.2 rfl rfl (fun H42 locs hJc hPc hlo => ?_)
  have hk := sx_J.news e0 k1 (by omega) hJc (fun _ h => h)
  have hJ : sx_J g E H33 H42 := (sx_J.grow (by omega) k1).tr (hJc.mono (fun z h => hEn _ (by rcases h with h | h <;> omega)))
  have hS : sx_S g E E H0 H42 locs := ⟨hS.1.tr hJ, fun _ h => h, hlo⟩
  have hA := hA.kept hJ
  have hO := hO.grown hk
  have t_q31 := t_q31.grown hk
  refine sx_putF EE hin hO rfl i_K t_K tok_K n_K 3 (by decide) rfl fl_K_31 (ty := t_K 3) (by decide +kernel) rfl rfl (Nat.le_of_ble_eq_true rfl) hEo hS d_K_init_45 (fun H45 locs hO hJ hs hS => ?_)
  have hA := hA.kept hJ
  have hO : va_P D classes [(o, .inr (1, [.ref q15, .ref q24, .ref q31, .ref q37, .null, .null, .null, .null, .int 0, .int 0, .int 0, .int 0]))] H45 := hO
  have t_q31 := t_q31.kept (hs _ (Nat.ne_of_gt (Nat.lt_of_lt_of_le ho z_q31)))
  refine lv_aload_n hx hb d_K_init_48 rfl (lv_at hl 1 rfl) ?_
  have hz := hS.1.1
  refine sx_newo (ci := 6) (fs := [.null, .null, .null, .null, .null, .null, .null, .null, .null, .null, .null, .null, .null, .null, .null]) (cells' := 24) (slots' := 426) EE rfl i_Ed t_Ed tok_Ed nw_K_35 (by decide) rfl rfl (Nat.le_of_ble_eq_true rfl) (Nat.le_of_ble_eq_true rfl) d_K_init_49 (fun q49 H49 e0 hN s0 k1 => ?_)
  have z_q49 : H0.size ≤ q49 := e0 ▸ hz
  have hZ := sx_consZ hZ z_q49
  refine lv_dup hx hb d_K_init_52 rfl ?_
  refine lv_aload_n hx hb d_K_init_53 rfl (lv_at hl 0 rfl) ?_
  refine sx_gI (E' := fun z => z = q49 ∨ Array.size H49 ≤ z) (P := fun H => ∃ r : Nat → Nat, va_P D classes [(q49, .inr (6, [.ref q4, .ref (r 1), .ref (r 2), .ref (r 3), .ref (r 4), .ref (r 5), .ref (r 6), .ref (r 7), .ref (r 8), .ref (r 9), .ref (r 10), .ref (r 11), .ref (r 12), .ref (r 13), .ref (r 14)]))] H ∧ sx_AR g H [] ∧ True) (F := E) (mc := 182) (ms := 1672) (cells' := 206) (slots' := 2098) (sx_runI (As := [.ref q4]) (rest := [.ref q49, .ref o]) EE (c_Ed_init (E := fun z => z = q49 ∨ Array.size H49 ≤ z) (Or.inl rfl) (fun z h => Or.inr h) hN (hst.news (hS.1.tr (sx_J.grow (by omega) k1)) (fun z h => by rcases h with h | h <;> omega))) iw_K_37 rfl rfl ⟨rfl, rfl⟩ ⟨Nat.le_of_ble_eq_true rfl, Nat.le_of_ble_eq_true rfl⟩ ⟨Nat.le_of_ble_eq_true rfl, Nat.le_of_ble_eq_true rfl⟩ hl.1 rfl (Nat.le_of_ble_eq_true rfl) d_K_init_54) (fun z h => hEn _ (by rcases h with h | h <;> omega)) hS.2.2 rfl rfl (fun H54 locs hJc hPc hlo => ?_)
  have hk := sx_J.news e0 k1 (by omega) hJc (fun _ h => h)
  have hJ : sx_J g E H45 H54 := (sx_J.grow (by omega) k1).tr (hJc.mono (fun z h => hEn _ (by rcases h with h | h <;> omega)))
  have hS : sx_S g E E H0 H54 locs := ⟨hS.1.tr hJ, fun _ h => h, hlo⟩
  have hA := hA.kept hJ
  have hO := hO.grown hk
  have t_q31 := t_q31.grown hk
  refine sx_putF EE hin hO rfl i_K t_K tok_K n_K 4 (by decide) rfl fl_K_38 (ty := t_K 4) (by decide +kernel) rfl rfl (Nat.le_of_ble_eq_true rfl) hEo hS d_K_init_57 (fun H57 locs hO hJ hs hS => ?_)
  have hA := hA.kept hJ
  have hO : va_P D classes [(o, .inr (1, [.ref q15, .ref q24, .ref q31, .ref q37, .ref q49, .null, .null, .null, .int 0, .int 0, .int 0, .int 0]))] H57 := hO
  have t_q31 := t_q31.kept (hs _ (Nat.ne_of_gt (Nat.lt_of_lt_of_le ho z_q31)))
  refine lv_aload_n hx hb d_K_init_60 rfl (lv_at hl 1 rfl) ?_
  have hz := hS.1.1
  refine sx_newo (ci := 11) (fs := [.null, .null, .null, .null, .null, .null, .null, .null, .null]) (cells' := 207) (slots' := 2107) EE rfl i_Si t_Si tok_Si nw_K_42 (by decide) rfl rfl (Nat.le_of_ble_eq_true rfl) (Nat.le_of_ble_eq_true rfl) d_K_init_61 (fun q61 H61 e0 hN s0 k1 => ?_)
  have z_q61 : H0.size ≤ q61 := e0 ▸ hz
  have hZ := sx_consZ hZ z_q61
  refine lv_dup hx hb d_K_init_64 rfl ?_
  refine lv_aload_n hx hb d_K_init_65 rfl (lv_at hl 1 rfl) ?_
  refine sx_get EE (hO.grown k1) rfl i_K 4 (by decide) rfl fl_K_38 rfl d_K_init_66 ?_
  refine sx_gI (E' := fun z => z = q61 ∨ Array.size H61 ≤ z) (P := fun H => ∃ r : Nat → Nat, va_P D classes [(q61, .inr (11, [.ref q49, .ref (r 1), .ref (r 2), .ref (r 3), .ref (r 4), .ref (r 5), .ref (r 6), .ref (r 7), .ref (r 8)]))] H ∧ sx_AR g H [(r 3, .byte, 64), (r 4, .byte, 32), (r 5, .byte, 32), (r 6, .byte, 32), (r 7, .byte, 32), (r 8, .byte, 32)] ∧ (∀ k, Array.size H61 ≤ r k)) (F := E) (mc := 12) (ms := 510) (cells' := 219) (slots' := 2617) (sx_runI (As := [.ref q49]) (rest := [.ref q61, .ref o]) EE (c_Si_init (E := fun z => z = q61 ∨ Array.size H61 ≤ z) (Or.inl rfl) (fun z h => Or.inr h) hN) iw_K_44 rfl rfl ⟨rfl, rfl⟩ ⟨Nat.le_of_ble_eq_true rfl, Nat.le_of_ble_eq_true rfl⟩ ⟨Nat.le_of_ble_eq_true rfl, Nat.le_of_ble_eq_true rfl⟩ hl.1 rfl (Nat.le_of_ble_eq_true rfl) d_K_init_69) (fun z h => hEn _ (by rcases h with h | h <;> omega)) hS.2.2 rfl rfl (fun H69 locs hJc hPc hlo => ?_)
  have hk := sx_J.news e0 k1 (by omega) hJc (fun _ h => h)
  have hJ : sx_J g E H57 H69 := (sx_J.grow (by omega) k1).tr (hJc.mono (fun z h => hEn _ (by rcases h with h | h <;> omega)))
  have hS : sx_S g E E H0 H69 locs := ⟨hS.1.tr hJ, fun _ h => h, hlo⟩
  have hA := hA.kept hJ
  have hO := hO.grown hk
  have t_q31 := t_q31.grown hk
  refine sx_putF EE hin hO rfl i_K t_K tok_K n_K 5 (by decide) rfl fl_K_47 (ty := t_K 5) (by decide +kernel) rfl rfl (Nat.le_of_ble_eq_true rfl) hEo hS d_K_init_72 (fun H72 locs hO hJ hs hS => ?_)
  have hA := hA.kept hJ
  have hO : va_P D classes [(o, .inr (1, [.ref q15, .ref q24, .ref q31, .ref q37, .ref q49, .ref q61, .null, .null, .int 0, .int 0, .int 0, .int 0]))] H72 := hO
  have t_q31 := t_q31.kept (hs _ (Nat.ne_of_gt (Nat.lt_of_lt_of_le ho z_q31)))
  refine lv_aload_n hx hb d_K_init_75 rfl (lv_at hl 1 rfl) ?_
  have hz := hS.1.1
  refine sx_newo (ci := 9) (fs := [.null, .int 0]) (cells' := 220) (slots' := 2619) EE rfl i_Ro t_Ro tok_Ro nw_K_51 (by decide) rfl rfl (Nat.le_of_ble_eq_true rfl) (Nat.le_of_ble_eq_true rfl) d_K_init_76 (fun q76 H76 e0 hN s0 k1 => ?_)
  have z_q76 : H0.size ≤ q76 := e0 ▸ hz
  have hZ := sx_consZ hZ z_q76
  refine lv_dup hx hb d_K_init_79 rfl ?_
  refine sx_gI (E' := fun z => z = q76 ∨ Array.size H76 ≤ z) (P := fun H => ∃ r : Nat → Nat, va_P D classes [(q76, .inr (9, [.ref (r 0), .int 0]))] H ∧ sx_AR g H [(r 0, .byte, 1024)] ∧ (∀ k, Array.size H76 ≤ r k)) (F := E) (mc := 1) (ms := 1024) (cells' := 221) (slots' := 3643) (sx_runIN (As := []) (rest := [.ref q76, .ref o]) EE (c_Ro_init (E := fun z => z = q76 ∨ Array.size H76 ≤ z) (Or.inl rfl) (fun z h => Or.inr h) hN) il_K_53 iw_K_53 rfl rfl ⟨rfl, rfl⟩ ⟨Nat.le_of_ble_eq_true rfl, Nat.le_of_ble_eq_true rfl⟩ ⟨Nat.le_of_ble_eq_true rfl, Nat.le_of_ble_eq_true rfl⟩ hl.1 rfl (Nat.le_of_ble_eq_true rfl) d_K_init_80) (fun z h => hEn _ (by rcases h with h | h <;> omega)) hS.2.2 rfl rfl (fun H80 locs hJc hPc hlo => ?_)
  have hk := sx_J.news e0 k1 (by omega) hJc (fun _ h => h)
  have hJ : sx_J g E H72 H80 := (sx_J.grow (by omega) k1).tr (hJc.mono (fun z h => hEn _ (by rcases h with h | h <;> omega)))
  have hS : sx_S g E E H0 H80 locs := ⟨hS.1.tr hJ, fun _ h => h, hlo⟩
  have hA := hA.kept hJ
  have hO := hO.grown hk
  have t_q31 := t_q31.grown hk
  obtain ⟨rT, pT, aT, bT⟩ := hPc
  have bT : ∀ k, H0.size ≤ rT k := fun k => Nat.le_trans (Nat.le_trans z_q76 (by omega)) (bT k)
  refine sx_put EE hO rfl i_K t_K tok_K n_K 6 (by decide) rfl fl_K_54 (ty := t_K 6) (by decide +kernel) rfl rfl (Nat.le_of_ble_eq_true rfl) hEo hS d_K_init_83 (fun H83 locs hO hJ hs hS => ?_)
  have hA := hA.kept hJ
  have hO : va_P D classes [(o, .inr (1, [.ref q15, .ref q24, .ref q31, .ref q37, .ref q49, .ref q61, .ref q76, .null, .int 0, .int 0, .int 0, .int 0]))] H83 := hO
  have t_q31 := t_q31.kept (hs _ (Nat.ne_of_gt (Nat.lt_of_lt_of_le ho z_q31)))
  have pT := pT.one hs (Nat.ne_of_gt (Nat.lt_of_lt_of_le ho z_q76))
  have aT := aT.kept hJ
  refine lv_aload_n hx hb d_K_init_86 rfl (lv_at hl 1 rfl) ?_
  have hz := hS.1.1
  refine sx_newo (ci := 9) (fs := [.null, .int 0]) (cells' := 222) (slots' := 3645) EE rfl i_Ro t_Ro tok_Ro nw_K_51 (by decide) rfl rfl (Nat.le_of_ble_eq_true rfl) (Nat.le_of_ble_eq_true rfl) d_K_init_87 (fun q87 H87 e0 hN s0 k1 => ?_)
  have z_q87 : H0.size ≤ q87 := e0 ▸ hz
  have u67 : q76 < q87 := e0 ▸ (pT 0 _ rfl).lt
  have hZ := sx_consZ hZ z_q87
  refine lv_dup hx hb d_K_init_90 rfl ?_
  refine sx_gI (E' := fun z => z = q87 ∨ Array.size H87 ≤ z) (P := fun H => ∃ r : Nat → Nat, va_P D classes [(q87, .inr (9, [.ref (r 0), .int 0]))] H ∧ sx_AR g H [(r 0, .byte, 1024)] ∧ (∀ k, Array.size H87 ≤ r k)) (F := E) (mc := 1) (ms := 1024) (cells' := 223) (slots' := 4669) (sx_runIN (As := []) (rest := [.ref q87, .ref o]) EE (c_Ro_init (E := fun z => z = q87 ∨ Array.size H87 ≤ z) (Or.inl rfl) (fun z h => Or.inr h) hN) il_K_53 iw_K_53 rfl rfl ⟨rfl, rfl⟩ ⟨Nat.le_of_ble_eq_true rfl, Nat.le_of_ble_eq_true rfl⟩ ⟨Nat.le_of_ble_eq_true rfl, Nat.le_of_ble_eq_true rfl⟩ hl.1 rfl (Nat.le_of_ble_eq_true rfl) d_K_init_91) (fun z h => hEn _ (by rcases h with h | h <;> omega)) hS.2.2 rfl rfl (fun H91 locs hJc hPc hlo => ?_)
  have hk := sx_J.news e0 k1 (by omega) hJc (fun _ h => h)
  have hJ : sx_J g E H83 H91 := (sx_J.grow (by omega) k1).tr (hJc.mono (fun z h => hEn _ (by rcases h with h | h <;> omega)))
  have hS : sx_S g E E H0 H91 locs := ⟨hS.1.tr hJ, fun _ h => h, hlo⟩
  have hA := hA.kept hJ
  have hO := hO.grown hk
  have t_q31 := t_q31.grown hk
  have pT := pT.grown hk
  have aT := aT.kept hJ
  obtain ⟨rM, pM, aM, bM⟩ := hPc
  have bM : ∀ k, H0.size ≤ rM k := fun k => Nat.le_trans (Nat.le_trans z_q87 (by omega)) (bM k)
  refine sx_put EE hO rfl i_K t_K tok_K n_K 7 (by decide) rfl fl_K_58 (ty := t_K 7) (by decide +kernel) rfl rfl (Nat.le_of_ble_eq_true rfl) hEo hS d_K_init_94 (fun H94 locs hO hJ hs hS => ?_)
  have hA := hA.kept hJ
  have hO : va_P D classes [(o, .inr (1, [.ref q15, .ref q24, .ref q31, .ref q37, .ref q49, .ref q61, .ref q76, .ref q87, .int 0, .int 0, .int 0, .int 0]))] H94 := hO
  have t_q31 := t_q31.kept (hs _ (Nat.ne_of_gt (Nat.lt_of_lt_of_le ho z_q31)))
  have pT := pT.one hs (Nat.ne_of_gt (Nat.lt_of_lt_of_le ho z_q76))
  have aT := aT.kept hJ
  have pM := pM.one hs (Nat.ne_of_gt (Nat.lt_of_lt_of_le ho z_q87))
  have aM := aM.kept hJ
  have hr : ∀ x ∈ ([q15, q24, q31, q37, q49, q61, q76, q87, H0.size, H0.size, H0.size, H0.size] : List Nat), H0.size ≤ x := by
    intro x hx
    simp only [List.mem_cons, List.not_mem_nil, or_false] at hx
    rcases hx with rfl | rfl | rfl | rfl | rfl | rfl | rfl | rfl | rfl | rfl | rfl | rfl <;> first | exact Nat.le_refl _ | assumption
  refine hret _ _ _ _ ⟨(fun k => ([q15, q24, q31, q37, q49, q61, q76, q87, H0.size, H0.size, H0.size, H0.size] : List Nat).getD k H0.size), hO, fun z hz => hA z (by simp only [List.mem_cons, List.not_mem_nil, or_false] at hz ⊢; rcases hz with rfl | rfl <;> simp), sx_ge hr, t_q31, Nat.ne_of_lt u67, rT, rM, pT, pM, aT, aM, bT, bM⟩ hS.1 hS.2.2 d_K_init_97
