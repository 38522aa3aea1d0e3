set_option maxHeartbeats 4000000 in
set_option maxRecDepth 100000 in
theorem lr_sign {p : Program} {l : Launch} {e : Env} {s : State} {m : MethodId} {args : Array Value} {below : List Frame} {meth : Method} {c : Code} {Q : State → Prop} {D : va_G} {g : ClassId → FieldType → Prop} {b : Nat} {xs : Nat → Int32} {H : Heap} {locs : List Loc} {ls : Array Slot} {x o ou : Nat} {r rt rm ro : Nat → Nat} (htr : l.stackTraces = false) (EE : sx_E p s m args c code 7 R_L D g) (hKx : tx_K s) (hX : va_X b 6 xs s s.heap) (hbl : b < s.heap.size) (hI : LI_ D g s H x r rt rm o ro ou) (hlo : ∀ q ∈ locs, s.heap.size ≤ q.base) (hl : lv_has ls 7 [(4, .int (nI 0)), (3, .ref ou), (2, .ref o), (1, .ref x), (0, .ref b)]) (hend : LQ_ p l e s m args below meth c b Q)  : W p l e room_1 s m args below meth c H locs 274 206097 Q (F0 m 432 ls []) := by
  obtain ⟨hz, h0, k_x, k_r6, k_r7, f_rt0, x_rt0, f_r1, n_x_r6, n_x_r7, n_r6_r7, f_r2, z_r2, k_o, f_o1, f_o9, z_o9, k_ou, a_ox, a_o6, a_o7, a_ot, a_ou, a_1u, a_ut, b_x, b_6, b_7, b_t, b_o, b_1, b_u⟩ := hI
  obtain ⟨hx, hb, hml, hown, hts, hG, hK⟩ := id EE
  refine lv_aload_n hx hb d_L_law_432 rfl (lv_at hl 3 rfl) ?_
  refine lv_aload_n hx hb d_L_law_433 rfl (lv_at hl 4 rfl) ?_
  refine lv_iload hx hb d_L_law_434 (lv_at hl 0 rfl) ?_
  refine lv_iconst (v := nI 1) hx hb d_L_law_436 (by decide +kernel) ?_
  refine lv_iadd hx hb d_L_law_437 ?_
  refine sx_ti (y := nI (1)) (nI_add _ _) ?_
  refine lw_ld hx hb hX hbl h0 (by decide) d_L_law_438 ?_
  have hF : ∀ q, (fun _ => False) q → s.heap.size ≤ q := by
    intro q h
    exact h.elim
  refine px_gW (E' := (fun _ => False)) (F := fun q => s.heap.size ≤ q) (V := nI 1) (P := fun H => True) (mc := 1) (ms := 6) (cells' := 275) (slots' := 206103) (px_runSW (As := [.ref x, .int (xs 1)]) (rest := []) EE hKx h0 (c_L_sign htr k_x k_r6 k_r7 f_rt0 x_rt0 f_r1 n_x_r6 n_x_r7 n_r6_r7) ws_L_87 rfl ⟨rfl, rfl⟩ ⟨Nat.le_of_ble_eq_true rfl, Nat.le_of_ble_eq_true rfl⟩ ⟨Nat.le_of_ble_eq_true rfl, Nat.le_of_ble_eq_true rfl⟩ hl.1 rfl (Nat.le_of_ble_eq_true rfl) d_L_law_439) hF hlo rfl rfl (fun H1 locs hJ hP hlo => ?_)
  have h0 : ∀ q : Nat, q < s.heap.size → H1[q]? = s.heap[q]? := fun q hq => (hJ.2.1 q (Nat.lt_of_lt_of_le hq hz) (fun h => Nat.not_le.mpr hq (hF q h))).trans (h0 q hq)
  have hz := Nat.le_trans hz hJ.1
  have k_o := hJ.ob id k_o
  have f_o1 := hJ.2.2.1 _ _ _ f_o1
  refine lv_istore (lv' := [(5, .int (nI (1))), (4, .int (nI (0))), (3, .ref ou), (2, .ref o), (1, .ref x), (0, .ref b)]) hx hb d_L_law_442 hl (by decide) rfl (fun ls hl => ?_)
  refine lv_aload_n hx hb d_L_law_444 rfl (lv_at hl 3 rfl) ?_
  refine lv_aload_n hx hb d_L_law_445 rfl (lv_at hl 5 rfl) ?_
  refine lv_iload hx hb d_L_law_446 (lv_at hl 1 rfl) ?_
  refine lv_iconst (v := nI 1) hx hb d_L_law_448 (by decide +kernel) ?_
  refine lv_iadd hx hb d_L_law_449 ?_
  refine sx_ti (y := nI (1)) (nI_add _ _) ?_
  refine lw_ld hx hb hX hbl h0 (by decide) d_L_law_450 ?_
  have hF : ∀ q, (fun z => z = o) q → s.heap.size ≤ q := by
    intro q h
    rw [show q = o from h]
    exact b_o
  refine px_gWv (E' := (fun z => z = o)) (F := fun q => s.heap.size ≤ q) (P := fun H => va_P D classes [(o, .inr (0, mo_fs ro (fun k => if k = 0 then (nI (1)) else 0)))] H) (mc := 0) (ms := 0) (cells' := 275) (slots' := 206103) (sx_runV (As := [.int (xs 1)]) (rest := []) EE k_o rfl rfl (c_M_sign k_o) w_L_90 rfl ⟨rfl, rfl⟩ ⟨Nat.le_of_ble_eq_true rfl, Nat.le_of_ble_eq_true rfl⟩ ⟨Nat.le_of_ble_eq_true rfl, Nat.le_of_ble_eq_true rfl⟩ hl.1 rfl (Nat.le_of_ble_eq_true rfl) d_L_law_451) hF hlo rfl rfl (fun H2 locs hJ hP hlo => ?_)
  have h0 : ∀ q : Nat, q < s.heap.size → H2[q]? = s.heap[q]? := fun q hq => (hJ.2.1 q (Nat.lt_of_lt_of_le hq hz) (fun h => Nat.not_le.mpr hq (hF q h))).trans (h0 q hq)
  have hz := Nat.le_trans hz hJ.1
  have k_o := hP
  refine lv_aload_n hx hb d_L_law_454 rfl (lv_at hl 3 rfl) ?_
  refine px_gW (E' := (fun _ => False)) (F := fun q => s.heap.size ≤ q) (V := nI 1) (P := fun H => True) (mc := 0) (ms := 0) (cells' := 275) (slots' := 206103) (sx_runV (As := []) (rest := []) EE k_o rfl rfl (c_M_thrown k_o rfl) w_L_65 rfl ⟨rfl, rfl⟩ ⟨Nat.le_of_ble_eq_true rfl, Nat.le_of_ble_eq_true rfl⟩ ⟨Nat.le_of_ble_eq_true rfl, Nat.le_of_ble_eq_true rfl⟩ hl.1 rfl (Nat.le_of_ble_eq_true rfl) d_L_law_455) (fun _ h => h.elim) hlo rfl rfl (fun H3 locs hJ hP hlo => ?_)
  have h0 : ∀ q : Nat, q < s.heap.size → H3[q]? = s.heap[q]? := fun q hq => (hJ.2.1 q (Nat.lt_of_lt_of_le hq hz) (fun h => h.elim)).trans (h0 q hq)
  have hz := Nat.le_trans hz hJ.1
  refine lv_iload hx hb d_L_law_458 (lv_at hl 0 rfl) ?_
  refine lv_icmp_eq (tgt := 465) hx hb d_L_law_460 (by decide) (fun _ => ?_) (fun q => absurd (by decide +kernel) q)
  refine lv_goto (tgt := 712) hx hb d_L_law_465 (by decide) ?_
  exact hend _ _ _ _ _ h0 hlo (Nat.le_of_ble_eq_true rfl) (Nat.le_of_ble_eq_true rfl) (lv_sub hl [1, 5] rfl)
set_option maxHeartbeats 4000000 in
set_option maxRecDepth 100000 in
theorem lr_verify {p : Program} {l : Launch} {e : Env} {s : State} {m : MethodId} {args : Array Value} {below : List Frame} {meth : Method} {c : Code} {Q : State → Prop} {D : va_G} {g : ClassId → FieldType → Prop} {b : Nat} {xs : Nat → Int32} {H : Heap} {locs : List Loc} {ls : Array Slot} {x o ou : Nat} {r rt rm ro : Nat → Nat} (htr : l.stackTraces = false) (EE : sx_E p s m args c code 7 R_L D g) (hKx : tx_K s) (hX : va_X b 6 xs s s.heap) (hbl : b < s.heap.size) (hI : LI_ D g s H x r rt rm o ro ou) (hlo : ∀ q ∈ locs, s.heap.size ≤ q.base) (hl : lv_has ls 7 [(4, .int (nI 0)), (3, .ref ou), (2, .ref o), (1, .ref x), (0, .ref b)]) (hend : LQ_ p l e s m args below meth c b Q)  : W p l e room_1 s m args below meth c H locs 274 206097 Q (F0 m 468 ls []) := by
  obtain ⟨hz, h0, k_x, k_r6, k_r7, f_rt0, x_rt0, f_r1, n_x_r6, n_x_r7, n_r6_r7, f_r2, z_r2, k_o, f_o1, f_o9, z_o9, k_ou, a_ox, a_o6, a_o7, a_ot, a_ou, a_1u, a_ut, b_x, b_6, b_7, b_t, b_o, b_1, b_u⟩ := hI
  obtain ⟨hx, hb, hml, hown, hts, hG, hK⟩ := id EE
  refine lv_aload_n hx hb d_L_law_468 rfl (lv_at hl 3 rfl) ?_
  refine lv_aload_n hx hb d_L_law_469 rfl (lv_at hl 1 rfl) ?_
  have hF : ∀ q, (fun _ => False) q → s.heap.size ≤ q := by
    intro q h
    exact h.elim
  refine px_gW (E' := (fun _ => False)) (F := fun q => s.heap.size ≤ q) (V := nI 1) (P := fun H => True) (mc := 1) (ms := 6) (cells' := 275) (slots' := 206103) (px_runSW (As := [.ref x, .ref ou]) (rest := []) EE hKx h0 (c_L_verify htr k_x k_r6 k_r7 f_rt0 x_rt0 f_r1 k_ou n_x_r6 n_x_r7 n_r6_r7) ws_L_91 rfl ⟨rfl, rfl⟩ ⟨Nat.le_of_ble_eq_true rfl, Nat.le_of_ble_eq_true rfl⟩ ⟨Nat.le_of_ble_eq_true rfl, Nat.le_of_ble_eq_true rfl⟩ hl.1 rfl (Nat.le_of_ble_eq_true rfl) d_L_law_470) hF hlo rfl rfl (fun H1 locs hJ hP hlo => ?_)
  have h0 : ∀ q : Nat, q < s.heap.size → H1[q]? = s.heap[q]? := fun q hq => (hJ.2.1 q (Nat.lt_of_lt_of_le hq hz) (fun h => Nat.not_le.mpr hq (hF q h))).trans (h0 q hq)
  have hz := Nat.le_trans hz hJ.1
  have k_o := hJ.ob id k_o
  have f_o1 := hJ.2.2.1 _ _ _ f_o1
  refine lv_istore (lv' := [(5, .int (nI (1))), (4, .int (nI (0))), (3, .ref ou), (2, .ref o), (1, .ref x), (0, .ref b)]) hx hb d_L_law_473 hl (by decide) rfl (fun ls hl => ?_)
  refine lv_aload_n hx hb d_L_law_475 rfl (lv_at hl 3 rfl) ?_
  have hF : ∀ q, (fun z => z = o) q → s.heap.size ≤ q := by
    intro q h
    rw [show q = o from h]
    exact b_o
  refine px_gW (E' := (fun z => z = o)) (F := fun q => s.heap.size ≤ q) (V := nI 0) (P := fun H => va_P D classes [(o, .inr (0, mo_fs ro (fun k => if k = 0 then (nI (1)) else 0)))] H) (mc := 0) (ms := 0) (cells' := 275) (slots' := 206103) (sx_runV (As := []) (rest := []) EE k_o rfl rfl (c_M_verify k_o) w_L_93 rfl ⟨rfl, rfl⟩ ⟨Nat.le_of_ble_eq_true rfl, Nat.le_of_ble_eq_true rfl⟩ ⟨Nat.le_of_ble_eq_true rfl, Nat.le_of_ble_eq_true rfl⟩ hl.1 rfl (Nat.le_of_ble_eq_true rfl) d_L_law_476) hF hlo rfl rfl (fun H2 locs hJ hP hlo => ?_)
  have h0 : ∀ q : Nat, q < s.heap.size → H2[q]? = s.heap[q]? := fun q hq => (hJ.2.1 q (Nat.lt_of_lt_of_le hq hz) (fun h => Nat.not_le.mpr hq (hF q h))).trans (h0 q hq)
  have hz := Nat.le_trans hz hJ.1
  have k_o := hP
  refine lv_istore (lv' := [(6, .int (nI (0))), (5, .int (nI (1))), (4, .int (nI (0))), (3, .ref ou), (2, .ref o), (1, .ref x), (0, .ref b)]) hx hb d_L_law_479 hl (by decide) rfl (fun ls hl => ?_)
  refine lv_aload_n hx hb d_L_law_481 rfl (lv_at hl 4 rfl) ?_
  refine px_gW (E' := (fun _ => False)) (F := fun q => s.heap.size ≤ q) (V := nI 1) (P := fun H => True) (mc := 0) (ms := 0) (cells' := 275) (slots' := 206103) (sx_runV (As := []) (rest := []) EE k_o rfl rfl (c_M_thrown k_o rfl) w_L_65 rfl ⟨rfl, rfl⟩ ⟨Nat.le_of_ble_eq_true rfl, Nat.le_of_ble_eq_true rfl⟩ ⟨Nat.le_of_ble_eq_true rfl, Nat.le_of_ble_eq_true rfl⟩ hl.1 rfl (Nat.le_of_ble_eq_true rfl) d_L_law_482) (fun _ h => h.elim) hlo rfl rfl (fun H3 locs hJ hP hlo => ?_)
  have h0 : ∀ q : Nat, q < s.heap.size → H3[q]? = s.heap[q]? := fun q hq => (hJ.2.1 q (Nat.lt_of_lt_of_le hq hz) (fun h => h.elim)).trans (h0 q hq)
  have hz := Nat.le_trans hz hJ.1
  refine lv_iload hx hb d_L_law_485 (lv_at hl 1 rfl) ?_
  refine lv_icmp_eq (tgt := 492) hx hb d_L_law_487 (by decide) (fun _ => ?_) (fun q => absurd (by decide +kernel) q)
  refine lv_iload hx hb d_L_law_492 (lv_at hl 1 rfl) ?_
  refine lv_if_ne (tgt := 509) hx hb d_L_law_494 (by decide) (fun _ => ?_) (fun q => absurd q (by decide +kernel))
  refine lv_goto (tgt := 712) hx hb d_L_law_509 (by decide) ?_
  exact hend _ _ _ _ _ h0 hlo (Nat.le_of_ble_eq_true rfl) (Nat.le_of_ble_eq_true rfl) (lv_sub hl [2, 6] rfl)
set_option maxHeartbeats 4000000 in
set_option maxRecDepth 100000 in
theorem lr_point {p : Program} {l : Launch} {e : Env} {s : State} {m : MethodId} {args : Array Value} {below : List Frame} {meth : Method} {c : Code} {Q : State → Prop} {D : va_G} {g : ClassId → FieldType → Prop} {b : Nat} {xs : Nat → Int32} {H : Heap} {locs : List Loc} {ls : Array Slot} {x o ou : Nat} {r rt rm ro : Nat → Nat} (htr : l.stackTraces = false) (EE : sx_E p s m args c code 7 R_L D g) (hKx : tx_K s) (hX : va_X b 6 xs s s.heap) (hbl : b < s.heap.size) (hI : LI_ D g s H x r rt rm o ro ou) (hlo : ∀ q ∈ locs, s.heap.size ≤ q.base) (hl : lv_has ls 7 [(4, .int (nI 0)), (3, .ref ou), (2, .ref o), (1, .ref x), (0, .ref b)]) (hend : LQ_ p l e s m args below meth c b Q)  : W p l e room_1 s m args below meth c H locs 274 206097 Q (F0 m 512 ls []) := by
  obtain ⟨hz, h0, k_x, k_r6, k_r7, f_rt0, x_rt0, f_r1, n_x_r6, n_x_r7, n_r6_r7, f_r2, z_r2, k_o, f_o1, f_o9, z_o9, k_ou, a_ox, a_o6, a_o7, a_ot, a_ou, a_1u, a_ut, b_x, b_6, b_7, b_t, b_o, b_1, b_u⟩ := hI
  obtain ⟨hx, hb, hml, hown, hts, hG, hK⟩ := id EE
  refine lv_aload_n hx hb d_L_law_512 rfl (lv_at hl 3 rfl) ?_
  refine lv_aload_n hx hb d_L_law_513 rfl (lv_at hl 1 rfl) ?_
  have hF : ∀ q, (fun _ => False) q → s.heap.size ≤ q := by
    intro q h
    exact h.elim
  refine px_gW (E' := (fun _ => False)) (F := fun q => s.heap.size ≤ q) (V := nI 1) (P := fun H => True) (mc := 1) (ms := 6) (cells' := 275) (slots' := 206103) (px_runSW (As := [.ref x, .ref ou]) (rest := []) EE hKx h0 (c_L_point htr k_x k_r6 k_r7 f_rt0 x_rt0 f_r1 k_ou n_x_r6 n_x_r7 n_r6_r7) ws_L_94 rfl ⟨rfl, rfl⟩ ⟨Nat.le_of_ble_eq_true rfl, Nat.le_of_ble_eq_true rfl⟩ ⟨Nat.le_of_ble_eq_true rfl, Nat.le_of_ble_eq_true rfl⟩ hl.1 rfl (Nat.le_of_ble_eq_true rfl) d_L_law_514) hF hlo rfl rfl (fun H1 locs hJ hP hlo => ?_)
  have h0 : ∀ q : Nat, q < s.heap.size → H1[q]? = s.heap[q]? := fun q hq => (hJ.2.1 q (Nat.lt_of_lt_of_le hq hz) (fun h => Nat.not_le.mpr hq (hF q h))).trans (h0 q hq)
  have hz := Nat.le_trans hz hJ.1
  have k_o := hJ.ob id k_o
  have f_o1 := hJ.2.2.1 _ _ _ f_o1
  refine lv_istore (lv' := [(5, .int (nI (1))), (4, .int (nI (0))), (3, .ref ou), (2, .ref o), (1, .ref x), (0, .ref b)]) hx hb d_L_law_517 hl (by decide) rfl (fun ls hl => ?_)
  refine lv_aload_n hx hb d_L_law_519 rfl (lv_at hl 3 rfl) ?_
  have hF : ∀ q, (fun z => z = o) q → s.heap.size ≤ q := by
    intro q h
    rw [show q = o from h]
    exact b_o
  refine px_gW (E' := (fun z => z = o)) (F := fun q => s.heap.size ≤ q) (V := nI 0) (P := fun H => va_P D classes [(o, .inr (0, mo_fs ro (fun k => if k = 0 then (nI (1)) else 0)))] H) (mc := 0) (ms := 0) (cells' := 275) (slots' := 206103) (sx_runV (As := []) (rest := []) EE k_o rfl rfl (c_M_point k_o) w_L_96 rfl ⟨rfl, rfl⟩ ⟨Nat.le_of_ble_eq_true rfl, Nat.le_of_ble_eq_true rfl⟩ ⟨Nat.le_of_ble_eq_true rfl, Nat.le_of_ble_eq_true rfl⟩ hl.1 rfl (Nat.le_of_ble_eq_true rfl) d_L_law_520) hF hlo rfl rfl (fun H2 locs hJ hP hlo => ?_)
  have h0 : ∀ q : Nat, q < s.heap.size → H2[q]? = s.heap[q]? := fun q hq => (hJ.2.1 q (Nat.lt_of_lt_of_le hq hz) (fun h => Nat.not_le.mpr hq (hF q h))).trans (h0 q hq)
  have hz := Nat.le_trans hz hJ.1
  have k_o := hP
  refine lv_istore (lv' := [(6, .int (nI (0))), (5, .int (nI (1))), (4, .int (nI (0))), (3, .ref ou), (2, .ref o), (1, .ref x), (0, .ref b)]) hx hb d_L_law_523 hl (by decide) rfl (fun ls hl => ?_)
  refine lv_aload_n hx hb d_L_law_525 rfl (lv_at hl 4 rfl) ?_
  refine px_gW (E' := (fun _ => False)) (F := fun q => s.heap.size ≤ q) (V := nI 1) (P := fun H => True) (mc := 0) (ms := 0) (cells' := 275) (slots' := 206103) (sx_runV (As := []) (rest := []) EE k_o rfl rfl (c_M_thrown k_o rfl) w_L_65 rfl ⟨rfl, rfl⟩ ⟨Nat.le_of_ble_eq_true rfl, Nat.le_of_ble_eq_true rfl⟩ ⟨Nat.le_of_ble_eq_true rfl, Nat.le_of_ble_eq_true rfl⟩ hl.1 rfl (Nat.le_of_ble_eq_true rfl) d_L_law_526) (fun _ h => h.elim) hlo rfl rfl (fun H3 locs hJ hP hlo => ?_)
  have h0 : ∀ q : Nat, q < s.heap.size → H3[q]? = s.heap[q]? := fun q hq => (hJ.2.1 q (Nat.lt_of_lt_of_le hq hz) (fun h => h.elim)).trans (h0 q hq)
  have hz := Nat.le_trans hz hJ.1
  refine lv_iload hx hb d_L_law_529 (lv_at hl 1 rfl) ?_
  refine lv_icmp_eq (tgt := 536) hx hb d_L_law_531 (by decide) (fun _ => ?_) (fun q => absurd (by decide +kernel) q)
  refine lv_iload hx hb d_L_law_536 (lv_at hl 1 rfl) ?_
  refine lv_if_ne (tgt := 560) hx hb d_L_law_538 (by decide) (fun _ => ?_) (fun q => absurd q (by decide +kernel))
  refine lv_goto (tgt := 712) hx hb d_L_law_560 (by decide) ?_
  exact hend _ _ _ _ _ h0 hlo (Nat.le_of_ble_eq_true rfl) (Nat.le_of_ble_eq_true rfl) (lv_sub hl [2, 6] rfl)
set_option maxHeartbeats 4000000 in
set_option maxRecDepth 100000 in
theorem lr_back0 {p : Program} {l : Launch} {e : Env} {s : State} {m : MethodId} {args : Array Value} {below : List Frame} {meth : Method} {c : Code} {Q : State → Prop} {D : va_G} {g : ClassId → FieldType → Prop} {b : Nat} {xs : Nat → Int32} {H : Heap} {locs : List Loc} {ls : Array Slot} {x o ou : Nat} {r rt rm ro : Nat → Nat} (htr : l.stackTraces = false) (EE : sx_E p s m args c code 7 R_L D g) (hKx : tx_K s) (hX : va_X b 6 xs s s.heap) (hbl : b < s.heap.size) (hI : LI_ D g s H x r rt rm o ro ou) (hlo : ∀ q ∈ locs, s.heap.size ≤ q.base) (hl : lv_has ls 7 [(4, .int (nI 0)), (3, .ref ou), (2, .ref o), (1, .ref x), (0, .ref b)]) (hend : LQ_ p l e s m args below meth c b Q) (y0 : xs 1 = -1) : W p l e room_1 s m args below meth c H locs 274 206097 Q (F0 m 563 ls []) := by
  obtain ⟨hz, h0, k_x, k_r6, k_r7, f_rt0, x_rt0, f_r1, n_x_r6, n_x_r7, n_r6_r7, f_r2, z_r2, k_o, f_o1, f_o9, z_o9, k_ou, a_ox, a_o6, a_o7, a_ot, a_ou, a_1u, a_ut, b_x, b_6, b_7, b_t, b_o, b_1, b_u⟩ := hI
  obtain ⟨hx, hb, hml, hown, hts, hG, hK⟩ := id EE
  refine lv_aload_n hx hb d_L_law_563 rfl (lv_at hl 3 rfl) ?_
  refine lv_aload_n hx hb d_L_law_564 rfl (lv_at hl 4 rfl) ?_
  refine lv_iload hx hb d_L_law_565 (lv_at hl 0 rfl) ?_
  refine lv_iconst (v := nI 1) hx hb d_L_law_567 (by decide +kernel) ?_
  refine lv_iadd hx hb d_L_law_568 ?_
  refine sx_ti (y := nI (1)) (nI_add _ _) ?_
  refine lw_ld hx hb hX hbl h0 (by decide) d_L_law_569 ?_
  refine sx_ti (y := (-1)) y0 ?_
  refine lv_aload_n hx hb d_L_law_570 rfl (lv_at hl 4 rfl) ?_
  refine lv_iload hx hb d_L_law_571 (lv_at hl 0 rfl) ?_
  refine lv_iconst (v := nI 2) hx hb d_L_law_573 (by decide +kernel) ?_
  refine lv_iadd hx hb d_L_law_574 ?_
  refine sx_ti (y := nI (2)) (nI_add _ _) ?_
  refine lw_ld hx hb hX hbl h0 (by decide) d_L_law_575 ?_
  refine lv_aload_n hx hb d_L_law_576 rfl (lv_at hl 1 rfl) ?_
  have hF : ∀ q, (fun z => z = (r 6) ∨ z = (rt 0) ∨ z = ou) q → s.heap.size ≤ q := by
    intro q h
    rcases h with rfl | rfl | rfl
    · exact b_6
    · exact b_t
    · exact b_u
  refine px_gW (E' := (fun z => z = (r 6) ∨ z = (rt 0) ∨ z = ou)) (F := fun q => s.heap.size ≤ q) (V := nI 0) (P := fun H => lo_ g H ou 0) (mc := 0) (ms := 0) (cells' := 274) (slots' := 206097) (px_runSW (As := [.ref x, .int (-1), .int (xs 2), .ref ou]) (rest := []) EE hKx h0 (c_L_back0 k_x k_r6 k_r7 f_rt0 x_rt0 f_r1 k_ou n_x_r6 n_x_r7 n_r6_r7 a_ut) ws_L_97 rfl ⟨rfl, rfl⟩ ⟨Nat.le_of_ble_eq_true rfl, Nat.le_of_ble_eq_true rfl⟩ ⟨Nat.le_of_ble_eq_true rfl, Nat.le_of_ble_eq_true rfl⟩ hl.1 rfl (Nat.le_of_ble_eq_true rfl) d_L_law_577) hF hlo rfl rfl (fun H1 locs hJ hP hlo => ?_)
  have h0 : ∀ q : Nat, q < s.heap.size → H1[q]? = s.heap[q]? := fun q hq => (hJ.2.1 q (Nat.lt_of_lt_of_le hq hz) (fun h => Nat.not_le.mpr hq (hF q h))).trans (h0 q hq)
  have hz := Nat.le_trans hz hJ.1
  have k_o := hJ.ob (fun h => h.elim a_o6 (fun h => h.elim a_ot a_ou)) k_o
  have f_o1 := hJ.2.2.1 _ _ _ f_o1
  have k_ou := hP
  refine lv_istore (lv' := [(5, .int (nI (0))), (4, .int (nI (0))), (3, .ref ou), (2, .ref o), (1, .ref x), (0, .ref b)]) hx hb d_L_law_580 hl (by decide) rfl (fun ls hl => ?_)
  refine lv_aload_n hx hb d_L_law_582 rfl (lv_at hl 3 rfl) ?_
  refine lv_aload_n hx hb d_L_law_583 rfl (lv_at hl 5 rfl) ?_
  refine lv_iload hx hb d_L_law_584 (lv_at hl 1 rfl) ?_
  refine lv_iconst (v := nI 1) hx hb d_L_law_586 (by decide +kernel) ?_
  refine lv_iadd hx hb d_L_law_587 ?_
  refine sx_ti (y := nI (1)) (nI_add _ _) ?_
  refine lw_ld hx hb hX hbl h0 (by decide) d_L_law_588 ?_
  refine sx_ti (y := (-1)) y0 ?_
  refine lv_aload_n hx hb d_L_law_589 rfl (lv_at hl 5 rfl) ?_
  refine lv_iload hx hb d_L_law_590 (lv_at hl 1 rfl) ?_
  refine lv_iconst (v := nI 2) hx hb d_L_law_592 (by decide +kernel) ?_
  refine lv_iadd hx hb d_L_law_593 ?_
  refine sx_ti (y := nI (2)) (nI_add _ _) ?_
  refine lw_ld hx hb hX hbl h0 (by decide) d_L_law_594 ?_
  have hF : ∀ q, (fun z => z = o) q → s.heap.size ≤ q := by
    intro q h
    rw [show q = o from h]
    exact b_o
  refine px_gW (E' := (fun z => z = o)) (F := fun q => s.heap.size ≤ q) (V := nI 0) (P := fun H => va_P D classes [(o, .inr (0, mo_fs ro (fun _ => 0)))] H) (mc := 0) (ms := 0) (cells' := 274) (slots' := 206097) (sx_runV (As := [.int (-1), .int (xs 2)]) (rest := []) EE k_o rfl rfl (c_M_back0 k_o) w_L_100 rfl ⟨rfl, rfl⟩ ⟨Nat.le_of_ble_eq_true rfl, Nat.le_of_ble_eq_true rfl⟩ ⟨Nat.le_of_ble_eq_true rfl, Nat.le_of_ble_eq_true rfl⟩ hl.1 rfl (Nat.le_of_ble_eq_true rfl) d_L_law_595) hF hlo rfl rfl (fun H2 locs hJ hP hlo => ?_)
  have h0 : ∀ q : Nat, q < s.heap.size → H2[q]? = s.heap[q]? := fun q hq => (hJ.2.1 q (Nat.lt_of_lt_of_le hq hz) (fun h => Nat.not_le.mpr hq (hF q h))).trans (h0 q hq)
  have hz := Nat.le_trans hz hJ.1
  have k_o := hP
  have k_ou := k_ou.j hJ (Ne.symm a_ou)
  refine lv_istore (lv' := [(6, .int (nI (0))), (5, .int (nI (0))), (4, .int (nI (0))), (3, .ref ou), (2, .ref o), (1, .ref x), (0, .ref b)]) hx hb d_L_law_598 hl (by decide) rfl (fun ls hl => ?_)
  refine lv_aload_n hx hb d_L_law_600 rfl (lv_at hl 4 rfl) ?_
  refine px_gW (E' := (fun _ => False)) (F := fun q => s.heap.size ≤ q) (V := nI 0) (P := fun H => True) (mc := 0) (ms := 0) (cells' := 274) (slots' := 206097) (sx_runV (As := []) (rest := []) EE k_o rfl rfl (c_M_thrown k_o rfl) w_L_65 rfl ⟨rfl, rfl⟩ ⟨Nat.le_of_ble_eq_true rfl, Nat.le_of_ble_eq_true rfl⟩ ⟨Nat.le_of_ble_eq_true rfl, Nat.le_of_ble_eq_true rfl⟩ hl.1 rfl (Nat.le_of_ble_eq_true rfl) d_L_law_601) (fun _ h => h.elim) hlo rfl rfl (fun H3 locs hJ hP hlo => ?_)
  have h0 : ∀ q : Nat, q < s.heap.size → H3[q]? = s.heap[q]? := fun q hq => (hJ.2.1 q (Nat.lt_of_lt_of_le hq hz) (fun h => h.elim)).trans (h0 q hq)
  have hz := Nat.le_trans hz hJ.1
  have k_ou := k_ou.j hJ id
  refine lv_iload hx hb d_L_law_604 (lv_at hl 1 rfl) ?_
  refine lv_icmp_eq (tgt := 611) hx hb d_L_law_606 (by decide) (fun _ => ?_) (fun q => absurd (by decide +kernel) q)
  refine lv_iload hx hb d_L_law_611 (lv_at hl 1 rfl) ?_
  refine lv_if_ne (tgt := 628) hx hb d_L_law_613 (by decide) (fun q => absurd (by decide +kernel) q) (fun _ => ?_)
  refine lv_aload_n hx hb d_L_law_616 rfl (lv_at hl 3 rfl) ?_
  refine lv_iconst (v := nI 0) hx hb d_L_law_617 (by decide +kernel) ?_
  refine px_outld hx hb hG k_ou d_L_law_618 ?_
  refine lv_iload hx hb d_L_law_619 (lv_at hl 0 rfl) ?_
  refine lv_i2l (v := 0) hx hb d_L_law_621 (by decide +kernel) ?_
  refine W.lcmp hx hb d_L_law_622 ?_
  refine lv_if_eq (tgt := 628) hx hb d_L_law_623 (by decide) (fun _ => ?_) (fun q => absurd (by decide +kernel) q)
  refine lv_goto (tgt := 712) hx hb d_L_law_628 (by decide) ?_
  exact hend _ _ _ _ _ h0 hlo (Nat.le_of_ble_eq_true rfl) (Nat.le_of_ble_eq_true rfl) (lv_sub hl [2, 6] rfl)
set_option maxHeartbeats 4000000 in
set_option maxRecDepth 100000 in
theorem lr_back {p : Program} {l : Launch} {e : Env} {s : State} {m : MethodId} {args : Array Value} {below : List Frame} {meth : Method} {c : Code} {Q : State → Prop} {D : va_G} {g : ClassId → FieldType → Prop} {b : Nat} {xs : Nat → Int32} {H : Heap} {locs : List Loc} {ls : Array Slot} {x o ou : Nat} {r rt rm ro : Nat → Nat} (htr : l.stackTraces = false) (EE : sx_E p s m args c code 7 R_L D g) (hKx : tx_K s) (hX : va_X b 6 xs s s.heap) (hbl : b < s.heap.size) (hI : LI_ D g s H x r rt rm o ro ou) (hlo : ∀ q ∈ locs, s.heap.size ≤ q.base) (hl : lv_has ls 7 [(4, .int (nI 0)), (3, .ref ou), (2, .ref o), (1, .ref x), (0, .ref b)]) (hend : LQ_ p l e s m args below meth c b Q) (y0 : xs 1 ≠ -1) : W p l e room_1 s m args below meth c H locs 274 206097 Q (F0 m 563 ls []) := by
  obtain ⟨hz, h0, k_x, k_r6, k_r7, f_rt0, x_rt0, f_r1, n_x_r6, n_x_r7, n_r6_r7, f_r2, z_r2, k_o, f_o1, f_o9, z_o9, k_ou, a_ox, a_o6, a_o7, a_ot, a_ou, a_1u, a_ut, b_x, b_6, b_7, b_t, b_o, b_1, b_u⟩ := hI
  obtain ⟨hx, hb, hml, hown, hts, hG, hK⟩ := id EE
  refine lv_aload_n hx hb d_L_law_563 rfl (lv_at hl 3 rfl) ?_
  refine lv_aload_n hx hb d_L_law_564 rfl (lv_at hl 4 rfl) ?_
  refine lv_iload hx hb d_L_law_565 (lv_at hl 0 rfl) ?_
  refine lv_iconst (v := nI 1) hx hb d_L_law_567 (by decide +kernel) ?_
  refine lv_iadd hx hb d_L_law_568 ?_
  refine sx_ti (y := nI (1)) (nI_add _ _) ?_
  refine lw_ld hx hb hX hbl h0 (by decide) d_L_law_569 ?_
  refine lv_aload_n hx hb d_L_law_570 rfl (lv_at hl 4 rfl) ?_
  refine lv_iload hx hb d_L_law_571 (lv_at hl 0 rfl) ?_
  refine lv_iconst (v := nI 2) hx hb d_L_law_573 (by decide +kernel) ?_
  refine lv_iadd hx hb d_L_law_574 ?_
  refine sx_ti (y := nI (2)) (nI_add _ _) ?_
  refine lw_ld hx hb hX hbl h0 (by decide) d_L_law_575 ?_
  refine lv_aload_n hx hb d_L_law_576 rfl (lv_at hl 1 rfl) ?_
  have hF : ∀ q, (fun _ => False) q → s.heap.size ≤ q := by
    intro q h
    exact h.elim
  refine px_gW (E' := (fun _ => False)) (F := fun q => s.heap.size ≤ q) (V := nI 1) (P := fun H => True) (mc := 1) (ms := 6) (cells' := 275) (slots' := 206103) (px_runSW (As := [.ref x, .int (xs 1), .int (xs 2), .ref ou]) (rest := []) EE hKx h0 (c_L_back htr k_x k_r6 k_r7 f_rt0 x_rt0 f_r1 k_ou n_x_r6 n_x_r7 n_r6_r7 y0) ws_L_97 rfl ⟨rfl, rfl⟩ ⟨Nat.le_of_ble_eq_true rfl, Nat.le_of_ble_eq_true rfl⟩ ⟨Nat.le_of_ble_eq_true rfl, Nat.le_of_ble_eq_true rfl⟩ hl.1 rfl (Nat.le_of_ble_eq_true rfl) d_L_law_577) hF hlo rfl rfl (fun H1 locs hJ hP hlo => ?_)
  have h0 : ∀ q : Nat, q < s.heap.size → H1[q]? = s.heap[q]? := fun q hq => (hJ.2.1 q (Nat.lt_of_lt_of_le hq hz) (fun h => Nat.not_le.mpr hq (hF q h))).trans (h0 q hq)
  have hz := Nat.le_trans hz hJ.1
  have k_o := hJ.ob id k_o
  have f_o1 := hJ.2.2.1 _ _ _ f_o1
  refine lv_istore (lv' := [(5, .int (nI (1))), (4, .int (nI (0))), (3, .ref ou), (2, .ref o), (1, .ref x), (0, .ref b)]) hx hb d_L_law_580 hl (by decide) rfl (fun ls hl => ?_)
  refine lv_aload_n hx hb d_L_law_582 rfl (lv_at hl 3 rfl) ?_
  refine lv_aload_n hx hb d_L_law_583 rfl (lv_at hl 5 rfl) ?_
  refine lv_iload hx hb d_L_law_584 (lv_at hl 1 rfl) ?_
  refine lv_iconst (v := nI 1) hx hb d_L_law_586 (by decide +kernel) ?_
  refine lv_iadd hx hb d_L_law_587 ?_
  refine sx_ti (y := nI (1)) (nI_add _ _) ?_
  refine lw_ld hx hb hX hbl h0 (by decide) d_L_law_588 ?_
  refine lv_aload_n hx hb d_L_law_589 rfl (lv_at hl 5 rfl) ?_
  refine lv_iload hx hb d_L_law_590 (lv_at hl 1 rfl) ?_
  refine lv_iconst (v := nI 2) hx hb d_L_law_592 (by decide +kernel) ?_
  refine lv_iadd hx hb d_L_law_593 ?_
  refine sx_ti (y := nI (2)) (nI_add _ _) ?_
  refine lw_ld hx hb hX hbl h0 (by decide) d_L_law_594 ?_
  have hF : ∀ q, (fun z => z = o) q → s.heap.size ≤ q := by
    intro q h
    rw [show q = o from h]
    exact b_o
  refine px_gW (E' := (fun z => z = o)) (F := fun q => s.heap.size ≤ q) (V := nI 0) (P := fun H => va_P D classes [(o, .inr (0, mo_fs ro (fun k => if k = 0 then (nI (1)) else 0)))] H) (mc := 0) (ms := 0) (cells' := 275) (slots' := 206103) (sx_runV (As := [.int (xs 1), .int (xs 2)]) (rest := []) EE k_o rfl rfl (c_M_back k_o y0) w_L_100 rfl ⟨rfl, rfl⟩ ⟨Nat.le_of_ble_eq_true rfl, Nat.le_of_ble_eq_true rfl⟩ ⟨Nat.le_of_ble_eq_true rfl, Nat.le_of_ble_eq_true rfl⟩ hl.1 rfl (Nat.le_of_ble_eq_true rfl) d_L_law_595) hF hlo rfl rfl (fun H2 locs hJ hP hlo => ?_)
  have h0 : ∀ q : Nat, q < s.heap.size → H2[q]? = s.heap[q]? := fun q hq => (hJ.2.1 q (Nat.lt_of_lt_of_le hq hz) (fun h => Nat.not_le.mpr hq (hF q h))).trans (h0 q hq)
  have hz := Nat.le_trans hz hJ.1
  have k_o := hP
  refine lv_istore (lv' := [(6, .int (nI (0))), (5, .int (nI (1))), (4, .int (nI (0))), (3, .ref ou), (2, .ref o), (1, .ref x), (0, .ref b)]) hx hb d_L_law_598 hl (by decide) rfl (fun ls hl => ?_)
  refine lv_aload_n hx hb d_L_law_600 rfl (lv_at hl 4 rfl) ?_
  refine px_gW (E' := (fun _ => False)) (F := fun q => s.heap.size ≤ q) (V := nI 1) (P := fun H => True) (mc := 0) (ms := 0) (cells' := 275) (slots' := 206103) (sx_runV (As := []) (rest := []) EE k_o rfl rfl (c_M_thrown k_o rfl) w_L_65 rfl ⟨rfl, rfl⟩ ⟨Nat.le_of_ble_eq_true rfl, Nat.le_of_ble_eq_true rfl⟩ ⟨Nat.le_of_ble_eq_true rfl, Nat.le_of_ble_eq_true rfl⟩ hl.1 rfl (Nat.le_of_ble_eq_true rfl) d_L_law_601) (fun _ h => h.elim) hlo rfl rfl (fun H3 locs hJ hP hlo => ?_)
  have h0 : ∀ q : Nat, q < s.heap.size → H3[q]? = s.heap[q]? := fun q hq => (hJ.2.1 q (Nat.lt_of_lt_of_le hq hz) (fun h => h.elim)).trans (h0 q hq)
  have hz := Nat.le_trans hz hJ.1
  refine lv_iload hx hb d_L_law_604 (lv_at hl 1 rfl) ?_
  refine lv_icmp_eq (tgt := 611) hx hb d_L_law_606 (by decide) (fun _ => ?_) (fun q => absurd (by decide +kernel) q)
  refine lv_iload hx hb d_L_law_611 (lv_at hl 1 rfl) ?_
  refine lv_if_ne (tgt := 628) hx hb d_L_law_613 (by decide) (fun _ => ?_) (fun q => absurd q (by decide +kernel))
  refine lv_goto (tgt := 712) hx hb d_L_law_628 (by decide) ?_
  exact hend _ _ _ _ _ h0 hlo (Nat.le_of_ble_eq_true rfl) (Nat.le_of_ble_eq_true rfl) (lv_sub hl [2, 6] rfl)
set_option maxHeartbeats 4000000 in
set_option maxRecDepth 100000 in
theorem lr_result {p : Program} {l : Launch} {e : Env} {s : State} {m : MethodId} {args : Array Value} {below : List Frame} {meth : Method} {c : Code} {Q : State → Prop} {D : va_G} {g : ClassId → FieldType → Prop} {b : Nat} {xs : Nat → Int32} {H : Heap} {locs : List Loc} {ls : Array Slot} {x o ou : Nat} {r rt rm ro : Nat → Nat} (htr : l.stackTraces = false) (EE : sx_E p s m args c code 7 R_L D g) (hKx : tx_K s) (hX : va_X b 6 xs s s.heap) (hbl : b < s.heap.size) (hI : LI_ D g s H x r rt rm o ro ou) (hlo : ∀ q ∈ locs, s.heap.size ≤ q.base) (hl : lv_has ls 7 [(4, .int (nI 0)), (3, .ref ou), (2, .ref o), (1, .ref x), (0, .ref b)]) (hend : LQ_ p l e s m args below meth c b Q)  : W p l e room_1 s m args below meth c H locs 274 206097 Q (F0 m 631 ls []) := by
  obtain ⟨hz, h0, k_x, k_r6, k_r7, f_rt0, x_rt0, f_r1, n_x_r6, n_x_r7, n_r6_r7, f_r2, z_r2, k_o, f_o1, f_o9, z_o9, k_ou, a_ox, a_o6, a_o7, a_ot, a_ou, a_1u, a_ut, b_x, b_6, b_7, b_t, b_o, b_1, b_u⟩ := hI
  obtain ⟨hx, hb, hml, hown, hts, hG, hK⟩ := id EE
  refine lv_aload_n hx hb d_L_law_631 rfl (lv_at hl 3 rfl) ?_
  refine lv_aload_n hx hb d_L_law_632 rfl (lv_at hl 4 rfl) ?_
  refine lv_iload hx hb d_L_law_633 (lv_at hl 0 rfl) ?_
  refine lv_iconst (v := nI 1) hx hb d_L_law_635 (by decide +kernel) ?_
  refine lv_iadd hx hb d_L_law_636 ?_
  refine sx_ti (y := nI (1)) (nI_add _ _) ?_
  refine lw_ld hx hb hX hbl h0 (by decide) d_L_law_637 ?_
  refine lv_aload_n hx hb d_L_law_638 rfl (lv_at hl 1 rfl) ?_
  have hF : ∀ q, (fun _ => False) q → s.heap.size ≤ q := by
    intro q h
    exact h.elim
  refine px_gW (E' := (fun _ => False)) (F := fun q => s.heap.size ≤ q) (V := nI 1) (P := fun H => True) (mc := 1) (ms := 6) (cells' := 275) (slots' := 206103) (px_runSW (As := [.ref x, .int (xs 1), .ref ou]) (rest := []) EE hKx h0 (c_L_result htr k_x k_r6 k_r7 f_rt0 x_rt0 f_r1 k_ou n_x_r6 n_x_r7 n_r6_r7) ws_L_101 rfl ⟨rfl, rfl⟩ ⟨Nat.le_of_ble_eq_true rfl, Nat.le_of_ble_eq_true rfl⟩ ⟨Nat.le_of_ble_eq_true rfl, Nat.le_of_ble_eq_true rfl⟩ hl.1 rfl (Nat.le_of_ble_eq_true rfl) d_L_law_639) hF hlo rfl rfl (fun H1 locs hJ hP hlo => ?_)
  have h0 : ∀ q : Nat, q < s.heap.size → H1[q]? = s.heap[q]? := fun q hq => (hJ.2.1 q (Nat.lt_of_lt_of_le hq hz) (fun h => Nat.not_le.mpr hq (hF q h))).trans (h0 q hq)
  have hz := Nat.le_trans hz hJ.1
  have k_o := hJ.ob id k_o
  have f_o1 := hJ.2.2.1 _ _ _ f_o1
  refine lv_istore (lv' := [(5, .int (nI (1))), (4, .int (nI (0))), (3, .ref ou), (2, .ref o), (1, .ref x), (0, .ref b)]) hx hb d_L_law_642 hl (by decide) rfl (fun ls hl => ?_)
  refine lv_aload_n hx hb d_L_law_644 rfl (lv_at hl 3 rfl) ?_
  refine lv_aload_n hx hb d_L_law_645 rfl (lv_at hl 5 rfl) ?_
  refine lv_iload hx hb d_L_law_646 (lv_at hl 1 rfl) ?_
  refine lv_iconst (v := nI 1) hx hb d_L_law_648 (by decide +kernel) ?_
  refine lv_iadd hx hb d_L_law_649 ?_
  refine sx_ti (y := nI (1)) (nI_add _ _) ?_
  refine lw_ld hx hb hX hbl h0 (by decide) d_L_law_650 ?_
  have hF : ∀ q, (fun z => z = o) q → s.heap.size ≤ q := by
    intro q h
    rw [show q = o from h]
    exact b_o
  refine px_gW (E' := (fun z => z = o)) (F := fun q => s.heap.size ≤ q) (V := nI 0) (P := fun H => va_P D classes [(o, .inr (0, mo_fs ro (fun k => if k = 0 then (nI (1)) else 0)))] H) (mc := 0) (ms := 0) (cells' := 275) (slots' := 206103) (sx_runV (As := [.int (xs 1)]) (rest := []) EE k_o rfl rfl (c_M_result k_o) w_L_103 rfl ⟨rfl, rfl⟩ ⟨Nat.le_of_ble_eq_true rfl, Nat.le_of_ble_eq_true rfl⟩ ⟨Nat.le_of_ble_eq_true rfl, Nat.le_of_ble_eq_true rfl⟩ hl.1 rfl (Nat.le_of_ble_eq_true rfl) d_L_law_651) hF hlo rfl rfl (fun H2 locs hJ hP hlo => ?_)
  have h0 : ∀ q : Nat, q < s.heap.size → H2[q]? = s.heap[q]? := fun q hq => (hJ.2.1 q (Nat.lt_of_lt_of_le hq hz) (fun h => Nat.not_le.mpr hq (hF q h))).trans (h0 q hq)
  have hz := Nat.le_trans hz hJ.1
  have k_o := hP
  refine lv_istore (lv' := [(6, .int (nI (0))), (5, .int (nI (1))), (4, .int (nI (0))), (3, .ref ou), (2, .ref o), (1, .ref x), (0, .ref b)]) hx hb d_L_law_654 hl (by decide) rfl (fun ls hl => ?_)
  refine lv_aload_n hx hb d_L_law_656 rfl (lv_at hl 4 rfl) ?_
  refine px_gW (E' := (fun _ => False)) (F := fun q => s.heap.size ≤ q) (V := nI 1) (P := fun H => True) (mc := 0) (ms := 0) (cells' := 275) (slots' := 206103) (sx_runV (As := []) (rest := []) EE k_o rfl rfl (c_M_thrown k_o rfl) w_L_65 rfl ⟨rfl, rfl⟩ ⟨Nat.le_of_ble_eq_true rfl, Nat.le_of_ble_eq_true rfl⟩ ⟨Nat.le_of_ble_eq_true rfl, Nat.le_of_ble_eq_true rfl⟩ hl.1 rfl (Nat.le_of_ble_eq_true rfl) d_L_law_657) (fun _ h => h.elim) hlo rfl rfl (fun H3 locs hJ hP hlo => ?_)
  have h0 : ∀ q : Nat, q < s.heap.size → H3[q]? = s.heap[q]? := fun q hq => (hJ.2.1 q (Nat.lt_of_lt_of_le hq hz) (fun h => h.elim)).trans (h0 q hq)
  have hz := Nat.le_trans hz hJ.1
  refine lv_iload hx hb d_L_law_660 (lv_at hl 1 rfl) ?_
  refine lv_icmp_eq (tgt := 667) hx hb d_L_law_662 (by decide) (fun _ => ?_) (fun q => absurd (by decide +kernel) q)
  refine lv_iload hx hb d_L_law_667 (lv_at hl 1 rfl) ?_
  refine lv_if_ne (tgt := 684) hx hb d_L_law_669 (by decide) (fun _ => ?_) (fun q => absurd q (by decide +kernel))
  refine lv_goto (tgt := 712) hx hb d_L_law_684 (by decide) ?_
  exact hend _ _ _ _ _ h0 hlo (Nat.le_of_ble_eq_true rfl) (Nat.le_of_ble_eq_true rfl) (lv_sub hl [2, 6] rfl)
set_option maxHeartbeats 4000000 in
set_option maxRecDepth 100000 in
theorem lr_count {p : Program} {l : Launch} {e : Env} {s : State} {m : MethodId} {args : Array Value} {below : List Frame} {meth : Method} {c : Code} {Q : State → Prop} {D : va_G} {g : ClassId → FieldType → Prop} {b : Nat} {xs : Nat → Int32} {H : Heap} {locs : List Loc} {ls : Array Slot} {x o ou : Nat} {r rt rm ro : Nat → Nat} (htr : l.stackTraces = false) (EE : sx_E p s m args c code 7 R_L D g) (hKx : tx_K s) (hX : va_X b 6 xs s s.heap) (hbl : b < s.heap.size) (hI : LI_ D g s H x r rt rm o ro ou) (hlo : ∀ q ∈ locs, s.heap.size ≤ q.base) (hl : lv_has ls 7 [(4, .int (nI 0)), (3, .ref ou), (2, .ref o), (1, .ref x), (0, .ref b)]) (hend : LQ_ p l e s m args below meth c b Q)  : W p l e room_1 s m args below meth c H locs 274 206097 Q (F0 m 687 ls []) := by
  obtain ⟨hz, h0, k_x, k_r6, k_r7, f_rt0, x_rt0, f_r1, n_x_r6, n_x_r7, n_r6_r7, f_r2, z_r2, k_o, f_o1, f_o9, z_o9, k_ou, a_ox, a_o6, a_o7, a_ot, a_ou, a_1u, a_ut, b_x, b_6, b_7, b_t, b_o, b_1, b_u⟩ := hI
  obtain ⟨hx, hb, hml, hown, hts, hG, hK⟩ := id EE
  refine lv_aload_n hx hb d_L_law_687 rfl (lv_at hl 3 rfl) ?_
  refine lv_aload_n hx hb d_L_law_688 rfl (lv_at hl 4 rfl) ?_
  refine lv_iload hx hb d_L_law_689 (lv_at hl 0 rfl) ?_
  refine lv_iconst (v := nI 1) hx hb d_L_law_691 (by decide +kernel) ?_
  refine lv_iadd hx hb d_L_law_692 ?_
  refine sx_ti (y := nI (1)) (nI_add _ _) ?_
  refine lw_ld hx hb hX hbl h0 (by decide) d_L_law_693 ?_
  have hF : ∀ q, (fun _ => False) q → s.heap.size ≤ q := by
    intro q h
    exact h.elim
  refine px_gW (E' := (fun _ => False)) (F := fun q => s.heap.size ≤ q) (V := cnt_ (xs 1)) (P := fun H => True) (mc := 0) (ms := 0) (cells' := 274) (slots' := 206097) (sx_runV (As := [.int (xs 1)]) (rest := []) EE k_x rfl rfl (c_K_count k_x k_r6 k_r7 f_rt0 x_rt0 f_r1 f_r2 n_x_r6 n_x_r7 n_r6_r7 z_r2) w_L_104 rfl ⟨rfl, rfl⟩ ⟨Nat.le_of_ble_eq_true rfl, Nat.le_of_ble_eq_true rfl⟩ ⟨Nat.le_of_ble_eq_true rfl, Nat.le_of_ble_eq_true rfl⟩ hl.1 rfl (Nat.le_of_ble_eq_true rfl) d_L_law_694) hF hlo rfl rfl (fun H1 locs hJ hP hlo => ?_)
  have h0 : ∀ q : Nat, q < s.heap.size → H1[q]? = s.heap[q]? := fun q hq => (hJ.2.1 q (Nat.lt_of_lt_of_le hq hz) (fun h => h.elim)).trans (h0 q hq)
  have hz := Nat.le_trans hz hJ.1
  have k_o := hJ.ob id k_o
  have f_o1 := hJ.2.2.1 _ _ _ f_o1
  have f_o9 := hJ.2.2.1 _ _ _ f_o9
  have z_o9 := z_o9.kept (hJ.2.1 _ z_o9.lt id)
  refine lv_aload_n hx hb d_L_law_697 rfl (lv_at hl 2 rfl) ?_
  refine lv_aload_n hx hb d_L_law_698 rfl (lv_at hl 4 rfl) ?_
  refine lv_iload hx hb d_L_law_699 (lv_at hl 0 rfl) ?_
  refine lv_iconst (v := nI 1) hx hb d_L_law_701 (by decide +kernel) ?_
  refine lv_iadd hx hb d_L_law_702 ?_
  refine sx_ti (y := nI (1)) (nI_add _ _) ?_
  refine lw_ld hx hb hX hbl h0 (by decide) d_L_law_703 ?_
  have hF : ∀ q, (fun z => z = o) q → s.heap.size ≤ q := by
    intro q h
    rw [show q = o from h]
    exact b_o
  refine px_gW (E' := (fun z => z = o)) (F := fun q => s.heap.size ≤ q) (V := cnt_ (xs 1)) (P := fun H => va_P D classes [(o, .inr (0, mo_fs ro (fun _ => 0)))] H) (mc := 0) (ms := 0) (cells' := 274) (slots' := 206097) (sx_runV (As := [.int (xs 1)]) (rest := [.int (cnt_ (xs 1))]) EE k_o rfl rfl (c_M_count k_o f_o9 z_o9) w_L_107 rfl ⟨rfl, rfl⟩ ⟨Nat.le_of_ble_eq_true rfl, Nat.le_of_ble_eq_true rfl⟩ ⟨Nat.le_of_ble_eq_true rfl, Nat.le_of_ble_eq_true rfl⟩ hl.1 rfl (Nat.le_of_ble_eq_true rfl) d_L_law_704) hF hlo rfl rfl (fun H2 locs hJ hP hlo => ?_)
  have h0 : ∀ q : Nat, q < s.heap.size → H2[q]? = s.heap[q]? := fun q hq => (hJ.2.1 q (Nat.lt_of_lt_of_le hq hz) (fun h => Nat.not_le.mpr hq (hF q h))).trans (h0 q hq)
  have hz := Nat.le_trans hz hJ.1
  have k_o := hP
  refine lv_icmp_eq (tgt := 712) hx hb d_L_law_707 (by decide) (fun _ => ?_) (fun q => absurd rfl q)
  exact hend _ _ _ _ _ h0 hlo (Nat.le_of_ble_eq_true rfl) (Nat.le_of_ble_eq_true rfl) (lv_sub hl [0, 4] rfl)
