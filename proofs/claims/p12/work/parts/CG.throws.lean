set_option maxHeartbeats 4000000 in
set_option maxRecDepth 100000 in
theorem t_K_requireTape {l : Launch} {D : va_G} {g : ClassId → FieldType → Prop} {H0 : Heap} {x kA re ve ta ma kc rl : Nat} {kq : Nat → Nat → Nat} {sg za : Int32} {bt tl : Nat} {n : Nat} (htr : l.stackTraces = false) (hX : va_P D classes [(x, .inr (1, [.ref kA, .ref re, .ref ve, .ref (kq 1 99), .ref (kq 2 99), .ref (kq 7 99), .ref ta, .ref ma, .int (nI (kc)), .int (nI (rl)), .int sg, .int za]))] H0) (hT : va_P D classes [(ta, .inr (9, [.ref bt, .int (nI (tl))]))] H0) (hne : tl ≠ n) (h1 : tl ≤ 65536) (h2 : n ≤ 65536) : MetT l y_K_requireTape (.code y_K_requireTape b_K_requireTape 2 none :: G_) { frames := 6, cells := 1, slots := 6, locals := 82 } (tx_Pc [.ref x, .int (nI (n))] H0 D g) (tx_T X_A) 1 6 (fun _ => False) := by
  refine tx_m (own := R_K) (by decide) rfl (Nat.le_of_ble_eq_true rfl) ?_
  intro p e s m args below meth c ls EE hKx hno hlk hh hl
  subst hh
  obtain ⟨hx, hb, hml, hown, hts, hG, hK⟩ := id EE
  have hS : sx_S g (fun _ => False) (fun _ => False) s.heap s.heap [] := sx_S.rf
  have hl : lv_has ls 2 [(0, .ref x), (1, .int (nI (n)))] := hl
  refine lv_aload_n hx hb d_K_requireTape_0 rfl (lv_at hl 0 rfl) ?_
  refine sx_get (v := .ref ta) EE hX rfl i_K 6 (by decide) rfl fl_K_54 rfl d_K_requireTape_1 ?_
  refine sx_getN (v := .int (nI (tl))) EE hT rfl i_Ro 1 (by decide) rfl fn_K_76 rfl d_K_requireTape_4 ?_
  refine lv_iload_n hx hb d_K_requireTape_7 rfl (lv_at hl 1 rfl) ?_
  refine lv_icmp_eq (tgt := 21) hx hb d_K_requireTape_8 (by decide) (fun q => absurd q (fun z => hne ((nI_eq (by omega) (by omega)).mp z))) (fun _ => ?_)
  exact tx_row (X := X_A) (tx := "the tape has another length") (inew := 80) (itx := 171) (ic := 84) (ix := 7) (rx := tx_b7) EE hKx htr hno hlk (fun w h => List.mem_append_left _ h) tn_80 (by decide +kernel) (by decide +kernel) (by decide +kernel) (by decide +kernel) (by decide +kernel) (by decide +kernel) d_K_requireTape_11 d_K_requireTape_14 d_K_requireTape_15 d_K_requireTape_17 d_K_requireTape_20 hl.1 ⟨(Nat.le_of_ble_eq_true rfl), (Nat.le_of_ble_eq_true rfl), (Nat.le_of_ble_eq_true rfl), (Nat.le_of_ble_eq_true rfl)⟩
set_option maxHeartbeats 4000000 in
set_option maxRecDepth 100000 in
theorem t_K_existingKey {l : Launch} {D : va_G} {g : ClassId → FieldType → Prop} {H0 : Heap} {x kA re ve ta ma kc rl : Nat} {kq : Nat → Nat → Nat} {sg za : Int32} {v0 : Int32} (htr : l.stackTraces = false) (hX : va_P D classes [(x, .inr (1, [.ref kA, .ref re, .ref ve, .ref (kq 1 99), .ref (kq 2 99), .ref (kq 7 99), .ref ta, .ref ma, .int (nI (kc)), .int (nI (rl)), .int sg, .int za]))] H0) (hw : ¬ v0 < 0 → ¬ v0 < nI kc) : MetT l y_K_existingKey (.code y_K_existingKey b_K_existingKey 2 (some (.object "CurveKeys$Key")) :: G_) { frames := 6, cells := 1, slots := 6, locals := 82 } (tx_Pc [.ref x, .int v0] H0 D g) (tx_T X_N) 1 6 (fun _ => False) := by
  refine tx_m (own := R_K) (by decide) rfl (Nat.le_of_ble_eq_true rfl) ?_
  intro p e s m args below meth c ls EE hKx hno hlk hh hl
  subst hh
  obtain ⟨hx, hb, hml, hown, hts, hG, hK⟩ := id EE
  have hS : sx_S g (fun _ => False) (fun _ => False) s.heap s.heap [] := sx_S.rf
  have hl : lv_has ls 2 [(0, .ref x), (1, .int v0)] := hl
  refine lv_iload_n hx hb d_K_existingKey_0 rfl (lv_at hl 1 rfl) ?_
  refine lv_if_lt (tgt := 12) hx hb d_K_existingKey_1 (by decide) (fun q1 => ?_) (fun q1 => ?_)
  · skip
    exact tx_row (X := X_N) (tx := "no such key") (inew := 166) (itx := 168) (ic := 170) (ix := 13) (rx := tx_b13) EE hKx htr hno hlk (fun w h => List.mem_append_right _ (List.mem_append_right _ (List.mem_append_left _ h))) tn_166 (by decide +kernel) (by decide +kernel) (by decide +kernel) (by decide +kernel) (by decide +kernel) (by decide +kernel) d_K_existingKey_12 d_K_existingKey_15 d_K_existingKey_16 d_K_existingKey_18 d_K_existingKey_21 hl.1 ⟨(Nat.le_of_ble_eq_true rfl), (Nat.le_of_ble_eq_true rfl), (Nat.le_of_ble_eq_true rfl), (Nat.le_of_ble_eq_true rfl)⟩
  · skip
    refine lv_iload_n hx hb d_K_existingKey_4 rfl (lv_at hl 1 rfl) ?_
    refine lv_aload_n hx hb d_K_existingKey_5 rfl (lv_at hl 0 rfl) ?_
    refine sx_get (v := .int (nI (kc))) EE hX rfl i_K 8 (by decide) rfl fl_K_88 rfl d_K_existingKey_6 ?_
    refine lv_icmp_lt (tgt := 22) hx hb d_K_existingKey_9 (by decide) (fun q => absurd q (hw q1)) (fun _ => ?_)
    exact tx_row (X := X_N) (tx := "no such key") (inew := 166) (itx := 168) (ic := 170) (ix := 13) (rx := tx_b13) EE hKx htr hno hlk (fun w h => List.mem_append_right _ (List.mem_append_right _ (List.mem_append_left _ h))) tn_166 (by decide +kernel) (by decide +kernel) (by decide +kernel) (by decide +kernel) (by decide +kernel) (by decide +kernel) d_K_existingKey_12 d_K_existingKey_15 d_K_existingKey_16 d_K_existingKey_18 d_K_existingKey_21 hl.1 ⟨(Nat.le_of_ble_eq_true rfl), (Nat.le_of_ble_eq_true rfl), (Nat.le_of_ble_eq_true rfl), (Nat.le_of_ble_eq_true rfl)⟩
set_option maxHeartbeats 4000000 in
set_option maxRecDepth 100000 in
theorem t_K_end {l : Launch} {D : va_G} {g : ClassId → FieldType → Prop} {H0 : Heap} {x kA re ve ta ma kc rl : Nat} {kq : Nat → Nat → Nat} {sg za : Int32} {bt tl : Nat} {v0 : Int32} (htr : l.stackTraces = false) (hX : va_P D classes [(x, .inr (1, [.ref kA, .ref re, .ref ve, .ref (kq 1 99), .ref (kq 2 99), .ref (kq 7 99), .ref ta, .ref ma, .int (nI (kc)), .int (nI (rl)), .int sg, .int za]))] H0) (hT : va_P D classes [(ta, .inr (9, [.ref bt, .int (nI (tl))]))] H0) (hw : ¬ v0 < 0 → ¬ v0 ≤ nI tl) : MetT l y_K_end (.code y_K_end b_K_end 2 (some .int) :: G_) { frames := 6, cells := 1, slots := 6, locals := 82 } (tx_Pc [.ref x, .int v0] H0 D g) (tx_T X_A) 1 6 (fun _ => False) := by
  refine tx_m (own := R_K) (by decide) rfl (Nat.le_of_ble_eq_true rfl) ?_
  intro p e s m args below meth c ls EE hKx hno hlk hh hl
  subst hh
  obtain ⟨hx, hb, hml, hown, hts, hG, hK⟩ := id EE
  have hS : sx_S g (fun _ => False) (fun _ => False) s.heap s.heap [] := sx_S.rf
  have hl : lv_has ls 2 [(0, .ref x), (1, .int v0)] := hl
  refine lv_iload_n hx hb d_K_end_0 rfl (lv_at hl 1 rfl) ?_
  refine lv_if_lt (tgt := 15) hx hb d_K_end_1 (by decide) (fun q1 => ?_) (fun q1 => ?_)
  · skip
    exact tx_row (X := X_A) (tx := "the tape has not so many bytes") (inew := 80) (itx := 82) (ic := 84) (ix := 7) (rx := tx_b7) EE hKx htr hno hlk (fun w h => List.mem_append_left _ h) tn_80 (by decide +kernel) (by decide +kernel) (by decide +kernel) (by decide +kernel) (by decide +kernel) (by decide +kernel) d_K_end_15 d_K_end_18 d_K_end_19 d_K_end_21 d_K_end_24 hl.1 ⟨(Nat.le_of_ble_eq_true rfl), (Nat.le_of_ble_eq_true rfl), (Nat.le_of_ble_eq_true rfl), (Nat.le_of_ble_eq_true rfl)⟩
  · skip
    refine lv_iload_n hx hb d_K_end_4 rfl (lv_at hl 1 rfl) ?_
    refine lv_aload_n hx hb d_K_end_5 rfl (lv_at hl 0 rfl) ?_
    refine sx_get (v := .ref ta) EE hX rfl i_K 6 (by decide) rfl fl_K_54 rfl d_K_end_6 ?_
    refine sx_getN (v := .int (nI (tl))) EE hT rfl i_Ro 1 (by decide) rfl fn_K_76 rfl d_K_end_9 ?_
    refine lv_icmp_le (tgt := 25) hx hb d_K_end_12 (by decide) (fun q => absurd q (hw q1)) (fun _ => ?_)
    exact tx_row (X := X_A) (tx := "the tape has not so many bytes") (inew := 80) (itx := 82) (ic := 84) (ix := 7) (rx := tx_b7) EE hKx htr hno hlk (fun w h => List.mem_append_left _ h) tn_80 (by decide +kernel) (by decide +kernel) (by decide +kernel) (by decide +kernel) (by decide +kernel) (by decide +kernel) d_K_end_15 d_K_end_18 d_K_end_19 d_K_end_21 d_K_end_24 hl.1 ⟨(Nat.le_of_ble_eq_true rfl), (Nat.le_of_ble_eq_true rfl), (Nat.le_of_ble_eq_true rfl), (Nat.le_of_ble_eq_true rfl)⟩
set_option maxHeartbeats 4000000 in
set_option maxRecDepth 100000 in
theorem t_K_feed {l : Launch} {D : va_G} {g : ClassId → FieldType → Prop} {H0 : Heap} {x kA re ve ta ma kc rl : Nat} {kq : Nat → Nat → Nat} {sg za : Int32} {bt tl : Nat} {v0 v1 v2 v3 v4 : Int32} (htr : l.stackTraces = false) (hX : va_P D classes [(x, .inr (1, [.ref kA, .ref re, .ref ve, .ref (kq 1 99), .ref (kq 2 99), .ref (kq 7 99), .ref ta, .ref ma, .int (nI (kc)), .int (nI (rl)), .int sg, .int za]))] H0) (hT : va_P D classes [(ta, .inr (9, [.ref bt, .int (nI (tl))]))] H0) (hw : 65536 < tl + 20) (h1 : tl ≤ 65536) : MetT l y_K_feed (.code y_K_feed b_K_feed 6 (some .int) :: G_) { frames := 6, cells := 1, slots := 6, locals := 82 } (tx_Pc [.ref x, .int v0, .int v1, .int v2, .int v3, .int v4] H0 D g) (tx_T X_S) 1 6 (fun _ => False) := by
  refine tx_m (own := R_K) (by decide) rfl (Nat.le_of_ble_eq_true rfl) ?_
  intro p e s m args below meth c ls EE hKx hno hlk hh hl
  subst hh
  obtain ⟨hx, hb, hml, hown, hts, hG, hK⟩ := id EE
  have hS : sx_S g (fun _ => False) (fun _ => False) s.heap s.heap [] := sx_S.rf
  have hl : lv_has ls 6 [(0, .ref x), (1, .int v0), (2, .int v1), (3, .int v2), (4, .int v3), (5, .int v4)] := hl
  refine lv_aload_n hx hb d_K_feed_0 rfl (lv_at hl 0 rfl) ?_
  refine sx_get (v := .ref ta) EE hX rfl i_K 6 (by decide) rfl fl_K_54 rfl d_K_feed_1 ?_
  refine lv_bipush (v := nI 20) hx hb d_K_feed_4 (by decide +kernel) ?_
  refine px_gi (E' := (fun _ => False)) (V := nI (if tl + 20 ≤ 65536 then 1 else 0)) (P := fun H1 => s.heap = H1) (sx_runV (As := [.int (nI (20))]) (rest := []) EE hT rfl rfl (v_Ro_hasRoomForE hT (by omega) (by omega)) w_K_61 rfl ⟨rfl, rfl⟩ ⟨Nat.le_of_ble_eq_true rfl, Nat.le_of_ble_eq_true rfl⟩ ⟨Nat.zero_le _, Nat.zero_le _⟩ hl.1 rfl (Nat.le_of_ble_eq_true rfl) d_K_feed_6) (fun _ h => h.elim) hS (fun H1 locs hJ_ hP hS => ?_)
  obtain rfl := hP
  refine sx_ti (y := nI 0) (by rw [if_neg (by omega)]) ?_
  have hl0 : locs = [] := List.eq_nil_iff_forall_not_mem.mpr (fun q hq => (hS.2.2 q hq).elim)
  subst hl0
  refine lv_if_ne (tgt := 22) hx hb d_K_feed_9 (by decide) (fun q9_0 => absurd (show 0 = 0 by decide) (by have q9_0 : ¬ (0 = 0) := fun z => q9_0 ((nI_eq (a := 0) (b := 0) (by omega) (by omega)).mpr z); exact q9_0)) (fun _ => ?_)
  exact tx_row (X := X_S) (tx := "the tape has no room for 20 bytes") (inew := 65) (itx := 67) (ic := 69) (ix := 7) (rx := tx_b7) EE hKx htr hno hlk (fun w h => List.mem_append_right _ (List.mem_append_right _ (List.mem_append_right _ h))) tn_65 (by decide +kernel) (by decide +kernel) (by decide +kernel) (by decide +kernel) (by decide +kernel) (by decide +kernel) d_K_feed_12 d_K_feed_15 d_K_feed_16 d_K_feed_18 d_K_feed_21 hl.1 ⟨(Nat.le_of_ble_eq_true rfl), (Nat.le_of_ble_eq_true rfl), (Nat.le_of_ble_eq_true rfl), (Nat.le_of_ble_eq_true rfl)⟩
set_option maxHeartbeats 4000000 in
set_option maxRecDepth 100000 in
theorem t_K_key_a {l : Launch} {D : va_G} {g : ClassId → FieldType → Prop} {H0 : Heap} {x kA re ve ta ma kc rl : Nat} {kq : Nat → Nat → Nat} {sg za : Int32} {bt tl : Nat} (htr : l.stackTraces = false) (hX : va_P D classes [(x, .inr (1, [.ref kA, .ref re, .ref ve, .ref (kq 1 99), .ref (kq 2 99), .ref (kq 7 99), .ref ta, .ref ma, .int (nI (kc)), .int (nI (rl)), .int sg, .int za]))] H0) (hT : va_P D classes [(ta, .inr (9, [.ref bt, .int (nI (tl))]))] H0) (hne : tl ≠ 32) (h1 : tl ≤ 65536) : MetT l y_K_key (.code y_K_key b_K_key 2 (some .int) :: G_) { frames := 7, cells := 1, slots := 6, locals := 103 } (tx_Pc [.ref x] H0 D g) (tx_T X_A) 1 6 (fun _ => False) := by
  refine tx_m (own := R_K) (by decide) rfl (Nat.le_of_ble_eq_true rfl) ?_
  intro p e s m args below meth c ls EE hKx hno hlk hh hl
  subst hh
  obtain ⟨hx, hb, hml, hown, hts, hG, hK⟩ := id EE
  have hS : sx_S g (fun _ => False) (fun _ => False) s.heap s.heap [] := sx_S.rf
  have hl : lv_has ls 2 [(0, .ref x)] := hl
  refine lv_aload_n hx hb d_K_key_0 rfl (lv_at hl 0 rfl) ?_
  refine lv_bipush (v := nI 32) hx hb d_K_key_1 (by decide +kernel) ?_
  exact tx_prop (tx_runV (As := [.int (nI (32))]) (rest := []) EE hKx (fun _ _ => rfl) hX rfl rfl (t_K_requireTape htr hX hT hne h1 (by decide)) w_K_85 rfl ⟨rfl, rfl⟩ ⟨Nat.le_of_ble_eq_true rfl, Nat.le_of_ble_eq_true rfl⟩ ⟨Nat.le_of_ble_eq_true rfl, Nat.le_of_ble_eq_true rfl⟩ hl.1 rfl (Nat.le_of_ble_eq_true rfl) d_K_key_3) hno hlk rfl rfl
set_option maxHeartbeats 4000000 in
set_option maxRecDepth 100000 in
theorem t_K_key_s {l : Launch} {D : va_G} {g : ClassId → FieldType → Prop} {H0 : Heap} {x kA re ve ta ma kc rl : Nat} {kq : Nat → Nat → Nat} {sg za : Int32} {bt : Nat} (htr : l.stackTraces = false) (hX : va_P D classes [(x, .inr (1, [.ref kA, .ref re, .ref ve, .ref (kq 1 99), .ref (kq 2 99), .ref (kq 7 99), .ref ta, .ref ma, .int (nI (kc)), .int (nI (rl)), .int sg, .int za]))] H0) (hT : va_P D classes [(ta, .inr (9, [.ref bt, .int (nI (32))]))] H0) (hw : 100 ≤ kc) (hkc : kc ≤ 100) : MetT l y_K_key (.code y_K_key b_K_key 2 (some .int) :: G_) { frames := 6, cells := 1, slots := 6, locals := 82 } (tx_Pc [.ref x] H0 D g) (tx_T X_S) 1 6 (fun _ => False) := by
  refine tx_m (own := R_K) (by decide) rfl (Nat.le_of_ble_eq_true rfl) ?_
  intro p e s m args below meth c ls EE hKx hno hlk hh hl
  subst hh
  obtain ⟨hx, hb, hml, hown, hts, hG, hK⟩ := id EE
  have hS : sx_S g (fun _ => False) (fun _ => False) s.heap s.heap [] := sx_S.rf
  have hl : lv_has ls 2 [(0, .ref x)] := hl
  refine lv_aload_n hx hb d_K_key_0 rfl (lv_at hl 0 rfl) ?_
  refine lv_bipush (v := nI 32) hx hb d_K_key_1 (by decide +kernel) ?_
  refine px_gv (E' := (fun _ => False)) (P := fun H1 => s.heap = H1) (sx_runV (As := [.int (nI (32))]) (rest := []) EE hX rfl rfl (v_K_requireTapeE hX hT) w_K_85 rfl ⟨rfl, rfl⟩ ⟨Nat.le_of_ble_eq_true rfl, Nat.le_of_ble_eq_true rfl⟩ ⟨Nat.zero_le _, Nat.zero_le _⟩ hl.1 rfl (Nat.le_of_ble_eq_true rfl) d_K_key_3) (fun _ h => h.elim) hS (fun H1 locs hJ_ hP hS => ?_)
  obtain rfl := hP
  have hl0 : locs = [] := List.eq_nil_iff_forall_not_mem.mpr (fun q hq => (hS.2.2 q hq).elim)
  subst hl0
  refine lv_aload_n hx hb d_K_key_6 rfl (lv_at hl 0 rfl) ?_
  refine sx_get (v := .int (nI (kc))) EE hX rfl i_K 8 (by decide) rfl fl_K_88 rfl d_K_key_7 ?_
  refine lv_bipush (v := nI 100) hx hb d_K_key_10 (by decide +kernel) ?_
  refine lv_icmp_lt (tgt := 25) hx hb d_K_key_12 (by decide) (fun q12_0 => absurd (show kc < 100 by have q12_0 : kc < 100 := (nI_ltI (a := kc) (b := 100) (by omega) (by omega)).mp q12_0; exact q12_0) (by omega)) (fun _ => ?_)
  exact tx_row (X := X_S) (tx := "there are 100 keys") (inew := 65) (itx := 91) (ic := 69) (ix := 7) (rx := tx_b7) EE hKx htr hno hlk (fun w h => List.mem_append_right _ (List.mem_append_right _ (List.mem_append_right _ h))) tn_65 (by decide +kernel) (by decide +kernel) (by decide +kernel) (by decide +kernel) (by decide +kernel) (by decide +kernel) d_K_key_15 d_K_key_18 d_K_key_19 d_K_key_21 d_K_key_24 hl.1 ⟨(Nat.le_of_ble_eq_true rfl), (Nat.le_of_ble_eq_true rfl), (Nat.le_of_ble_eq_true rfl), (Nat.le_of_ble_eq_true rfl)⟩
set_option maxHeartbeats 4000000 in
set_option maxRecDepth 100000 in
theorem t_K_open_n {l : Launch} {D : va_G} {g : ClassId → FieldType → Prop} {H0 : Heap} {x kA re ve ta ma kc rl : Nat} {kq : Nat → Nat → Nat} {sg za : Int32} {v0 v1 : Int32} (htr : l.stackTraces = false) (hX : va_P D classes [(x, .inr (1, [.ref kA, .ref re, .ref ve, .ref (kq 1 99), .ref (kq 2 99), .ref (kq 7 99), .ref ta, .ref ma, .int (nI (kc)), .int (nI (rl)), .int sg, .int za]))] H0) (hw : ¬ v0 < 0 → ¬ v0 < nI kc) : MetT l y_K_open (.code y_K_open b_K_open 4 none :: G_) { frames := 7, cells := 1, slots := 6, locals := 103 } (tx_Pc [.ref x, .int v0, .int v1] H0 D g) (tx_T X_N) 1 6 (fun _ => False) := by
  refine tx_m (own := R_K) (by decide) rfl (Nat.le_of_ble_eq_true rfl) ?_
  intro p e s m args below meth c ls EE hKx hno hlk hh hl
  subst hh
  obtain ⟨hx, hb, hml, hown, hts, hG, hK⟩ := id EE
  have hS : sx_S g (fun _ => False) (fun _ => False) s.heap s.heap [] := sx_S.rf
  have hl : lv_has ls 4 [(0, .ref x), (1, .int v0), (2, .int v1)] := hl
  refine lv_aload_n hx hb d_K_open_0 rfl (lv_at hl 0 rfl) ?_
  refine lv_iload_n hx hb d_K_open_1 rfl (lv_at hl 1 rfl) ?_
  exact tx_prop (tx_runV (As := [.int v0]) (rest := []) EE hKx (fun _ _ => rfl) hX rfl rfl (t_K_existingKey htr hX hw) w_K_106 rfl ⟨rfl, rfl⟩ ⟨Nat.le_of_ble_eq_true rfl, Nat.le_of_ble_eq_true rfl⟩ ⟨Nat.le_of_ble_eq_true rfl, Nat.le_of_ble_eq_true rfl⟩ hl.1 rfl (Nat.le_of_ble_eq_true rfl) d_K_open_2) hno hlk rfl rfl
set_option maxHeartbeats 4000000 in
set_option maxRecDepth 100000 in
theorem t_K_open_a {l : Launch} {D : va_G} {g : ClassId → FieldType → Prop} {H0 : Heap} {x kA re ve ta ma kc rl : Nat} {kq : Nat → Nat → Nat} {sg za : Int32} {fk : Nat → Value} {k ko : Nat} {v1 : Int32} (htr : l.stackTraces = false) (hX : va_P D classes [(x, .inr (1, [.ref kA, .ref re, .ref ve, .ref (kq 1 99), .ref (kq 2 99), .ref (kq 7 99), .ref ta, .ref ma, .int (nI (kc)), .int (nI (rl)), .int sg, .int za]))] H0) (hA : ka_ D H0 kA fk) (hf : fk k = .ref ko) (hk : k < kc) (hkc : kc ≤ 100) (hw : ¬ v1 = 0) (hw2 : ¬ v1 = nI 1) : MetT l y_K_open (.code y_K_open b_K_open 4 none :: G_) { frames := 6, cells := 1, slots := 6, locals := 82 } (tx_Pc [.ref x, .int (nI (k)), .int v1] H0 D g) (tx_T X_A) 1 6 (fun _ => False) := by
  refine tx_m (own := R_K) (by decide) rfl (Nat.le_of_ble_eq_true rfl) ?_
  intro p e s m args below meth c ls EE hKx hno hlk hh hl
  subst hh
  obtain ⟨hx, hb, hml, hown, hts, hG, hK⟩ := id EE
  have hS : sx_S g (fun _ => False) (fun _ => False) s.heap s.heap [] := sx_S.rf
  have hl : lv_has ls 4 [(0, .ref x), (1, .int (nI (k))), (2, .int v1)] := hl
  refine lv_aload_n hx hb d_K_open_0 rfl (lv_at hl 0 rfl) ?_
  refine lv_iload_n hx hb d_K_open_1 rfl (lv_at hl 1 rfl) ?_
  refine px_grA (cells' := 0) (slots' := 0) (E' := (fun _ => False)) (P := fun r_ H1 => ko = r_ ∧ s.heap = H1) (sx_runVA (As := [.int (nI k)]) (rest := []) EE hX rfl rfl (v_K_existingKey hX hA hf hk hkc) w_K_106 rfl ⟨rfl, rfl⟩ ⟨Nat.le_of_ble_eq_true rfl, Nat.le_of_ble_eq_true rfl⟩ ⟨Nat.le_of_ble_eq_true rfl, Nat.le_of_ble_eq_true rfl⟩ hl.1 rfl (Nat.le_of_ble_eq_true rfl) d_K_open_2) (fun _ h => h.elim) hS rfl rfl (fun H1 locs r_ hJ_ hP hS => ?_)
  obtain ⟨rfl, rfl⟩ := hP
  have hl0 : locs = [] := List.eq_nil_iff_forall_not_mem.mpr (fun q hq => (hS.2.2 q hq).elim)
  subst hl0
  refine lv_astore_n (lv' := [(3, .ref ko), (0, .ref x), (1, .int (nI (k))), (2, .int v1)]) hx hb d_K_open_5 rfl hl (by decide) rfl (fun ls hl => ?_)
  refine lv_iload_n hx hb d_K_open_6 rfl (lv_at hl 3 rfl) ?_
  refine lv_if_eq (tgt := 25) hx hb d_K_open_7 (by decide) (fun q => absurd q hw) (fun _ => ?_)
  refine lv_iload_n hx hb d_K_open_10 rfl (lv_at hl 3 rfl) ?_
  refine lv_iconst (v := nI 1) hx hb d_K_open_11 (by decide +kernel) ?_
  refine lv_icmp_eq (tgt := 25) hx hb d_K_open_12 (by decide) (fun q => absurd q hw2) (fun _ => ?_)
  exact tx_row (X := X_A) (tx := "no such shape") (inew := 80) (itx := 110) (ic := 84) (ix := 7) (rx := tx_b7) EE hKx htr hno hlk (fun w h => List.mem_append_left _ h) tn_80 (by decide +kernel) (by decide +kernel) (by decide +kernel) (by decide +kernel) (by decide +kernel) (by decide +kernel) d_K_open_15 d_K_open_18 d_K_open_19 d_K_open_21 d_K_open_24 hl.1 ⟨(Nat.le_of_ble_eq_true rfl), (Nat.le_of_ble_eq_true rfl), (Nat.le_of_ble_eq_true rfl), (Nat.le_of_ble_eq_true rfl)⟩
set_option maxHeartbeats 4000000 in
set_option maxRecDepth 100000 in
theorem t_K_agree_n {l : Launch} {D : va_G} {g : ClassId → FieldType → Prop} {H0 : Heap} {x kA re ve ta ma kc rl : Nat} {kq : Nat → Nat → Nat} {sg za : Int32} {v0 : Int32} (htr : l.stackTraces = false) (hX : va_P D classes [(x, .inr (1, [.ref kA, .ref re, .ref ve, .ref (kq 1 99), .ref (kq 2 99), .ref (kq 7 99), .ref ta, .ref ma, .int (nI (kc)), .int (nI (rl)), .int sg, .int za]))] H0) (hw : ¬ v0 < 0 → ¬ v0 < nI kc) : MetT l y_K_agree (.code y_K_agree b_K_agree 4 (some .boolean) :: G_) { frames := 7, cells := 1, slots := 6, locals := 103 } (tx_Pc [.ref x, .int v0] H0 D g) (tx_T X_N) 1 6 (fun _ => False) := by
  refine tx_m (own := R_K) (by decide) rfl (Nat.le_of_ble_eq_true rfl) ?_
  intro p e s m args below meth c ls EE hKx hno hlk hh hl
  subst hh
  obtain ⟨hx, hb, hml, hown, hts, hG, hK⟩ := id EE
  have hS : sx_S g (fun _ => False) (fun _ => False) s.heap s.heap [] := sx_S.rf
  have hl : lv_has ls 4 [(0, .ref x), (1, .int v0)] := hl
  refine lv_aload_n hx hb d_K_agree_0 rfl (lv_at hl 0 rfl) ?_
  refine lv_iload_n hx hb d_K_agree_1 rfl (lv_at hl 1 rfl) ?_
  exact tx_prop (tx_runV (As := [.int v0]) (rest := []) EE hKx (fun _ _ => rfl) hX rfl rfl (t_K_existingKey htr hX hw) w_K_106 rfl ⟨rfl, rfl⟩ ⟨Nat.le_of_ble_eq_true rfl, Nat.le_of_ble_eq_true rfl⟩ ⟨Nat.le_of_ble_eq_true rfl, Nat.le_of_ble_eq_true rfl⟩ hl.1 rfl (Nat.le_of_ble_eq_true rfl) d_K_agree_2) hno hlk rfl rfl
set_option maxHeartbeats 4000000 in
set_option maxRecDepth 100000 in
theorem t_K_agree_a {l : Launch} {D : va_G} {g : ClassId → FieldType → Prop} {H0 : Heap} {x kA re ve ta ma kc rl : Nat} {kq : Nat → Nat → Nat} {sg za : Int32} {bt tl : Nat} {fk : Nat → Value} {k ko : Nat} (htr : l.stackTraces = false) (hX : va_P D classes [(x, .inr (1, [.ref kA, .ref re, .ref ve, .ref (kq 1 99), .ref (kq 2 99), .ref (kq 7 99), .ref ta, .ref ma, .int (nI (kc)), .int (nI (rl)), .int sg, .int za]))] H0) (hT : va_P D classes [(ta, .inr (9, [.ref bt, .int (nI (tl))]))] H0) (hA : ka_ D H0 kA fk) (hf : fk k = .ref ko) (hk : k < kc) (hkc : kc ≤ 100) (hne : tl ≠ 32) (h1 : tl ≤ 65536) : MetT l y_K_agree (.code y_K_agree b_K_agree 4 (some .boolean) :: G_) { frames := 7, cells := 1, slots := 6, locals := 103 } (tx_Pc [.ref x, .int (nI (k))] H0 D g) (tx_T X_A) 1 6 (fun _ => False) := by
  refine tx_m (own := R_K) (by decide) rfl (Nat.le_of_ble_eq_true rfl) ?_
  intro p e s m args below meth c ls EE hKx hno hlk hh hl
  subst hh
  obtain ⟨hx, hb, hml, hown, hts, hG, hK⟩ := id EE
  have hS : sx_S g (fun _ => False) (fun _ => False) s.heap s.heap [] := sx_S.rf
  have hl : lv_has ls 4 [(0, .ref x), (1, .int (nI (k)))] := hl
  refine lv_aload_n hx hb d_K_agree_0 rfl (lv_at hl 0 rfl) ?_
  refine lv_iload_n hx hb d_K_agree_1 rfl (lv_at hl 1 rfl) ?_
  refine px_grA (cells' := 0) (slots' := 0) (E' := (fun _ => False)) (P := fun r_ H1 => ko = r_ ∧ s.heap = H1) (sx_runVA (As := [.int (nI k)]) (rest := []) EE hX rfl rfl (v_K_existingKey hX hA hf hk hkc) w_K_106 rfl ⟨rfl, rfl⟩ ⟨Nat.le_of_ble_eq_true rfl, Nat.le_of_ble_eq_true rfl⟩ ⟨Nat.le_of_ble_eq_true rfl, Nat.le_of_ble_eq_true rfl⟩ hl.1 rfl (Nat.le_of_ble_eq_true rfl) d_K_agree_2) (fun _ h => h.elim) hS rfl rfl (fun H1 locs r_ hJ_ hP hS => ?_)
  obtain ⟨rfl, rfl⟩ := hP
  have hl0 : locs = [] := List.eq_nil_iff_forall_not_mem.mpr (fun q hq => (hS.2.2 q hq).elim)
  subst hl0
  refine lv_astore_n (lv' := [(2, .ref ko), (0, .ref x), (1, .int (nI (k)))]) hx hb d_K_agree_5 rfl hl (by decide) rfl (fun ls hl => ?_)
  refine lv_aload_n hx hb d_K_agree_6 rfl (lv_at hl 1 rfl) ?_
  refine lv_bipush (v := nI 32) hx hb d_K_agree_7 (by decide +kernel) ?_
  exact tx_prop (tx_runV (As := [.int (nI (32))]) (rest := []) EE hKx (fun _ _ => rfl) hX rfl rfl (t_K_requireTape htr hX hT hne h1 (by decide)) w_K_85 rfl ⟨rfl, rfl⟩ ⟨Nat.le_of_ble_eq_true rfl, Nat.le_of_ble_eq_true rfl⟩ ⟨Nat.le_of_ble_eq_true rfl, Nat.le_of_ble_eq_true rfl⟩ hl.1 rfl (Nat.le_of_ble_eq_true rfl) d_K_agree_9) hno hlk rfl rfl
set_option maxHeartbeats 4000000 in
set_option maxRecDepth 100000 in
theorem t_K_sign_n {l : Launch} {D : va_G} {g : ClassId → FieldType → Prop} {H0 : Heap} {x kA re ve ta ma kc rl : Nat} {kq : Nat → Nat → Nat} {sg za : Int32} {v0 : Int32} (htr : l.stackTraces = false) (hX : va_P D classes [(x, .inr (1, [.ref kA, .ref re, .ref ve, .ref (kq 1 99), .ref (kq 2 99), .ref (kq 7 99), .ref ta, .ref ma, .int (nI (kc)), .int (nI (rl)), .int sg, .int za]))] H0) (hw : ¬ v0 < 0 → ¬ v0 < nI kc) : MetT l y_K_sign (.code y_K_sign b_K_sign 3 none :: G_) { frames := 7, cells := 1, slots := 6, locals := 103 } (tx_Pc [.ref x, .int v0] H0 D g) (tx_T X_N) 1 6 (fun _ => False) := by
  refine tx_m (own := R_K) (by decide) rfl (Nat.le_of_ble_eq_true rfl) ?_
  intro p e s m args below meth c ls EE hKx hno hlk hh hl
  subst hh
  obtain ⟨hx, hb, hml, hown, hts, hG, hK⟩ := id EE
  have hS : sx_S g (fun _ => False) (fun _ => False) s.heap s.heap [] := sx_S.rf
  have hl : lv_has ls 3 [(0, .ref x), (1, .int v0)] := hl
  refine lv_aload_n hx hb d_K_sign_0 rfl (lv_at hl 0 rfl) ?_
  refine lv_iload_n hx hb d_K_sign_1 rfl (lv_at hl 1 rfl) ?_
  exact tx_prop (tx_runV (As := [.int v0]) (rest := []) EE hKx (fun _ _ => rfl) hX rfl rfl (t_K_existingKey htr hX hw) w_K_106 rfl ⟨rfl, rfl⟩ ⟨Nat.le_of_ble_eq_true rfl, Nat.le_of_ble_eq_true rfl⟩ ⟨Nat.le_of_ble_eq_true rfl, Nat.le_of_ble_eq_true rfl⟩ hl.1 rfl (Nat.le_of_ble_eq_true rfl) d_K_sign_2) hno hlk rfl rfl
set_option maxHeartbeats 4000000 in
set_option maxRecDepth 100000 in
theorem t_K_verify_a {l : Launch} {D : va_G} {g : ClassId → FieldType → Prop} {H0 : Heap} {x kA re ve ta ma kc rl : Nat} {kq : Nat → Nat → Nat} {sg za : Int32} {bt tl : Nat} (htr : l.stackTraces = false) (hX : va_P D classes [(x, .inr (1, [.ref kA, .ref re, .ref ve, .ref (kq 1 99), .ref (kq 2 99), .ref (kq 7 99), .ref ta, .ref ma, .int (nI (kc)), .int (nI (rl)), .int sg, .int za]))] H0) (hT : va_P D classes [(ta, .inr (9, [.ref bt, .int (nI (tl))]))] H0) (hne : tl ≠ 96) (h1 : tl ≤ 65536) : MetT l y_K_verify (.code y_K_verify b_K_verify 2 (some .int) :: G_) { frames := 7, cells := 1, slots := 6, locals := 103 } (tx_Pc [.ref x] H0 D g) (tx_T X_A) 1 6 (fun _ => False) := by
  refine tx_m (own := R_K) (by decide) rfl (Nat.le_of_ble_eq_true rfl) ?_
  intro p e s m args below meth c ls EE hKx hno hlk hh hl
  subst hh
  obtain ⟨hx, hb, hml, hown, hts, hG, hK⟩ := id EE
  have hS : sx_S g (fun _ => False) (fun _ => False) s.heap s.heap [] := sx_S.rf
  have hl : lv_has ls 2 [(0, .ref x)] := hl
  refine lv_aload_n hx hb d_K_verify_0 rfl (lv_at hl 0 rfl) ?_
  refine lv_bipush (v := nI 96) hx hb d_K_verify_1 (by decide +kernel) ?_
  exact tx_prop (tx_runV (As := [.int (nI (96))]) (rest := []) EE hKx (fun _ _ => rfl) hX rfl rfl (t_K_requireTape htr hX hT hne h1 (by decide)) w_K_85 rfl ⟨rfl, rfl⟩ ⟨Nat.le_of_ble_eq_true rfl, Nat.le_of_ble_eq_true rfl⟩ ⟨Nat.le_of_ble_eq_true rfl, Nat.le_of_ble_eq_true rfl⟩ hl.1 rfl (Nat.le_of_ble_eq_true rfl) d_K_verify_3) hno hlk rfl rfl
set_option maxHeartbeats 4000000 in
set_option maxRecDepth 100000 in
theorem t_K_point_a {l : Launch} {D : va_G} {g : ClassId → FieldType → Prop} {H0 : Heap} {x kA re ve ta ma kc rl : Nat} {kq : Nat → Nat → Nat} {sg za : Int32} {bt tl : Nat} (htr : l.stackTraces = false) (hX : va_P D classes [(x, .inr (1, [.ref kA, .ref re, .ref ve, .ref (kq 1 99), .ref (kq 2 99), .ref (kq 7 99), .ref ta, .ref ma, .int (nI (kc)), .int (nI (rl)), .int sg, .int za]))] H0) (hT : va_P D classes [(ta, .inr (9, [.ref bt, .int (nI (tl))]))] H0) (hne : tl ≠ 32) (h1 : tl ≤ 65536) : MetT l y_K_point (.code y_K_point b_K_point 2 (some .boolean) :: G_) { frames := 7, cells := 1, slots := 6, locals := 103 } (tx_Pc [.ref x] H0 D g) (tx_T X_A) 1 6 (fun _ => False) := by
  refine tx_m (own := R_K) (by decide) rfl (Nat.le_of_ble_eq_true rfl) ?_
  intro p e s m args below meth c ls EE hKx hno hlk hh hl
  subst hh
  obtain ⟨hx, hb, hml, hown, hts, hG, hK⟩ := id EE
  have hS : sx_S g (fun _ => False) (fun _ => False) s.heap s.heap [] := sx_S.rf
  have hl : lv_has ls 2 [(0, .ref x)] := hl
  refine lv_aload_n hx hb d_K_point_0 rfl (lv_at hl 0 rfl) ?_
  refine lv_bipush (v := nI 32) hx hb d_K_point_1 (by decide +kernel) ?_
  exact tx_prop (tx_runV (As := [.int (nI (32))]) (rest := []) EE hKx (fun _ _ => rfl) hX rfl rfl (t_K_requireTape htr hX hT hne h1 (by decide)) w_K_85 rfl ⟨rfl, rfl⟩ ⟨Nat.le_of_ble_eq_true rfl, Nat.le_of_ble_eq_true rfl⟩ ⟨Nat.le_of_ble_eq_true rfl, Nat.le_of_ble_eq_true rfl⟩ hl.1 rfl (Nat.le_of_ble_eq_true rfl) d_K_point_3) hno hlk rfl rfl
set_option maxHeartbeats 4000000 in
set_option maxRecDepth 100000 in
theorem t_K_back_i {l : Launch} {D : va_G} {g : ClassId → FieldType → Prop} {H0 : Heap} {x kA re ve ta ma kc rl : Nat} {kq : Nat → Nat → Nat} {sg za : Int32} {v0 v1 : Int32} (htr : l.stackTraces = false) (hX : va_P D classes [(x, .inr (1, [.ref kA, .ref re, .ref ve, .ref (kq 1 99), .ref (kq 2 99), .ref (kq 7 99), .ref ta, .ref ma, .int (nI (kc)), .int (nI (rl)), .int sg, .int za]))] H0) (hw : ¬ v0 < (-1 : Int32) → ¬ v0 < nI rl) : MetT l y_K_back (.code y_K_back b_K_back 4 (some .int) :: G_) { frames := 6, cells := 1, slots := 6, locals := 82 } (tx_Pc [.ref x, .int v0, .int v1] H0 D g) (tx_T X_I) 1 6 (fun _ => False) := by
  refine tx_m (own := R_K) (by decide) rfl (Nat.le_of_ble_eq_true rfl) ?_
  intro p e s m args below meth c ls EE hKx hno hlk hh hl
  subst hh
  obtain ⟨hx, hb, hml, hown, hts, hG, hK⟩ := id EE
  have hS : sx_S g (fun _ => False) (fun _ => False) s.heap s.heap [] := sx_S.rf
  have hl : lv_has ls 4 [(0, .ref x), (1, .int v0), (2, .int v1)] := hl
  refine lv_iload_n hx hb d_K_back_0 rfl (lv_at hl 1 rfl) ?_
  refine lv_iconst (v := (-1)) hx hb d_K_back_1 (by decide +kernel) ?_
  refine lv_icmp_lt (tgt := 13) hx hb d_K_back_2 (by decide) (fun q1 => ?_) (fun q1 => ?_)
  · skip
    exact tx_row (X := X_I) (tx := "the result has no such byte") (inew := 155) (itx := 157) (ic := 159) (ix := 7) (rx := tx_b7) EE hKx htr hno hlk (fun w h => List.mem_append_right _ (List.mem_append_left _ h)) tn_155 (by decide +kernel) (by decide +kernel) (by decide +kernel) (by decide +kernel) (by decide +kernel) (by decide +kernel) d_K_back_13 d_K_back_16 d_K_back_17 d_K_back_19 d_K_back_22 hl.1 ⟨(Nat.le_of_ble_eq_true rfl), (Nat.le_of_ble_eq_true rfl), (Nat.le_of_ble_eq_true rfl), (Nat.le_of_ble_eq_true rfl)⟩
  · skip
    refine lv_iload_n hx hb d_K_back_5 rfl (lv_at hl 1 rfl) ?_
    refine lv_aload_n hx hb d_K_back_6 rfl (lv_at hl 0 rfl) ?_
    refine sx_get (v := .int (nI (rl))) EE hX rfl i_K 9 (by decide) rfl fl_K_123 rfl d_K_back_7 ?_
    refine lv_icmp_lt (tgt := 23) hx hb d_K_back_10 (by decide) (fun q => absurd q (hw q1)) (fun _ => ?_)
    exact tx_row (X := X_I) (tx := "the result has no such byte") (inew := 155) (itx := 157) (ic := 159) (ix := 7) (rx := tx_b7) EE hKx htr hno hlk (fun w h => List.mem_append_right _ (List.mem_append_left _ h)) tn_155 (by decide +kernel) (by decide +kernel) (by decide +kernel) (by decide +kernel) (by decide +kernel) (by decide +kernel) d_K_back_13 d_K_back_16 d_K_back_17 d_K_back_19 d_K_back_22 hl.1 ⟨(Nat.le_of_ble_eq_true rfl), (Nat.le_of_ble_eq_true rfl), (Nat.le_of_ble_eq_true rfl), (Nat.le_of_ble_eq_true rfl)⟩
set_option maxHeartbeats 4000000 in
set_option maxRecDepth 100000 in
theorem t_K_back_s {l : Launch} {D : va_G} {g : ClassId → FieldType → Prop} {H0 : Heap} {x kA re ve ta ma kc rl : Nat} {kq : Nat → Nat → Nat} {sg za : Int32} {bt tl : Nat} {v0 v1 : Int32} (htr : l.stackTraces = false) (hX : va_P D classes [(x, .inr (1, [.ref kA, .ref re, .ref ve, .ref (kq 1 99), .ref (kq 2 99), .ref (kq 7 99), .ref ta, .ref ma, .int (nI (kc)), .int (nI (rl)), .int sg, .int za]))] H0) (hT : va_P D classes [(ta, .inr (9, [.ref bt, .int (nI (tl))]))] H0) (hw1 : ¬ v0 < (-1 : Int32)) (hw2 : v0 < nI rl) (hw : 65536 < tl + rl) (h1 : tl ≤ 65536) (h2 : rl ≤ 64) : MetT l y_K_back (.code y_K_back b_K_back 4 (some .int) :: G_) { frames := 6, cells := 1, slots := 6, locals := 82 } (tx_Pc [.ref x, .int v0, .int v1] H0 D g) (tx_T X_S) 1 6 (fun _ => False) := by
  refine tx_m (own := R_K) (by decide) rfl (Nat.le_of_ble_eq_true rfl) ?_
  intro p e s m args below meth c ls EE hKx hno hlk hh hl
  subst hh
  obtain ⟨hx, hb, hml, hown, hts, hG, hK⟩ := id EE
  have hS : sx_S g (fun _ => False) (fun _ => False) s.heap s.heap [] := sx_S.rf
  have hl : lv_has ls 4 [(0, .ref x), (1, .int v0), (2, .int v1)] := hl
  refine lv_iload_n hx hb d_K_back_0 rfl (lv_at hl 1 rfl) ?_
  refine lv_iconst (v := (-1)) hx hb d_K_back_1 (by decide +kernel) ?_
  refine lv_icmp_lt (tgt := 13) hx hb d_K_back_2 (by decide) (fun q => absurd q hw1) (fun _ => ?_)
  refine lv_iload_n hx hb d_K_back_5 rfl (lv_at hl 1 rfl) ?_
  refine lv_aload_n hx hb d_K_back_6 rfl (lv_at hl 0 rfl) ?_
  refine sx_get (v := .int (nI (rl))) EE hX rfl i_K 9 (by decide) rfl fl_K_123 rfl d_K_back_7 ?_
  refine lv_icmp_lt (tgt := 23) hx hb d_K_back_10 (by decide) (fun _ => ?_) (fun q => absurd hw2 q)
  refine lv_aload_n hx hb d_K_back_23 rfl (lv_at hl 0 rfl) ?_
  refine sx_get (v := .ref ta) EE hX rfl i_K 6 (by decide) rfl fl_K_54 rfl d_K_back_24 ?_
  refine lv_aload_n hx hb d_K_back_27 rfl (lv_at hl 0 rfl) ?_
  refine sx_get (v := .int (nI (rl))) EE hX rfl i_K 9 (by decide) rfl fl_K_123 rfl d_K_back_28 ?_
  refine px_gi (E' := (fun _ => False)) (V := nI (if tl + rl ≤ 65536 then 1 else 0)) (P := fun H1 => s.heap = H1) (sx_runV (As := [.int (nI (rl))]) (rest := []) EE hT rfl rfl (v_Ro_hasRoomForE hT (by omega) (by omega)) w_K_61 rfl ⟨rfl, rfl⟩ ⟨Nat.le_of_ble_eq_true rfl, Nat.le_of_ble_eq_true rfl⟩ ⟨Nat.zero_le _, Nat.zero_le _⟩ hl.1 rfl (Nat.le_of_ble_eq_true rfl) d_K_back_31) (fun _ h => h.elim) hS (fun H1 locs hJ_ hP hS => ?_)
  obtain rfl := hP
  refine sx_ti (y := nI 0) (by rw [if_neg (by omega)]) ?_
  have hl0 : locs = [] := List.eq_nil_iff_forall_not_mem.mpr (fun q hq => (hS.2.2 q hq).elim)
  subst hl0
  refine lv_if_ne (tgt := 47) hx hb d_K_back_34 (by decide) (fun q34_0 => absurd (show 0 = 0 by decide) (by have q34_0 : ¬ (0 = 0) := fun z => q34_0 ((nI_eq (a := 0) (b := 0) (by omega) (by omega)).mpr z); exact q34_0)) (fun _ => ?_)
  exact tx_row (X := X_S) (tx := "the tape has no room for the result") (inew := 65) (itx := 160) (ic := 69) (ix := 7) (rx := tx_b7) EE hKx htr hno hlk (fun w h => List.mem_append_right _ (List.mem_append_right _ (List.mem_append_right _ h))) tn_65 (by decide +kernel) (by decide +kernel) (by decide +kernel) (by decide +kernel) (by decide +kernel) (by decide +kernel) d_K_back_37 d_K_back_40 d_K_back_41 d_K_back_43 d_K_back_46 hl.1 ⟨(Nat.le_of_ble_eq_true rfl), (Nat.le_of_ble_eq_true rfl), (Nat.le_of_ble_eq_true rfl), (Nat.le_of_ble_eq_true rfl)⟩
set_option maxHeartbeats 4000000 in
set_option maxRecDepth 100000 in
theorem t_K_result {l : Launch} {D : va_G} {g : ClassId → FieldType → Prop} {H0 : Heap} {x kA re ve ta ma kc rl : Nat} {kq : Nat → Nat → Nat} {sg za : Int32} {v0 : Int32} (htr : l.stackTraces = false) (hX : va_P D classes [(x, .inr (1, [.ref kA, .ref re, .ref ve, .ref (kq 1 99), .ref (kq 2 99), .ref (kq 7 99), .ref ta, .ref ma, .int (nI (kc)), .int (nI (rl)), .int sg, .int za]))] H0) (hw : ¬ v0 < 0 → ¬ v0 < nI rl) : MetT l y_K_result (.code y_K_result b_K_result 2 (some .int) :: G_) { frames := 6, cells := 1, slots := 6, locals := 82 } (tx_Pc [.ref x, .int v0] H0 D g) (tx_T X_I) 1 6 (fun _ => False) := by
  refine tx_m (own := R_K) (by decide) rfl (Nat.le_of_ble_eq_true rfl) ?_
  intro p e s m args below meth c ls EE hKx hno hlk hh hl
  subst hh
  obtain ⟨hx, hb, hml, hown, hts, hG, hK⟩ := id EE
  have hS : sx_S g (fun _ => False) (fun _ => False) s.heap s.heap [] := sx_S.rf
  have hl : lv_has ls 2 [(0, .ref x), (1, .int v0)] := hl
  refine lv_iload_n hx hb d_K_result_0 rfl (lv_at hl 1 rfl) ?_
  refine lv_if_lt (tgt := 12) hx hb d_K_result_1 (by decide) (fun q1 => ?_) (fun q1 => ?_)
  · skip
    exact tx_row (X := X_I) (tx := "the result has no such byte") (inew := 155) (itx := 157) (ic := 159) (ix := 7) (rx := tx_b7) EE hKx htr hno hlk (fun w h => List.mem_append_right _ (List.mem_append_left _ h)) tn_155 (by decide +kernel) (by decide +kernel) (by decide +kernel) (by decide +kernel) (by decide +kernel) (by decide +kernel) d_K_result_12 d_K_result_15 d_K_result_16 d_K_result_18 d_K_result_21 hl.1 ⟨(Nat.le_of_ble_eq_true rfl), (Nat.le_of_ble_eq_true rfl), (Nat.le_of_ble_eq_true rfl), (Nat.le_of_ble_eq_true rfl)⟩
  · skip
    refine lv_iload_n hx hb d_K_result_4 rfl (lv_at hl 1 rfl) ?_
    refine lv_aload_n hx hb d_K_result_5 rfl (lv_at hl 0 rfl) ?_
    refine sx_get (v := .int (nI (rl))) EE hX rfl i_K 9 (by decide) rfl fl_K_123 rfl d_K_result_6 ?_
    refine lv_icmp_lt (tgt := 22) hx hb d_K_result_9 (by decide) (fun q => absurd q (hw q1)) (fun _ => ?_)
    exact tx_row (X := X_I) (tx := "the result has no such byte") (inew := 155) (itx := 157) (ic := 159) (ix := 7) (rx := tx_b7) EE hKx htr hno hlk (fun w h => List.mem_append_right _ (List.mem_append_left _ h)) tn_155 (by decide +kernel) (by decide +kernel) (by decide +kernel) (by decide +kernel) (by decide +kernel) (by decide +kernel) d_K_result_12 d_K_result_15 d_K_result_16 d_K_result_18 d_K_result_21 hl.1 ⟨(Nat.le_of_ble_eq_true rfl), (Nat.le_of_ble_eq_true rfl), (Nat.le_of_ble_eq_true rfl), (Nat.le_of_ble_eq_true rfl)⟩
