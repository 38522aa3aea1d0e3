theorem px_row2 {L : List ExceptionTableEntry} {a b h t a2 b2 h2 t2 : Nat} {r : List (Nat × Nat × Nat × Nat)} (e : L.map (fun h => (h.startPc, h.endPc, h.handlerPc, h.catchType)) = (a, b, h, t) :: (a2, b2, h2, t2) :: r) : ∃ (x y : ExceptionTableEntry) (L' : List ExceptionTableEntry), L = x :: y :: L' ∧ (x.startPc = a ∧ x.endPc = b ∧ x.handlerPc = h ∧ x.catchType = t) ∧ y.startPc = a2 ∧ y.endPc = b2 ∧ y.handlerPc = h2 ∧ y.catchType = t2 := by
  cases L with
  | nil => cases e
  | cons x L' =>
    have h1 := (List.cons.inj e).1
    simp only [Prod.mk.injEq] at h1
    obtain ⟨y, L2, e2, w⟩ := px_row (List.cons.inj e).2
    exact ⟨x, y, L2, by rw [e2], h1, w⟩
set_option maxHeartbeats 4000000 in
set_option maxRecDepth 100000 in
theorem h_feed {l : Launch} {D : va_G} {g : ClassId → FieldType → Prop} {H0 : Heap} {x ou : Nat} {fs : List Value} {w0 : Int64} {v0 v1 v2 v3 v4 : Int32}  {P : Heap → Prop} {E : Nat → Prop} {fr lo mc ms : Nat} {V : Int32} (hM : Met l y_K_feed (.code y_K_feed b_K_feed 6 (some .int) :: G_) { frames := fr, cells := mc, slots := ms, locals := lo } (sx_Pc [.ref x, .int v0, .int v1, .int v2, .int v3, .int v4] H0 D g) (px_Q g E H0 (V) P) mc ms E) (hX : va_P D classes [(x, .inr (1, fs))] H0) (k_ou : lo_ g H0 ou w0) (nE : ¬ E ou) : Met l y_L_feed (.codeWith y_L_feed b_L_feed 8 (some .int) hh_L_feed :: G_) { frames := fr + 1, cells := mc, slots := ms, locals := 8 + (6 + 11) + lo } (tx_Pc [.ref x, .int v0, .int v1, .int v2, .int v3, .int v4, .ref ou] H0 D g) (px_Q g (fun z => E z ∨ z = ou) H0 (nI 0) (fun H => lo_ g H ou V.toInt64 ∧ ∃ H1, P H1 ∧ sx_J g E H0 H1 ∧ sx_J g (fun z => z = ou) H1 H)) mc ms (fun z => E z ∨ z = ou) := by
  refine px_mW (own := R_L) (V := (nI 0)) (P := fun H => lo_ g H ou V.toInt64 ∧ ∃ H1, P H1 ∧ sx_J g E H0 H1 ∧ sx_J g (fun z => z = ou) H1 H) (by decide) rfl (Nat.le_of_ble_eq_true rfl) ?_
  intro p e s m args below meth c Q ls EE hKx ht hh hl hret
  subst hh
  obtain ⟨hx, hb, hml, hown, hts, hG, hK⟩ := id EE
  have hS : sx_S g (fun z => E z ∨ z = ou) (fun z => E z ∨ z = ou) s.heap s.heap [] := sx_S.rf
  have hl : lv_has ls 8 [(0, .ref x), (1, .int v0), (2, .int v1), (3, .int v2), (4, .int v3), (5, .int v4), (6, .ref ou)] := hl
  refine lv_aload hx hb d_L_feed_0 (lv_at hl 6 rfl) ?_
  refine lv_iconst (v := nI 0) hx hb d_L_feed_2 (by decide +kernel) ?_
  refine lv_aload_n hx hb d_L_feed_3 rfl (lv_at hl 0 rfl) ?_
  refine lv_iload_n hx hb d_L_feed_4 rfl (lv_at hl 1 rfl) ?_
  refine lv_iload_n hx hb d_L_feed_5 rfl (lv_at hl 2 rfl) ?_
  refine lv_iload_n hx hb d_L_feed_6 rfl (lv_at hl 3 rfl) ?_
  refine lv_iload hx hb d_L_feed_7 (lv_at hl 4 rfl) ?_
  refine lv_iload hx hb d_L_feed_9 (lv_at hl 5 rfl) ?_
  refine px_giA (cells' := mc) (slots' := ms) (E' := E) (sx_runVA (As := [.int v0, .int v1, .int v2, .int v3, .int v4]) (rest := [.int (nI 0), .ref ou]) EE hX rfl rfl hM w_L_7 rfl ⟨rfl, rfl⟩ ⟨Nat.le_refl _, Nat.le_refl _⟩ ⟨by show 0 + mc ≤ mc; omega, by show 0 + ms ≤ ms; omega⟩ hl.1 rfl (Nat.le_of_ble_eq_true rfl) d_L_feed_11) (fun z h => Or.inl h) hS (Nat.zero_add _) (Nat.zero_add _) (fun H locs hJ hP hS => ?_)
  have l_ou := k_ou.j hJ nE
  refine lv_i2l (v := V.toInt64) hx hb d_L_feed_14 rfl ?_
  refine px_out (E := fun z => z = ou) (F := (fun z => E z ∨ z = ou)) (H0 := H) hx hb hG ⟨sx_J.rf, fun z h => Or.inr h, hS.2.2⟩ l_ou rfl d_L_feed_15 (fun H2 locs l_ou hs hS2 => ?_)
  refine lv_goto (tgt := 23) hx hb d_L_feed_16 (by decide) ?_
  refine lv_iconst (v := nI 0) hx hb d_L_feed_23 (by decide +kernel) ?_
  exact hret _ _ _ _ ⟨l_ou, H, hP, hJ, hS2.1⟩ ((hJ.mono (fun z h => Or.inl h)).tr (hS2.1.mono (fun z h => Or.inr h))) hS2.2.2 d_L_feed_24
set_option maxHeartbeats 4000000 in
set_option maxRecDepth 100000 in
theorem hx_feed_1 {l : Launch} {D : va_G} {g : ClassId → FieldType → Prop} {H0 : Heap} {x ou : Nat} {fs : List Value} {w0 : Int64} {v0 v1 v2 v3 v4 : Int32}  {fr lo : Nat} (hM : MetT l y_K_feed (.code y_K_feed b_K_feed 6 (some .int) :: G_) { frames := fr, cells := 1, slots := 6, locals := lo } (tx_Pc [.ref x, .int v0, .int v1, .int v2, .int v3, .int v4] H0 D g) (tx_T X_S) 1 6 (fun _ => False)) (hX : va_P D classes [(x, .inr (1, fs))] H0) : Met l y_L_feed (.codeWith y_L_feed b_L_feed 8 (some .int) hh_L_feed :: G_) { frames := fr + 1, cells := 1, slots := 6, locals := 8 + (6 + 11) + lo } (tx_Pc [.ref x, .int v0, .int v1, .int v2, .int v3, .int v4, .ref ou] H0 D g) (px_Q g (fun _ => False) H0 (nI 1) (fun H => True)) 1 6 (fun _ => False) := by
  refine px_mW (own := R_L) (V := (nI 1)) (P := fun H => True) (by decide) rfl (Nat.le_of_ble_eq_true rfl) ?_
  intro p e s m args below meth c Q ls EE hKx ht hh hl hret
  subst hh
  obtain ⟨hx, hb, hml, hown, hts, hG, hK⟩ := id EE
  have hS : sx_S g (fun _ => False) (fun _ => False) s.heap s.heap [] := sx_S.rf
  have hl : lv_has ls 8 [(0, .ref x), (1, .int v0), (2, .int v1), (3, .int v2), (4, .int v3), (5, .int v4), (6, .ref ou)] := hl
  refine lv_aload hx hb d_L_feed_0 (lv_at hl 6 rfl) ?_
  refine lv_iconst (v := nI 0) hx hb d_L_feed_2 (by decide +kernel) ?_
  refine lv_aload_n hx hb d_L_feed_3 rfl (lv_at hl 0 rfl) ?_
  refine lv_iload_n hx hb d_L_feed_4 rfl (lv_at hl 1 rfl) ?_
  refine lv_iload_n hx hb d_L_feed_5 rfl (lv_at hl 2 rfl) ?_
  refine lv_iload_n hx hb d_L_feed_6 rfl (lv_at hl 3 rfl) ?_
  refine lv_iload hx hb d_L_feed_7 (lv_at hl 4 rfl) ?_
  refine lv_iload hx hb d_L_feed_9 (lv_at hl 5 rfl) ?_
  obtain ⟨x0, L0, ht1, e1, e2, e3, e4⟩ := px_row ht
  refine tx_catch (X := X_S) (ix := 13) (hpc := 19) (cells' := 1) (slots' := 6) (tx_runV (As := [.int v0, .int v1, .int v2, .int v3, .int v4]) (rest := [.int (nI 0), .ref ou]) EE hKx (fun _ _ => rfl) hX rfl rfl hM w_L_7 rfl ⟨rfl, rfl⟩ ⟨Nat.le_refl _, Nat.le_refl _⟩ ⟨Nat.le_of_ble_eq_true rfl, Nat.le_of_ble_eq_true rfl⟩ hl.1 rfl (Nat.le_of_ble_eq_true rfl) d_L_feed_11) hown (hts (.classLink R_L 13 X_S) (by decide +kernel)) ht1 (by simp only [covers, e1, e2]; decide) e4 e3 (by decide) rfl rfl (fun q H1 hsz hk => ?_)
  refine lv_astore (lv' := [(7, .ref q), (0, .ref x), (1, .int v0), (2, .int v1), (3, .int v2), (4, .int v3), (5, .int v4), (6, .ref ou)]) hx hb d_L_feed_19 hl (by decide) rfl (fun ls hl => ?_)
  refine lv_iconst (v := nI 1) hx hb d_L_feed_21 (by decide +kernel) ?_
  exact hret _ _ _ _ trivial (sx_J.grow hsz hk) (fun q h => by cases h) d_L_feed_22
set_option maxHeartbeats 4000000 in
set_option maxRecDepth 100000 in
theorem h_end {l : Launch} {D : va_G} {g : ClassId → FieldType → Prop} {H0 : Heap} {x ou : Nat} {fs : List Value} {w0 : Int64} {v0 : Int32}  {P : Heap → Prop} {E : Nat → Prop} {fr lo mc ms : Nat} {V : Int32} (hM : Met l y_K_end (.code y_K_end b_K_end 2 (some .int) :: G_) { frames := fr, cells := mc, slots := ms, locals := lo } (sx_Pc [.ref x, .int v0] H0 D g) (px_Q g E H0 (V) P) mc ms E) (hX : va_P D classes [(x, .inr (1, fs))] H0) (k_ou : lo_ g H0 ou w0) (nE : ¬ E ou) : Met l y_L_end (.codeWith y_L_end b_L_end 4 (some .int) hh_L_end :: G_) { frames := fr + 1, cells := mc, slots := ms, locals := 8 + (2 + 11) + lo } (tx_Pc [.ref x, .int v0, .ref ou] H0 D g) (px_Q g (fun z => E z ∨ z = ou) H0 (nI 0) (fun H => lo_ g H ou V.toInt64 ∧ ∃ H1, P H1 ∧ sx_J g E H0 H1 ∧ sx_J g (fun z => z = ou) H1 H)) mc ms (fun z => E z ∨ z = ou) := by
  refine px_mW (own := R_L) (V := (nI 0)) (P := fun H => lo_ g H ou V.toInt64 ∧ ∃ H1, P H1 ∧ sx_J g E H0 H1 ∧ sx_J g (fun z => z = ou) H1 H) (by decide) rfl (Nat.le_of_ble_eq_true rfl) ?_
  intro p e s m args below meth c Q ls EE hKx ht hh hl hret
  subst hh
  obtain ⟨hx, hb, hml, hown, hts, hG, hK⟩ := id EE
  have hS : sx_S g (fun z => E z ∨ z = ou) (fun z => E z ∨ z = ou) s.heap s.heap [] := sx_S.rf
  have hl : lv_has ls 4 [(0, .ref x), (1, .int v0), (2, .ref ou)] := hl
  refine lv_aload_n hx hb d_L_end_0 rfl (lv_at hl 2 rfl) ?_
  refine lv_iconst (v := nI 0) hx hb d_L_end_1 (by decide +kernel) ?_
  refine lv_aload_n hx hb d_L_end_2 rfl (lv_at hl 0 rfl) ?_
  refine lv_iload_n hx hb d_L_end_3 rfl (lv_at hl 1 rfl) ?_
  refine px_giA (cells' := mc) (slots' := ms) (E' := E) (sx_runVA (As := [.int v0]) (rest := [.int (nI 0), .ref ou]) EE hX rfl rfl hM w_L_15 rfl ⟨rfl, rfl⟩ ⟨Nat.le_refl _, Nat.le_refl _⟩ ⟨by show 0 + mc ≤ mc; omega, by show 0 + ms ≤ ms; omega⟩ hl.1 rfl (Nat.le_of_ble_eq_true rfl) d_L_end_4) (fun z h => Or.inl h) hS (Nat.zero_add _) (Nat.zero_add _) (fun H locs hJ hP hS => ?_)
  have l_ou := k_ou.j hJ nE
  refine lv_i2l (v := V.toInt64) hx hb d_L_end_7 rfl ?_
  refine px_out (E := fun z => z = ou) (F := (fun z => E z ∨ z = ou)) (H0 := H) hx hb hG ⟨sx_J.rf, fun z h => Or.inr h, hS.2.2⟩ l_ou rfl d_L_end_8 (fun H2 locs l_ou hs hS2 => ?_)
  refine lv_goto (tgt := 15) hx hb d_L_end_9 (by decide) ?_
  refine lv_iconst (v := nI 0) hx hb d_L_end_15 (by decide +kernel) ?_
  exact hret _ _ _ _ ⟨l_ou, H, hP, hJ, hS2.1⟩ ((hJ.mono (fun z h => Or.inl h)).tr (hS2.1.mono (fun z h => Or.inr h))) hS2.2.2 d_L_end_16
set_option maxHeartbeats 4000000 in
set_option maxRecDepth 100000 in
theorem hx_end_1 {l : Launch} {D : va_G} {g : ClassId → FieldType → Prop} {H0 : Heap} {x ou : Nat} {fs : List Value} {w0 : Int64} {v0 : Int32}  {fr lo : Nat} (hM : MetT l y_K_end (.code y_K_end b_K_end 2 (some .int) :: G_) { frames := fr, cells := 1, slots := 6, locals := lo } (tx_Pc [.ref x, .int v0] H0 D g) (tx_T X_A) 1 6 (fun _ => False)) (hX : va_P D classes [(x, .inr (1, fs))] H0) : Met l y_L_end (.codeWith y_L_end b_L_end 4 (some .int) hh_L_end :: G_) { frames := fr + 1, cells := 1, slots := 6, locals := 8 + (2 + 11) + lo } (tx_Pc [.ref x, .int v0, .ref ou] H0 D g) (px_Q g (fun _ => False) H0 (nI 1) (fun H => True)) 1 6 (fun _ => False) := by
  refine px_mW (own := R_L) (V := (nI 1)) (P := fun H => True) (by decide) rfl (Nat.le_of_ble_eq_true rfl) ?_
  intro p e s m args below meth c Q ls EE hKx ht hh hl hret
  subst hh
  obtain ⟨hx, hb, hml, hown, hts, hG, hK⟩ := id EE
  have hS : sx_S g (fun _ => False) (fun _ => False) s.heap s.heap [] := sx_S.rf
  have hl : lv_has ls 4 [(0, .ref x), (1, .int v0), (2, .ref ou)] := hl
  refine lv_aload_n hx hb d_L_end_0 rfl (lv_at hl 2 rfl) ?_
  refine lv_iconst (v := nI 0) hx hb d_L_end_1 (by decide +kernel) ?_
  refine lv_aload_n hx hb d_L_end_2 rfl (lv_at hl 0 rfl) ?_
  refine lv_iload_n hx hb d_L_end_3 rfl (lv_at hl 1 rfl) ?_
  obtain ⟨x0, L0, ht1, e1, e2, e3, e4⟩ := px_row ht
  refine tx_catch (X := X_A) (ix := 19) (hpc := 12) (cells' := 1) (slots' := 6) (tx_runV (As := [.int v0]) (rest := [.int (nI 0), .ref ou]) EE hKx (fun _ _ => rfl) hX rfl rfl hM w_L_15 rfl ⟨rfl, rfl⟩ ⟨Nat.le_refl _, Nat.le_refl _⟩ ⟨Nat.le_of_ble_eq_true rfl, Nat.le_of_ble_eq_true rfl⟩ hl.1 rfl (Nat.le_of_ble_eq_true rfl) d_L_end_4) hown (hts (.classLink R_L 19 X_A) (by decide +kernel)) ht1 (by simp only [covers, e1, e2]; decide) e4 e3 (by decide) rfl rfl (fun q H1 hsz hk => ?_)
  refine lv_astore_n (lv' := [(3, .ref q), (0, .ref x), (1, .int v0), (2, .ref ou)]) hx hb d_L_end_12 rfl hl (by decide) rfl (fun ls hl => ?_)
  refine lv_iconst (v := nI 1) hx hb d_L_end_13 (by decide +kernel) ?_
  exact hret _ _ _ _ trivial (sx_J.grow hsz hk) (fun q h => by cases h) d_L_end_14
set_option maxHeartbeats 4000000 in
set_option maxRecDepth 100000 in
theorem h_key {l : Launch} {D : va_G} {g : ClassId → FieldType → Prop} {H0 : Heap} {x ou : Nat} {fs : List Value} {w0 : Int64}  {P : Heap → Prop} {E : Nat → Prop} {fr lo mc ms : Nat} {V : Int32} (hM : Met l y_K_key (.code y_K_key b_K_key 2 (some .int) :: G_) { frames := fr, cells := mc, slots := ms, locals := lo } (sx_Pc [.ref x] H0 D g) (px_Q g E H0 (V) P) mc ms E) (hX : va_P D classes [(x, .inr (1, fs))] H0) (k_ou : lo_ g H0 ou w0) (nE : ¬ E ou) : Met l y_L_key (.codeWith y_L_key b_L_key 3 (some .int) hh_L_key :: G_) { frames := fr + 1, cells := mc, slots := ms, locals := 8 + (2 + 11) + lo } (tx_Pc [.ref x, .ref ou] H0 D g) (px_Q g (fun z => E z ∨ z = ou) H0 (nI 0) (fun H => lo_ g H ou V.toInt64 ∧ ∃ H1, P H1 ∧ sx_J g E H0 H1 ∧ sx_J g (fun z => z = ou) H1 H)) mc ms (fun z => E z ∨ z = ou) := by
  refine px_mW (own := R_L) (V := (nI 0)) (P := fun H => lo_ g H ou V.toInt64 ∧ ∃ H1, P H1 ∧ sx_J g E H0 H1 ∧ sx_J g (fun z => z = ou) H1 H) (by decide) rfl (Nat.le_of_ble_eq_true rfl) ?_
  intro p e s m args below meth c Q ls EE hKx ht hh hl hret
  subst hh
  obtain ⟨hx, hb, hml, hown, hts, hG, hK⟩ := id EE
  have hS : sx_S g (fun z => E z ∨ z = ou) (fun z => E z ∨ z = ou) s.heap s.heap [] := sx_S.rf
  have hl : lv_has ls 3 [(0, .ref x), (1, .ref ou)] := hl
  refine lv_aload_n hx hb d_L_key_0 rfl (lv_at hl 1 rfl) ?_
  refine lv_iconst (v := nI 0) hx hb d_L_key_1 (by decide +kernel) ?_
  refine lv_aload_n hx hb d_L_key_2 rfl (lv_at hl 0 rfl) ?_
  refine px_giA (cells' := mc) (slots' := ms) (E' := E) (sx_runVA (As := []) (rest := [.int (nI 0), .ref ou]) EE hX rfl rfl hM w_L_21 rfl ⟨rfl, rfl⟩ ⟨Nat.le_refl _, Nat.le_refl _⟩ ⟨by show 0 + mc ≤ mc; omega, by show 0 + ms ≤ ms; omega⟩ hl.1 rfl (Nat.le_of_ble_eq_true rfl) d_L_key_3) (fun z h => Or.inl h) hS (Nat.zero_add _) (Nat.zero_add _) (fun H locs hJ hP hS => ?_)
  have l_ou := k_ou.j hJ nE
  refine lv_i2l (v := V.toInt64) hx hb d_L_key_6 rfl ?_
  refine px_out (E := fun z => z = ou) (F := (fun z => E z ∨ z = ou)) (H0 := H) hx hb hG ⟨sx_J.rf, fun z h => Or.inr h, hS.2.2⟩ l_ou rfl d_L_key_7 (fun H2 locs l_ou hs hS2 => ?_)
  refine lv_goto (tgt := 17) hx hb d_L_key_8 (by decide) ?_
  refine lv_iconst (v := nI 0) hx hb d_L_key_17 (by decide +kernel) ?_
  exact hret _ _ _ _ ⟨l_ou, H, hP, hJ, hS2.1⟩ ((hJ.mono (fun z h => Or.inl h)).tr (hS2.1.mono (fun z h => Or.inr h))) hS2.2.2 d_L_key_18
set_option maxHeartbeats 4000000 in
set_option maxRecDepth 100000 in
theorem hx_key_1 {l : Launch} {D : va_G} {g : ClassId → FieldType → Prop} {H0 : Heap} {x ou : Nat} {fs : List Value} {w0 : Int64}  {fr lo : Nat} (hM : MetT l y_K_key (.code y_K_key b_K_key 2 (some .int) :: G_) { frames := fr, cells := 1, slots := 6, locals := lo } (tx_Pc [.ref x] H0 D g) (tx_T X_A) 1 6 (fun _ => False)) (hX : va_P D classes [(x, .inr (1, fs))] H0) : Met l y_L_key (.codeWith y_L_key b_L_key 3 (some .int) hh_L_key :: G_) { frames := fr + 1, cells := 1, slots := 6, locals := 8 + (2 + 11) + lo } (tx_Pc [.ref x, .ref ou] H0 D g) (px_Q g (fun _ => False) H0 (nI 1) (fun H => True)) 1 6 (fun _ => False) := by
  refine px_mW (own := R_L) (V := (nI 1)) (P := fun H => True) (by decide) rfl (Nat.le_of_ble_eq_true rfl) ?_
  intro p e s m args below meth c Q ls EE hKx ht hh hl hret
  subst hh
  obtain ⟨hx, hb, hml, hown, hts, hG, hK⟩ := id EE
  have hS : sx_S g (fun _ => False) (fun _ => False) s.heap s.heap [] := sx_S.rf
  have hl : lv_has ls 3 [(0, .ref x), (1, .ref ou)] := hl
  refine lv_aload_n hx hb d_L_key_0 rfl (lv_at hl 1 rfl) ?_
  refine lv_iconst (v := nI 0) hx hb d_L_key_1 (by decide +kernel) ?_
  refine lv_aload_n hx hb d_L_key_2 rfl (lv_at hl 0 rfl) ?_
  obtain ⟨x0, L0, ht1, e1, e2, e3, e4⟩ := px_row ht
  refine tx_catch (X := X_A) (ix := 19) (hpc := 11) (cells' := 1) (slots' := 6) (tx_runV (As := []) (rest := [.int (nI 0), .ref ou]) EE hKx (fun _ _ => rfl) hX rfl rfl hM w_L_21 rfl ⟨rfl, rfl⟩ ⟨Nat.le_refl _, Nat.le_refl _⟩ ⟨Nat.le_of_ble_eq_true rfl, Nat.le_of_ble_eq_true rfl⟩ hl.1 rfl (Nat.le_of_ble_eq_true rfl) d_L_key_3) hown (hts (.classLink R_L 19 X_A) (by decide +kernel)) ht1 (by simp only [covers, e1, e2]; decide) e4 e3 (by decide) rfl rfl (fun q H1 hsz hk => ?_)
  refine lv_astore_n (lv' := [(2, .ref q), (0, .ref x), (1, .ref ou)]) hx hb d_L_key_11 rfl hl (by decide) rfl (fun ls hl => ?_)
  refine lv_iconst (v := nI 1) hx hb d_L_key_12 (by decide +kernel) ?_
  exact hret _ _ _ _ trivial (sx_J.grow hsz hk) (fun q h => by cases h) d_L_key_13
set_option maxHeartbeats 4000000 in
set_option maxRecDepth 100000 in
theorem hx_key_2 {l : Launch} {D : va_G} {g : ClassId → FieldType → Prop} {H0 : Heap} {x ou : Nat} {fs : List Value} {w0 : Int64}  {fr lo : Nat} (hM : MetT l y_K_key (.code y_K_key b_K_key 2 (some .int) :: G_) { frames := fr, cells := 1, slots := 6, locals := lo } (tx_Pc [.ref x] H0 D g) (tx_T X_S) 1 6 (fun _ => False)) (hX : va_P D classes [(x, .inr (1, fs))] H0) : Met l y_L_key (.codeWith y_L_key b_L_key 3 (some .int) hh_L_key :: G_) { frames := fr + 1, cells := 1, slots := 6, locals := 8 + (2 + 11) + lo } (tx_Pc [.ref x, .ref ou] H0 D g) (px_Q g (fun _ => False) H0 (nI 2) (fun H => True)) 1 6 (fun _ => False) := by
  refine px_mW (own := R_L) (V := (nI 2)) (P := fun H => True) (by decide) rfl (Nat.le_of_ble_eq_true rfl) ?_
  intro p e s m args below meth c Q ls EE hKx ht hh hl hret
  subst hh
  obtain ⟨hx, hb, hml, hown, hts, hG, hK⟩ := id EE
  have hS : sx_S g (fun _ => False) (fun _ => False) s.heap s.heap [] := sx_S.rf
  have hl : lv_has ls 3 [(0, .ref x), (1, .ref ou)] := hl
  refine lv_aload_n hx hb d_L_key_0 rfl (lv_at hl 1 rfl) ?_
  refine lv_iconst (v := nI 0) hx hb d_L_key_1 (by decide +kernel) ?_
  refine lv_aload_n hx hb d_L_key_2 rfl (lv_at hl 0 rfl) ?_
  obtain ⟨x0, y0, L0, ht1, ⟨e1, e2, e3, e4⟩, f1, f2, f3, f4⟩ := px_row2 ht
  refine tx_catch2 (X := X_S) (ix := 13) (ix1 := 19) (hpc := 14) (cells' := 1) (slots' := 6) (tx_runV (As := []) (rest := [.int (nI 0), .ref ou]) EE hKx (fun _ _ => rfl) hX rfl rfl hM w_L_21 rfl ⟨rfl, rfl⟩ ⟨Nat.le_refl _, Nat.le_refl _⟩ ⟨Nat.le_of_ble_eq_true rfl, Nat.le_of_ble_eq_true rfl⟩ hl.1 rfl (Nat.le_of_ble_eq_true rfl) d_L_key_3) hKx hown (X1 := X_A) (by decide +kernel) (hts (.classLink R_L 19 X_A) (by decide +kernel)) (hts (.classLink R_L 13 X_S) (by decide +kernel)) ht1 (by simp only [covers, e1, e2]; decide) e4 (by decide) (by simp only [covers, f1, f2]; decide) f4 f3 (by decide) rfl rfl (fun q H1 hsz hk => ?_)
  refine lv_astore_n (lv' := [(2, .ref q), (0, .ref x), (1, .ref ou)]) hx hb d_L_key_14 rfl hl (by decide) rfl (fun ls hl => ?_)
  refine lv_iconst (v := nI 2) hx hb d_L_key_15 (by decide +kernel) ?_
  exact hret _ _ _ _ trivial (sx_J.grow hsz hk) (fun q h => by cases h) d_L_key_16
set_option maxHeartbeats 4000000 in
set_option maxRecDepth 100000 in
theorem h_open {l : Launch} {D : va_G} {g : ClassId → FieldType → Prop} {H0 : Heap} {x : Nat} {fs : List Value} {v0 v1 : Int32}  {P : Heap → Prop} {E : Nat → Prop} {fr lo mc ms : Nat} (hM : Met l y_K_open (.code y_K_open b_K_open 4 none :: G_) { frames := fr, cells := mc, slots := ms, locals := lo } (sx_Pc [.ref x, .int v0, .int v1] H0 D g) (px_Qv g E H0 P) mc ms E) (hX : va_P D classes [(x, .inr (1, fs))] H0) : Met l y_L_open (.codeWith y_L_open b_L_open 4 (some .int) hh_L_open :: G_) { frames := fr + 1, cells := mc, slots := ms, locals := 8 + (4 + 11) + lo } (tx_Pc [.ref x, .int v0, .int v1] H0 D g) (px_Q g E H0 (nI 0) (fun H => P H)) mc ms E := by
  refine px_mW (own := R_L) (V := (nI 0)) (P := fun H => P H) (by decide) rfl (Nat.le_of_ble_eq_true rfl) ?_
  intro p e s m args below meth c Q ls EE hKx ht hh hl hret
  subst hh
  obtain ⟨hx, hb, hml, hown, hts, hG, hK⟩ := id EE
  have hS : sx_S g E E s.heap s.heap [] := sx_S.rf
  have hl : lv_has ls 4 [(0, .ref x), (1, .int v0), (2, .int v1)] := hl
  refine lv_aload_n hx hb d_L_open_0 rfl (lv_at hl 0 rfl) ?_
  refine lv_iload_n hx hb d_L_open_1 rfl (lv_at hl 1 rfl) ?_
  refine lv_iload_n hx hb d_L_open_2 rfl (lv_at hl 2 rfl) ?_
  refine px_gvA (cells' := mc) (slots' := ms) (E' := E) (sx_runVA (As := [.int v0, .int v1]) (rest := []) EE hX rfl rfl hM w_L_25 rfl ⟨rfl, rfl⟩ ⟨Nat.le_refl _, Nat.le_refl _⟩ ⟨by show 0 + mc ≤ mc; omega, by show 0 + ms ≤ ms; omega⟩ hl.1 rfl (Nat.le_of_ble_eq_true rfl) d_L_open_3) (fun z h => h) hS (Nat.zero_add _) (Nat.zero_add _) (fun H locs hJ hP hS => ?_)
  refine lv_goto (tgt := 15) hx hb d_L_open_6 (by decide) ?_
  refine lv_iconst (v := nI 0) hx hb d_L_open_15 (by decide +kernel) ?_
  exact hret _ _ _ _ hP hS.1 hS.2.2 d_L_open_16
set_option maxHeartbeats 4000000 in
set_option maxRecDepth 100000 in
theorem hx_open_1 {l : Launch} {D : va_G} {g : ClassId → FieldType → Prop} {H0 : Heap} {x : Nat} {fs : List Value} {v0 v1 : Int32}  {fr lo : Nat} (hM : MetT l y_K_open (.code y_K_open b_K_open 4 none :: G_) { frames := fr, cells := 1, slots := 6, locals := lo } (tx_Pc [.ref x, .int v0, .int v1] H0 D g) (tx_T X_N) 1 6 (fun _ => False)) (hX : va_P D classes [(x, .inr (1, fs))] H0) : Met l y_L_open (.codeWith y_L_open b_L_open 4 (some .int) hh_L_open :: G_) { frames := fr + 1, cells := 1, slots := 6, locals := 8 + (4 + 11) + lo } (tx_Pc [.ref x, .int v0, .int v1] H0 D g) (px_Q g (fun _ => False) H0 (nI 1) (fun H => True)) 1 6 (fun _ => False) := by
  refine px_mW (own := R_L) (V := (nI 1)) (P := fun H => True) (by decide) rfl (Nat.le_of_ble_eq_true rfl) ?_
  intro p e s m args below meth c Q ls EE hKx ht hh hl hret
  subst hh
  obtain ⟨hx, hb, hml, hown, hts, hG, hK⟩ := id EE
  have hS : sx_S g (fun _ => False) (fun _ => False) s.heap s.heap [] := sx_S.rf
  have hl : lv_has ls 4 [(0, .ref x), (1, .int v0), (2, .int v1)] := hl
  refine lv_aload_n hx hb d_L_open_0 rfl (lv_at hl 0 rfl) ?_
  refine lv_iload_n hx hb d_L_open_1 rfl (lv_at hl 1 rfl) ?_
  refine lv_iload_n hx hb d_L_open_2 rfl (lv_at hl 2 rfl) ?_
  obtain ⟨x0, L0, ht1, e1, e2, e3, e4⟩ := px_row ht
  refine tx_catch (X := X_N) (ix := 29) (hpc := 9) (cells' := 1) (slots' := 6) (tx_runV (As := [.int v0, .int v1]) (rest := []) EE hKx (fun _ _ => rfl) hX rfl rfl hM w_L_25 rfl ⟨rfl, rfl⟩ ⟨Nat.le_refl _, Nat.le_refl _⟩ ⟨Nat.le_of_ble_eq_true rfl, Nat.le_of_ble_eq_true rfl⟩ hl.1 rfl (Nat.le_of_ble_eq_true rfl) d_L_open_3) hown (hts (.classLink R_L 29 X_N) (by decide +kernel)) ht1 (by simp only [covers, e1, e2]; decide) e4 e3 (by decide) rfl rfl (fun q H1 hsz hk => ?_)
  refine lv_astore_n (lv' := [(3, .ref q), (0, .ref x), (1, .int v0), (2, .int v1)]) hx hb d_L_open_9 rfl hl (by decide) rfl (fun ls hl => ?_)
  refine lv_iconst (v := nI 1) hx hb d_L_open_10 (by decide +kernel) ?_
  exact hret _ _ _ _ trivial (sx_J.grow hsz hk) (fun q h => by cases h) d_L_open_11
set_option maxHeartbeats 4000000 in
set_option maxRecDepth 100000 in
theorem hx_open_2 {l : Launch} {D : va_G} {g : ClassId → FieldType → Prop} {H0 : Heap} {x : Nat} {fs : List Value} {v0 v1 : Int32}  {fr lo : Nat} (hM : MetT l y_K_open (.code y_K_open b_K_open 4 none :: G_) { frames := fr, cells := 1, slots := 6, locals := lo } (tx_Pc [.ref x, .int v0, .int v1] H0 D g) (tx_T X_A) 1 6 (fun _ => False)) (hX : va_P D classes [(x, .inr (1, fs))] H0) : Met l y_L_open (.codeWith y_L_open b_L_open 4 (some .int) hh_L_open :: G_) { frames := fr + 1, cells := 1, slots := 6, locals := 8 + (4 + 11) + lo } (tx_Pc [.ref x, .int v0, .int v1] H0 D g) (px_Q g (fun _ => False) H0 (nI 2) (fun H => True)) 1 6 (fun _ => False) := by
  refine px_mW (own := R_L) (V := (nI 2)) (P := fun H => True) (by decide) rfl (Nat.le_of_ble_eq_true rfl) ?_
  intro p e s m args below meth c Q ls EE hKx ht hh hl hret
  subst hh
  obtain ⟨hx, hb, hml, hown, hts, hG, hK⟩ := id EE
  have hS : sx_S g (fun _ => False) (fun _ => False) s.heap s.heap [] := sx_S.rf
  have hl : lv_has ls 4 [(0, .ref x), (1, .int v0), (2, .int v1)] := hl
  refine lv_aload_n hx hb d_L_open_0 rfl (lv_at hl 0 rfl) ?_
  refine lv_iload_n hx hb d_L_open_1 rfl (lv_at hl 1 rfl) ?_
  refine lv_iload_n hx hb d_L_open_2 rfl (lv_at hl 2 rfl) ?_
  obtain ⟨x0, y0, L0, ht1, ⟨e1, e2, e3, e4⟩, f1, f2, f3, f4⟩ := px_row2 ht
  refine tx_catch2 (X := X_A) (ix := 19) (ix1 := 29) (hpc := 12) (cells' := 1) (slots' := 6) (tx_runV (As := [.int v0, .int v1]) (rest := []) EE hKx (fun _ _ => rfl) hX rfl rfl hM w_L_25 rfl ⟨rfl, rfl⟩ ⟨Nat.le_refl _, Nat.le_refl _⟩ ⟨Nat.le_of_ble_eq_true rfl, Nat.le_of_ble_eq_true rfl⟩ hl.1 rfl (Nat.le_of_ble_eq_true rfl) d_L_open_3) hKx hown (X1 := X_N) (by decide +kernel) (hts (.classLink R_L 29 X_N) (by decide +kernel)) (hts (.classLink R_L 19 X_A) (by decide +kernel)) ht1 (by simp only [covers, e1, e2]; decide) e4 (by decide) (by simp only [covers, f1, f2]; decide) f4 f3 (by decide) rfl rfl (fun q H1 hsz hk => ?_)
  refine lv_astore_n (lv' := [(3, .ref q), (0, .ref x), (1, .int v0), (2, .int v1)]) hx hb d_L_open_12 rfl hl (by decide) rfl (fun ls hl => ?_)
  refine lv_iconst (v := nI 2) hx hb d_L_open_13 (by decide +kernel) ?_
  exact hret _ _ _ _ trivial (sx_J.grow hsz hk) (fun q h => by cases h) d_L_open_14
set_option maxHeartbeats 4000000 in
set_option maxRecDepth 100000 in
theorem h_agree_0 {l : Launch} {D : va_G} {g : ClassId → FieldType → Prop} {H0 : Heap} {x ou : Nat} {fs : List Value} {w0 : Int64} {v0 : Int32}  {P : Heap → Prop} {E : Nat → Prop} {fr lo mc ms : Nat} (hM : Met l y_K_agree (.code y_K_agree b_K_agree 4 (some .boolean) :: G_) { frames := fr, cells := mc, slots := ms, locals := lo } (sx_Pc [.ref x, .int v0] H0 D g) (px_Q g E H0 (nI 0) P) mc ms E) (hX : va_P D classes [(x, .inr (1, fs))] H0) (k_ou : lo_ g H0 ou w0) (nE : ¬ E ou) : Met l y_L_agree (.codeWith y_L_agree b_L_agree 4 (some .int) hh_L_agree :: G_) { frames := fr + 1, cells := mc, slots := ms, locals := 8 + (4 + 11) + lo } (tx_Pc [.ref x, .int v0, .ref ou] H0 D g) (px_Q g (fun z => E z ∨ z = ou) H0 (nI 0) (fun H => lo_ g H ou 0 ∧ ∃ H1, P H1 ∧ sx_J g E H0 H1 ∧ sx_J g (fun z => z = ou) H1 H)) mc ms (fun z => E z ∨ z = ou) := by
  refine px_mW (own := R_L) (V := (nI 0)) (P := fun H => lo_ g H ou 0 ∧ ∃ H1, P H1 ∧ sx_J g E H0 H1 ∧ sx_J g (fun z => z = ou) H1 H) (by decide) rfl (Nat.le_of_ble_eq_true rfl) ?_
  intro p e s m args below meth c Q ls EE hKx ht hh hl hret
  subst hh
  obtain ⟨hx, hb, hml, hown, hts, hG, hK⟩ := id EE
  have hS : sx_S g (fun z => E z ∨ z = ou) (fun z => E z ∨ z = ou) s.heap s.heap [] := sx_S.rf
  have hl : lv_has ls 4 [(0, .ref x), (1, .int v0), (2, .ref ou)] := hl
  refine lv_aload_n hx hb d_L_agree_0 rfl (lv_at hl 2 rfl) ?_
  refine lv_iconst (v := nI 0) hx hb d_L_agree_1 (by decide +kernel) ?_
  refine lv_aload_n hx hb d_L_agree_2 rfl (lv_at hl 0 rfl) ?_
  refine lv_iload_n hx hb d_L_agree_3 rfl (lv_at hl 1 rfl) ?_
  refine px_giA (cells' := mc) (slots' := ms) (E' := E) (sx_runVA (As := [.int v0]) (rest := [.int (nI 0), .ref ou]) EE hX rfl rfl hM w_L_31 rfl ⟨rfl, rfl⟩ ⟨Nat.le_refl _, Nat.le_refl _⟩ ⟨by show 0 + mc ≤ mc; omega, by show 0 + ms ≤ ms; omega⟩ hl.1 rfl (Nat.le_of_ble_eq_true rfl) d_L_agree_4) (fun z h => Or.inl h) hS (Nat.zero_add _) (Nat.zero_add _) (fun H locs hJ hP hS => ?_)
  have l_ou := k_ou.j hJ nE
  refine lv_if_eq (tgt := 14) hx hb d_L_agree_7 (by decide) (fun _ => ?_) (fun q => absurd rfl q)
  refine lv_lconst (v := 0) hx hb d_L_agree_14 (by decide +kernel) ?_
  refine px_out (E := fun z => z = ou) (F := (fun z => E z ∨ z = ou)) (H0 := H) hx hb hG ⟨sx_J.rf, fun z h => Or.inr h, hS.2.2⟩ l_ou rfl d_L_agree_15 (fun H2 locs l_ou hs hS2 => ?_)
  refine lv_goto (tgt := 25) hx hb d_L_agree_16 (by decide) ?_
  refine lv_iconst (v := nI 0) hx hb d_L_agree_25 (by decide +kernel) ?_
  exact hret _ _ _ _ ⟨l_ou, H, hP, hJ, hS2.1⟩ ((hJ.mono (fun z h => Or.inl h)).tr (hS2.1.mono (fun z h => Or.inr h))) hS2.2.2 d_L_agree_26
set_option maxHeartbeats 4000000 in
set_option maxRecDepth 100000 in
theorem h_agree_1 {l : Launch} {D : va_G} {g : ClassId → FieldType → Prop} {H0 : Heap} {x ou : Nat} {fs : List Value} {w0 : Int64} {v0 : Int32}  {P : Heap → Prop} {E : Nat → Prop} {fr lo mc ms : Nat} (hM : Met l y_K_agree (.code y_K_agree b_K_agree 4 (some .boolean) :: G_) { frames := fr, cells := mc, slots := ms, locals := lo } (sx_Pc [.ref x, .int v0] H0 D g) (px_Q g E H0 (nI 1) P) mc ms E) (hX : va_P D classes [(x, .inr (1, fs))] H0) (k_ou : lo_ g H0 ou w0) (nE : ¬ E ou) : Met l y_L_agree (.codeWith y_L_agree b_L_agree 4 (some .int) hh_L_agree :: G_) { frames := fr + 1, cells := mc, slots := ms, locals := 8 + (4 + 11) + lo } (tx_Pc [.ref x, .int v0, .ref ou] H0 D g) (px_Q g (fun z => E z ∨ z = ou) H0 (nI 0) (fun H => lo_ g H ou 1 ∧ ∃ H1, P H1 ∧ sx_J g E H0 H1 ∧ sx_J g (fun z => z = ou) H1 H)) mc ms (fun z => E z ∨ z = ou) := by
  refine px_mW (own := R_L) (V := (nI 0)) (P := fun H => lo_ g H ou 1 ∧ ∃ H1, P H1 ∧ sx_J g E H0 H1 ∧ sx_J g (fun z => z = ou) H1 H) (by decide) rfl (Nat.le_of_ble_eq_true rfl) ?_
  intro p e s m args below meth c Q ls EE hKx ht hh hl hret
  subst hh
  obtain ⟨hx, hb, hml, hown, hts, hG, hK⟩ := id EE
  have hS : sx_S g (fun z => E z ∨ z = ou) (fun z => E z ∨ z = ou) s.heap s.heap [] := sx_S.rf
  have hl : lv_has ls 4 [(0, .ref x), (1, .int v0), (2, .ref ou)] := hl
  refine lv_aload_n hx hb d_L_agree_0 rfl (lv_at hl 2 rfl) ?_
  refine lv_iconst (v := nI 0) hx hb d_L_agree_1 (by decide +kernel) ?_
  refine lv_aload_n hx hb d_L_agree_2 rfl (lv_at hl 0 rfl) ?_
  refine lv_iload_n hx hb d_L_agree_3 rfl (lv_at hl 1 rfl) ?_
  refine px_giA (cells' := mc) (slots' := ms) (E' := E) (sx_runVA (As := [.int v0]) (rest := [.int (nI 0), .ref ou]) EE hX rfl rfl hM w_L_31 rfl ⟨rfl, rfl⟩ ⟨Nat.le_refl _, Nat.le_refl _⟩ ⟨by show 0 + mc ≤ mc; omega, by show 0 + ms ≤ ms; omega⟩ hl.1 rfl (Nat.le_of_ble_eq_true rfl) d_L_agree_4) (fun z h => Or.inl h) hS (Nat.zero_add _) (Nat.zero_add _) (fun H locs hJ hP hS => ?_)
  have l_ou := k_ou.j hJ nE
  refine lv_if_eq (tgt := 14) hx hb d_L_agree_7 (by decide) (fun q => absurd q (by decide)) (fun _ => ?_)
  refine lv_lconst (v := 1) hx hb d_L_agree_10 (by decide +kernel) ?_
  refine lv_goto (tgt := 15) hx hb d_L_agree_11 (by decide) ?_
  refine px_out (E := fun z => z = ou) (F := (fun z => E z ∨ z = ou)) (H0 := H) hx hb hG ⟨sx_J.rf, fun z h => Or.inr h, hS.2.2⟩ l_ou rfl d_L_agree_15 (fun H2 locs l_ou hs hS2 => ?_)
  refine lv_goto (tgt := 25) hx hb d_L_agree_16 (by decide) ?_
  refine lv_iconst (v := nI 0) hx hb d_L_agree_25 (by decide +kernel) ?_
  exact hret _ _ _ _ ⟨l_ou, H, hP, hJ, hS2.1⟩ ((hJ.mono (fun z h => Or.inl h)).tr (hS2.1.mono (fun z h => Or.inr h))) hS2.2.2 d_L_agree_26
set_option maxHeartbeats 4000000 in
set_option maxRecDepth 100000 in
theorem hx_agree_1 {l : Launch} {D : va_G} {g : ClassId → FieldType → Prop} {H0 : Heap} {x ou : Nat} {fs : List Value} {w0 : Int64} {v0 : Int32}  {fr lo : Nat} (hM : MetT l y_K_agree (.code y_K_agree b_K_agree 4 (some .boolean) :: G_) { frames := fr, cells := 1, slots := 6, locals := lo } (tx_Pc [.ref x, .int v0] H0 D g) (tx_T X_N) 1 6 (fun _ => False)) (hX : va_P D classes [(x, .inr (1, fs))] H0) : Met l y_L_agree (.codeWith y_L_agree b_L_agree 4 (some .int) hh_L_agree :: G_) { frames := fr + 1, cells := 1, slots := 6, locals := 8 + (4 + 11) + lo } (tx_Pc [.ref x, .int v0, .ref ou] H0 D g) (px_Q g (fun _ => False) H0 (nI 1) (fun H => True)) 1 6 (fun _ => False) := by
  refine px_mW (own := R_L) (V := (nI 1)) (P := fun H => True) (by decide) rfl (Nat.le_of_ble_eq_true rfl) ?_
  intro p e s m args below meth c Q ls EE hKx ht hh hl hret
  subst hh
  obtain ⟨hx, hb, hml, hown, hts, hG, hK⟩ := id EE
  have hS : sx_S g (fun _ => False) (fun _ => False) s.heap s.heap [] := sx_S.rf
  have hl : lv_has ls 4 [(0, .ref x), (1, .int v0), (2, .ref ou)] := hl
  refine lv_aload_n hx hb d_L_agree_0 rfl (lv_at hl 2 rfl) ?_
  refine lv_iconst (v := nI 0) hx hb d_L_agree_1 (by decide +kernel) ?_
  refine lv_aload_n hx hb d_L_agree_2 rfl (lv_at hl 0 rfl) ?_
  refine lv_iload_n hx hb d_L_agree_3 rfl (lv_at hl 1 rfl) ?_
  obtain ⟨x0, L0, ht1, e1, e2, e3, e4⟩ := px_row ht
  refine tx_catch (X := X_N) (ix := 29) (hpc := 19) (cells' := 1) (slots' := 6) (tx_runV (As := [.int v0]) (rest := [.int (nI 0), .ref ou]) EE hKx (fun _ _ => rfl) hX rfl rfl hM w_L_31 rfl ⟨rfl, rfl⟩ ⟨Nat.le_refl _, Nat.le_refl _⟩ ⟨Nat.le_of_ble_eq_true rfl, Nat.le_of_ble_eq_true rfl⟩ hl.1 rfl (Nat.le_of_ble_eq_true rfl) d_L_agree_4) hown (hts (.classLink R_L 29 X_N) (by decide +kernel)) ht1 (by simp only [covers, e1, e2]; decide) e4 e3 (by decide) rfl rfl (fun q H1 hsz hk => ?_)
  refine lv_astore_n (lv' := [(3, .ref q), (0, .ref x), (1, .int v0), (2, .ref ou)]) hx hb d_L_agree_19 rfl hl (by decide) rfl (fun ls hl => ?_)
  refine lv_iconst (v := nI 1) hx hb d_L_agree_20 (by decide +kernel) ?_
  exact hret _ _ _ _ trivial (sx_J.grow hsz hk) (fun q h => by cases h) d_L_agree_21
set_option maxHeartbeats 4000000 in
set_option maxRecDepth 100000 in
theorem hx_agree_2 {l : Launch} {D : va_G} {g : ClassId → FieldType → Prop} {H0 : Heap} {x ou : Nat} {fs : List Value} {w0 : Int64} {v0 : Int32}  {fr lo : Nat} (hM : MetT l y_K_agree (.code y_K_agree b_K_agree 4 (some .boolean) :: G_) { frames := fr, cells := 1, slots := 6, locals := lo } (tx_Pc [.ref x, .int v0] H0 D g) (tx_T X_A) 1 6 (fun _ => False)) (hX : va_P D classes [(x, .inr (1, fs))] H0) : Met l y_L_agree (.codeWith y_L_agree b_L_agree 4 (some .int) hh_L_agree :: G_) { frames := fr + 1, cells := 1, slots := 6, locals := 8 + (4 + 11) + lo } (tx_Pc [.ref x, .int v0, .ref ou] H0 D g) (px_Q g (fun _ => False) H0 (nI 2) (fun H => True)) 1 6 (fun _ => False) := by
  refine px_mW (own := R_L) (V := (nI 2)) (P := fun H => True) (by decide) rfl (Nat.le_of_ble_eq_true rfl) ?_
  intro p e s m args below meth c Q ls EE hKx ht hh hl hret
  subst hh
  obtain ⟨hx, hb, hml, hown, hts, hG, hK⟩ := id EE
  have hS : sx_S g (fun _ => False) (fun _ => False) s.heap s.heap [] := sx_S.rf
  have hl : lv_has ls 4 [(0, .ref x), (1, .int v0), (2, .ref ou)] := hl
  refine lv_aload_n hx hb d_L_agree_0 rfl (lv_at hl 2 rfl) ?_
  refine lv_iconst (v := nI 0) hx hb d_L_agree_1 (by decide +kernel) ?_
  refine lv_aload_n hx hb d_L_agree_2 rfl (lv_at hl 0 rfl) ?_
  refine lv_iload_n hx hb d_L_agree_3 rfl (lv_at hl 1 rfl) ?_
  obtain ⟨x0, y0, L0, ht1, ⟨e1, e2, e3, e4⟩, f1, f2, f3, f4⟩ := px_row2 ht
  refine tx_catch2 (X := X_A) (ix := 19) (ix1 := 29) (hpc := 22) (cells' := 1) (slots' := 6) (tx_runV (As := [.int v0]) (rest := [.int (nI 0), .ref ou]) EE hKx (fun _ _ => rfl) hX rfl rfl hM w_L_31 rfl ⟨rfl, rfl⟩ ⟨Nat.le_refl _, Nat.le_refl _⟩ ⟨Nat.le_of_ble_eq_true rfl, Nat.le_of_ble_eq_true rfl⟩ hl.1 rfl (Nat.le_of_ble_eq_true rfl) d_L_agree_4) hKx hown (X1 := X_N) (by decide +kernel) (hts (.classLink R_L 29 X_N) (by decide +kernel)) (hts (.classLink R_L 19 X_A) (by decide +kernel)) ht1 (by simp only [covers, e1, e2]; decide) e4 (by decide) (by simp only [covers, f1, f2]; decide) f4 f3 (by decide) rfl rfl (fun q H1 hsz hk => ?_)
  refine lv_astore_n (lv' := [(3, .ref q), (0, .ref x), (1, .int v0), (2, .ref ou)]) hx hb d_L_agree_22 rfl hl (by decide) rfl (fun ls hl => ?_)
  refine lv_iconst (v := nI 2) hx hb d_L_agree_23 (by decide +kernel) ?_
  exact hret _ _ _ _ trivial (sx_J.grow hsz hk) (fun q h => by cases h) d_L_agree_24
set_option maxHeartbeats 4000000 in
set_option maxRecDepth 100000 in
theorem h_sign {l : Launch} {D : va_G} {g : ClassId → FieldType → Prop} {H0 : Heap} {x : Nat} {fs : List Value} {v0 : Int32}  {P : Heap → Prop} {E : Nat → Prop} {fr lo mc ms : Nat} (hM : Met l y_K_sign (.code y_K_sign b_K_sign 3 none :: G_) { frames := fr, cells := mc, slots := ms, locals := lo } (sx_Pc [.ref x, .int v0] H0 D g) (px_Qv g E H0 P) mc ms E) (hX : va_P D classes [(x, .inr (1, fs))] H0) : Met l y_L_sign (.codeWith y_L_sign b_L_sign 3 (some .int) hh_L_sign :: G_) { frames := fr + 1, cells := mc, slots := ms, locals := 8 + (3 + 11) + lo } (tx_Pc [.ref x, .int v0] H0 D g) (px_Q g E H0 (nI 0) (fun H => P H)) mc ms E := by
  refine px_mW (own := R_L) (V := (nI 0)) (P := fun H => P H) (by decide) rfl (Nat.le_of_ble_eq_true rfl) ?_
  intro p e s m args below meth c Q ls EE hKx ht hh hl hret
  subst hh
  obtain ⟨hx, hb, hml, hown, hts, hG, hK⟩ := id EE
  have hS : sx_S g E E s.heap s.heap [] := sx_S.rf
  have hl : lv_has ls 3 [(0, .ref x), (1, .int v0)] := hl
  refine lv_aload_n hx hb d_L_sign_0 rfl (lv_at hl 0 rfl) ?_
  refine lv_iload_n hx hb d_L_sign_1 rfl (lv_at hl 1 rfl) ?_
  refine px_gvA (cells' := mc) (slots' := ms) (E' := E) (sx_runVA (As := [.int v0]) (rest := []) EE hX rfl rfl hM w_L_35 rfl ⟨rfl, rfl⟩ ⟨Nat.le_refl _, Nat.le_refl _⟩ ⟨by show 0 + mc ≤ mc; omega, by show 0 + ms ≤ ms; omega⟩ hl.1 rfl (Nat.le_of_ble_eq_true rfl) d_L_sign_2) (fun z h => h) hS (Nat.zero_add _) (Nat.zero_add _) (fun H locs hJ hP hS => ?_)
  refine lv_goto (tgt := 11) hx hb d_L_sign_5 (by decide) ?_
  refine lv_iconst (v := nI 0) hx hb d_L_sign_11 (by decide +kernel) ?_
  exact hret _ _ _ _ hP hS.1 hS.2.2 d_L_sign_12
set_option maxHeartbeats 4000000 in
set_option maxRecDepth 100000 in
theorem hx_sign_1 {l : Launch} {D : va_G} {g : ClassId → FieldType → Prop} {H0 : Heap} {x : Nat} {fs : List Value} {v0 : Int32}  {fr lo : Nat} (hM : MetT l y_K_sign (.code y_K_sign b_K_sign 3 none :: G_) { frames := fr, cells := 1, slots := 6, locals := lo } (tx_Pc [.ref x, .int v0] H0 D g) (tx_T X_N) 1 6 (fun _ => False)) (hX : va_P D classes [(x, .inr (1, fs))] H0) : Met l y_L_sign (.codeWith y_L_sign b_L_sign 3 (some .int) hh_L_sign :: G_) { frames := fr + 1, cells := 1, slots := 6, locals := 8 + (3 + 11) + lo } (tx_Pc [.ref x, .int v0] H0 D g) (px_Q g (fun _ => False) H0 (nI 1) (fun H => True)) 1 6 (fun _ => False) := by
  refine px_mW (own := R_L) (V := (nI 1)) (P := fun H => True) (by decide) rfl (Nat.le_of_ble_eq_true rfl) ?_
  intro p e s m args below meth c Q ls EE hKx ht hh hl hret
  subst hh
  obtain ⟨hx, hb, hml, hown, hts, hG, hK⟩ := id EE
  have hS : sx_S g (fun _ => False) (fun _ => False) s.heap s.heap [] := sx_S.rf
  have hl : lv_has ls 3 [(0, .ref x), (1, .int v0)] := hl
  refine lv_aload_n hx hb d_L_sign_0 rfl (lv_at hl 0 rfl) ?_
  refine lv_iload_n hx hb d_L_sign_1 rfl (lv_at hl 1 rfl) ?_
  obtain ⟨x0, L0, ht1, e1, e2, e3, e4⟩ := px_row ht
  refine tx_catch (X := X_N) (ix := 29) (hpc := 8) (cells' := 1) (slots' := 6) (tx_runV (As := [.int v0]) (rest := []) EE hKx (fun _ _ => rfl) hX rfl rfl hM w_L_35 rfl ⟨rfl, rfl⟩ ⟨Nat.le_refl _, Nat.le_refl _⟩ ⟨Nat.le_of_ble_eq_true rfl, Nat.le_of_ble_eq_true rfl⟩ hl.1 rfl (Nat.le_of_ble_eq_true rfl) d_L_sign_2) hown (hts (.classLink R_L 29 X_N) (by decide +kernel)) ht1 (by simp only [covers, e1, e2]; decide) e4 e3 (by decide) rfl rfl (fun q H1 hsz hk => ?_)
  refine lv_astore_n (lv' := [(2, .ref q), (0, .ref x), (1, .int v0)]) hx hb d_L_sign_8 rfl hl (by decide) rfl (fun ls hl => ?_)
  refine lv_iconst (v := nI 1) hx hb d_L_sign_9 (by decide +kernel) ?_
  exact hret _ _ _ _ trivial (sx_J.grow hsz hk) (fun q h => by cases h) d_L_sign_10
set_option maxHeartbeats 4000000 in
set_option maxRecDepth 100000 in
theorem h_verify {l : Launch} {D : va_G} {g : ClassId → FieldType → Prop} {H0 : Heap} {x ou : Nat} {fs : List Value} {w0 : Int64}  {P : Heap → Prop} {E : Nat → Prop} {fr lo mc ms : Nat} {V : Int32} (hM : Met l y_K_verify (.code y_K_verify b_K_verify 2 (some .int) :: G_) { frames := fr, cells := mc, slots := ms, locals := lo } (sx_Pc [.ref x] H0 D g) (px_Q g E H0 (V) P) mc ms E) (hX : va_P D classes [(x, .inr (1, fs))] H0) (k_ou : lo_ g H0 ou w0) (nE : ¬ E ou) : Met l y_L_verify (.codeWith y_L_verify b_L_verify 3 (some .int) hh_L_verify :: G_) { frames := fr + 1, cells := mc, slots := ms, locals := 8 + (2 + 11) + lo } (tx_Pc [.ref x, .ref ou] H0 D g) (px_Q g (fun z => E z ∨ z = ou) H0 (nI 0) (fun H => lo_ g H ou V.toInt64 ∧ ∃ H1, P H1 ∧ sx_J g E H0 H1 ∧ sx_J g (fun z => z = ou) H1 H)) mc ms (fun z => E z ∨ z = ou) := by
  refine px_mW (own := R_L) (V := (nI 0)) (P := fun H => lo_ g H ou V.toInt64 ∧ ∃ H1, P H1 ∧ sx_J g E H0 H1 ∧ sx_J g (fun z => z = ou) H1 H) (by decide) rfl (Nat.le_of_ble_eq_true rfl) ?_
  intro p e s m args below meth c Q ls EE hKx ht hh hl hret
  subst hh
  obtain ⟨hx, hb, hml, hown, hts, hG, hK⟩ := id EE
  have hS : sx_S g (fun z => E z ∨ z = ou) (fun z => E z ∨ z = ou) s.heap s.heap [] := sx_S.rf
  have hl : lv_has ls 3 [(0, .ref x), (1, .ref ou)] := hl
  refine lv_aload_n hx hb d_L_verify_0 rfl (lv_at hl 1 rfl) ?_
  refine lv_iconst (v := nI 0) hx hb d_L_verify_1 (by decide +kernel) ?_
  refine lv_aload_n hx hb d_L_verify_2 rfl (lv_at hl 0 rfl) ?_
  refine px_giA (cells' := mc) (slots' := ms) (E' := E) (sx_runVA (As := []) (rest := [.int (nI 0), .ref ou]) EE hX rfl rfl hM w_L_39 rfl ⟨rfl, rfl⟩ ⟨Nat.le_refl _, Nat.le_refl _⟩ ⟨by show 0 + mc ≤ mc; omega, by show 0 + ms ≤ ms; omega⟩ hl.1 rfl (Nat.le_of_ble_eq_true rfl) d_L_verify_3) (fun z h => Or.inl h) hS (Nat.zero_add _) (Nat.zero_add _) (fun H locs hJ hP hS => ?_)
  have l_ou := k_ou.j hJ nE
  refine lv_i2l (v := V.toInt64) hx hb d_L_verify_6 rfl ?_
  refine px_out (E := fun z => z = ou) (F := (fun z => E z ∨ z = ou)) (H0 := H) hx hb hG ⟨sx_J.rf, fun z h => Or.inr h, hS.2.2⟩ l_ou rfl d_L_verify_7 (fun H2 locs l_ou hs hS2 => ?_)
  refine lv_goto (tgt := 14) hx hb d_L_verify_8 (by decide) ?_
  refine lv_iconst (v := nI 0) hx hb d_L_verify_14 (by decide +kernel) ?_
  exact hret _ _ _ _ ⟨l_ou, H, hP, hJ, hS2.1⟩ ((hJ.mono (fun z h => Or.inl h)).tr (hS2.1.mono (fun z h => Or.inr h))) hS2.2.2 d_L_verify_15
set_option maxHeartbeats 4000000 in
set_option maxRecDepth 100000 in
theorem hx_verify_1 {l : Launch} {D : va_G} {g : ClassId → FieldType → Prop} {H0 : Heap} {x ou : Nat} {fs : List Value} {w0 : Int64}  {fr lo : Nat} (hM : MetT l y_K_verify (.code y_K_verify b_K_verify 2 (some .int) :: G_) { frames := fr, cells := 1, slots := 6, locals := lo } (tx_Pc [.ref x] H0 D g) (tx_T X_A) 1 6 (fun _ => False)) (hX : va_P D classes [(x, .inr (1, fs))] H0) : Met l y_L_verify (.codeWith y_L_verify b_L_verify 3 (some .int) hh_L_verify :: G_) { frames := fr + 1, cells := 1, slots := 6, locals := 8 + (2 + 11) + lo } (tx_Pc [.ref x, .ref ou] H0 D g) (px_Q g (fun _ => False) H0 (nI 1) (fun H => True)) 1 6 (fun _ => False) := by
  refine px_mW (own := R_L) (V := (nI 1)) (P := fun H => True) (by decide) rfl (Nat.le_of_ble_eq_true rfl) ?_
  intro p e s m args below meth c Q ls EE hKx ht hh hl hret
  subst hh
  obtain ⟨hx, hb, hml, hown, hts, hG, hK⟩ := id EE
  have hS : sx_S g (fun _ => False) (fun _ => False) s.heap s.heap [] := sx_S.rf
  have hl : lv_has ls 3 [(0, .ref x), (1, .ref ou)] := hl
  refine lv_aload_n hx hb d_L_verify_0 rfl (lv_at hl 1 rfl) ?_
  refine lv_iconst (v := nI 0) hx hb d_L_verify_1 (by decide +kernel) ?_
  refine lv_aload_n hx hb d_L_verify_2 rfl (lv_at hl 0 rfl) ?_
  obtain ⟨x0, L0, ht1, e1, e2, e3, e4⟩ := px_row ht
  refine tx_catch (X := X_A) (ix := 19) (hpc := 11) (cells' := 1) (slots' := 6) (tx_runV (As := []) (rest := [.int (nI 0), .ref ou]) EE hKx (fun _ _ => rfl) hX rfl rfl hM w_L_39 rfl ⟨rfl, rfl⟩ ⟨Nat.le_refl _, Nat.le_refl _⟩ ⟨Nat.le_of_ble_eq_true rfl, Nat.le_of_ble_eq_true rfl⟩ hl.1 rfl (Nat.le_of_ble_eq_true rfl) d_L_verify_3) hown (hts (.classLink R_L 19 X_A) (by decide +kernel)) ht1 (by simp only [covers, e1, e2]; decide) e4 e3 (by decide) rfl rfl (fun q H1 hsz hk => ?_)
  refine lv_astore_n (lv' := [(2, .ref q), (0, .ref x), (1, .ref ou)]) hx hb d_L_verify_11 rfl hl (by decide) rfl (fun ls hl => ?_)
  refine lv_iconst (v := nI 1) hx hb d_L_verify_12 (by decide +kernel) ?_
  exact hret _ _ _ _ trivial (sx_J.grow hsz hk) (fun q h => by cases h) d_L_verify_13
set_option maxHeartbeats 4000000 in
set_option maxRecDepth 100000 in
theorem h_point_0 {l : Launch} {D : va_G} {g : ClassId → FieldType → Prop} {H0 : Heap} {x ou : Nat} {fs : List Value} {w0 : Int64}  {P : Heap → Prop} {E : Nat → Prop} {fr lo mc ms : Nat} (hM : Met l y_K_point (.code y_K_point b_K_point 2 (some .boolean) :: G_) { frames := fr, cells := mc, slots := ms, locals := lo } (sx_Pc [.ref x] H0 D g) (px_Q g E H0 (nI 0) P) mc ms E) (hX : va_P D classes [(x, .inr (1, fs))] H0) (k_ou : lo_ g H0 ou w0) (nE : ¬ E ou) : Met l y_L_point (.codeWith y_L_point b_L_point 3 (some .int) hh_L_point :: G_) { frames := fr + 1, cells := mc, slots := ms, locals := 8 + (2 + 11) + lo } (tx_Pc [.ref x, .ref ou] H0 D g) (px_Q g (fun z => E z ∨ z = ou) H0 (nI 0) (fun H => lo_ g H ou 0 ∧ ∃ H1, P H1 ∧ sx_J g E H0 H1 ∧ sx_J g (fun z => z = ou) H1 H)) mc ms (fun z => E z ∨ z = ou) := by
  refine px_mW (own := R_L) (V := (nI 0)) (P := fun H => lo_ g H ou 0 ∧ ∃ H1, P H1 ∧ sx_J g E H0 H1 ∧ sx_J g (fun z => z = ou) H1 H) (by decide) rfl (Nat.le_of_ble_eq_true rfl) ?_
  intro p e s m args below meth c Q ls EE hKx ht hh hl hret
  subst hh
  obtain ⟨hx, hb, hml, hown, hts, hG, hK⟩ := id EE
  have hS : sx_S g (fun z => E z ∨ z = ou) (fun z => E z ∨ z = ou) s.heap s.heap [] := sx_S.rf
  have hl : lv_has ls 3 [(0, .ref x), (1, .ref ou)] := hl
  refine lv_aload_n hx hb d_L_point_0 rfl (lv_at hl 1 rfl) ?_
  refine lv_iconst (v := nI 0) hx hb d_L_point_1 (by decide +kernel) ?_
  refine lv_aload_n hx hb d_L_point_2 rfl (lv_at hl 0 rfl) ?_
  refine px_giA (cells' := mc) (slots' := ms) (E' := E) (sx_runVA (As := []) (rest := [.int (nI 0), .ref ou]) EE hX rfl rfl hM w_L_42 rfl ⟨rfl, rfl⟩ ⟨Nat.le_refl _, Nat.le_refl _⟩ ⟨by show 0 + mc ≤ mc; omega, by show 0 + ms ≤ ms; omega⟩ hl.1 rfl (Nat.le_of_ble_eq_true rfl) d_L_point_3) (fun z h => Or.inl h) hS (Nat.zero_add _) (Nat.zero_add _) (fun H locs hJ hP hS => ?_)
  have l_ou := k_ou.j hJ nE
  refine lv_if_eq (tgt := 13) hx hb d_L_point_6 (by decide) (fun _ => ?_) (fun q => absurd rfl q)
  refine lv_lconst (v := 0) hx hb d_L_point_13 (by decide +kernel) ?_
  refine px_out (E := fun z => z = ou) (F := (fun z => E z ∨ z = ou)) (H0 := H) hx hb hG ⟨sx_J.rf, fun z h => Or.inr h, hS.2.2⟩ l_ou rfl d_L_point_14 (fun H2 locs l_ou hs hS2 => ?_)
  refine lv_goto (tgt := 21) hx hb d_L_point_15 (by decide) ?_
  refine lv_iconst (v := nI 0) hx hb d_L_point_21 (by decide +kernel) ?_
  exact hret _ _ _ _ ⟨l_ou, H, hP, hJ, hS2.1⟩ ((hJ.mono (fun z h => Or.inl h)).tr (hS2.1.mono (fun z h => Or.inr h))) hS2.2.2 d_L_point_22
set_option maxHeartbeats 4000000 in
set_option maxRecDepth 100000 in
theorem h_point_1 {l : Launch} {D : va_G} {g : ClassId → FieldType → Prop} {H0 : Heap} {x ou : Nat} {fs : List Value} {w0 : Int64}  {P : Heap → Prop} {E : Nat → Prop} {fr lo mc ms : Nat} (hM : Met l y_K_point (.code y_K_point b_K_point 2 (some .boolean) :: G_) { frames := fr, cells := mc, slots := ms, locals := lo } (sx_Pc [.ref x] H0 D g) (px_Q g E H0 (nI 1) P) mc ms E) (hX : va_P D classes [(x, .inr (1, fs))] H0) (k_ou : lo_ g H0 ou w0) (nE : ¬ E ou) : Met l y_L_point (.codeWith y_L_point b_L_point 3 (some .int) hh_L_point :: G_) { frames := fr + 1, cells := mc, slots := ms, locals := 8 + (2 + 11) + lo } (tx_Pc [.ref x, .ref ou] H0 D g) (px_Q g (fun z => E z ∨ z = ou) H0 (nI 0) (fun H => lo_ g H ou 1 ∧ ∃ H1, P H1 ∧ sx_J g E H0 H1 ∧ sx_J g (fun z => z = ou) H1 H)) mc ms (fun z => E z ∨ z = ou) := by
  refine px_mW (own := R_L) (V := (nI 0)) (P := fun H => lo_ g H ou 1 ∧ ∃ H1, P H1 ∧ sx_J g E H0 H1 ∧ sx_J g (fun z => z = ou) H1 H) (by decide) rfl (Nat.le_of_ble_eq_true rfl) ?_
  intro p e s m args below meth c Q ls EE hKx ht hh hl hret
  subst hh
  obtain ⟨hx, hb, hml, hown, hts, hG, hK⟩ := id EE
  have hS : sx_S g (fun z => E z ∨ z = ou) (fun z => E z ∨ z = ou) s.heap s.heap [] := sx_S.rf
  have hl : lv_has ls 3 [(0, .ref x), (1, .ref ou)] := hl
  refine lv_aload_n hx hb d_L_point_0 rfl (lv_at hl 1 rfl) ?_
  refine lv_iconst (v := nI 0) hx hb d_L_point_1 (by decide +kernel) ?_
  refine lv_aload_n hx hb d_L_point_2 rfl (lv_at hl 0 rfl) ?_
  refine px_giA (cells' := mc) (slots' := ms) (E' := E) (sx_runVA (As := []) (rest := [.int (nI 0), .ref ou]) EE hX rfl rfl hM w_L_42 rfl ⟨rfl, rfl⟩ ⟨Nat.le_refl _, Nat.le_refl _⟩ ⟨by show 0 + mc ≤ mc; omega, by show 0 + ms ≤ ms; omega⟩ hl.1 rfl (Nat.le_of_ble_eq_true rfl) d_L_point_3) (fun z h => Or.inl h) hS (Nat.zero_add _) (Nat.zero_add _) (fun H locs hJ hP hS => ?_)
  have l_ou := k_ou.j hJ nE
  refine lv_if_eq (tgt := 13) hx hb d_L_point_6 (by decide) (fun q => absurd q (by decide)) (fun _ => ?_)
  refine lv_lconst (v := 1) hx hb d_L_point_9 (by decide +kernel) ?_
  refine lv_goto (tgt := 14) hx hb d_L_point_10 (by decide) ?_
  refine px_out (E := fun z => z = ou) (F := (fun z => E z ∨ z = ou)) (H0 := H) hx hb hG ⟨sx_J.rf, fun z h => Or.inr h, hS.2.2⟩ l_ou rfl d_L_point_14 (fun H2 locs l_ou hs hS2 => ?_)
  refine lv_goto (tgt := 21) hx hb d_L_point_15 (by decide) ?_
  refine lv_iconst (v := nI 0) hx hb d_L_point_21 (by decide +kernel) ?_
  exact hret _ _ _ _ ⟨l_ou, H, hP, hJ, hS2.1⟩ ((hJ.mono (fun z h => Or.inl h)).tr (hS2.1.mono (fun z h => Or.inr h))) hS2.2.2 d_L_point_22
set_option maxHeartbeats 4000000 in
set_option maxRecDepth 100000 in
theorem hx_point_1 {l : Launch} {D : va_G} {g : ClassId → FieldType → Prop} {H0 : Heap} {x ou : Nat} {fs : List Value} {w0 : Int64}  {fr lo : Nat} (hM : MetT l y_K_point (.code y_K_point b_K_point 2 (some .boolean) :: G_) { frames := fr, cells := 1, slots := 6, locals := lo } (tx_Pc [.ref x] H0 D g) (tx_T X_A) 1 6 (fun _ => False)) (hX : va_P D classes [(x, .inr (1, fs))] H0) : Met l y_L_point (.codeWith y_L_point b_L_point 3 (some .int) hh_L_point :: G_) { frames := fr + 1, cells := 1, slots := 6, locals := 8 + (2 + 11) + lo } (tx_Pc [.ref x, .ref ou] H0 D g) (px_Q g (fun _ => False) H0 (nI 1) (fun H => True)) 1 6 (fun _ => False) := by
  refine px_mW (own := R_L) (V := (nI 1)) (P := fun H => True) (by decide) rfl (Nat.le_of_ble_eq_true rfl) ?_
  intro p e s m args below meth c Q ls EE hKx ht hh hl hret
  subst hh
  obtain ⟨hx, hb, hml, hown, hts, hG, hK⟩ := id EE
  have hS : sx_S g (fun _ => False) (fun _ => False) s.heap s.heap [] := sx_S.rf
  have hl : lv_has ls 3 [(0, .ref x), (1, .ref ou)] := hl
  refine lv_aload_n hx hb d_L_point_0 rfl (lv_at hl 1 rfl) ?_
  refine lv_iconst (v := nI 0) hx hb d_L_point_1 (by decide +kernel) ?_
  refine lv_aload_n hx hb d_L_point_2 rfl (lv_at hl 0 rfl) ?_
  obtain ⟨x0, L0, ht1, e1, e2, e3, e4⟩ := px_row ht
  refine tx_catch (X := X_A) (ix := 19) (hpc := 18) (cells' := 1) (slots' := 6) (tx_runV (As := []) (rest := [.int (nI 0), .ref ou]) EE hKx (fun _ _ => rfl) hX rfl rfl hM w_L_42 rfl ⟨rfl, rfl⟩ ⟨Nat.le_refl _, Nat.le_refl _⟩ ⟨Nat.le_of_ble_eq_true rfl, Nat.le_of_ble_eq_true rfl⟩ hl.1 rfl (Nat.le_of_ble_eq_true rfl) d_L_point_3) hown (hts (.classLink R_L 19 X_A) (by decide +kernel)) ht1 (by simp only [covers, e1, e2]; decide) e4 e3 (by decide) rfl rfl (fun q H1 hsz hk => ?_)
  refine lv_astore_n (lv' := [(2, .ref q), (0, .ref x), (1, .ref ou)]) hx hb d_L_point_18 rfl hl (by decide) rfl (fun ls hl => ?_)
  refine lv_iconst (v := nI 1) hx hb d_L_point_19 (by decide +kernel) ?_
  exact hret _ _ _ _ trivial (sx_J.grow hsz hk) (fun q h => by cases h) d_L_point_20
set_option maxHeartbeats 4000000 in
set_option maxRecDepth 100000 in
theorem h_back {l : Launch} {D : va_G} {g : ClassId → FieldType → Prop} {H0 : Heap} {x ou : Nat} {fs : List Value} {w0 : Int64} {v0 v1 : Int32}  {P : Heap → Prop} {E : Nat → Prop} {fr lo mc ms : Nat} {V : Int32} (hM : Met l y_K_back (.code y_K_back b_K_back 4 (some .int) :: G_) { frames := fr, cells := mc, slots := ms, locals := lo } (sx_Pc [.ref x, .int v0, .int v1] H0 D g) (px_Q g E H0 (V) P) mc ms E) (hX : va_P D classes [(x, .inr (1, fs))] H0) (k_ou : lo_ g H0 ou w0) (nE : ¬ E ou) : Met l y_L_back (.codeWith y_L_back b_L_back 5 (some .int) hh_L_back :: G_) { frames := fr + 1, cells := mc, slots := ms, locals := 8 + (4 + 11) + lo } (tx_Pc [.ref x, .int v0, .int v1, .ref ou] H0 D g) (px_Q g (fun z => E z ∨ z = ou) H0 (nI 0) (fun H => lo_ g H ou V.toInt64 ∧ ∃ H1, P H1 ∧ sx_J g E H0 H1 ∧ sx_J g (fun z => z = ou) H1 H)) mc ms (fun z => E z ∨ z = ou) := by
  refine px_mW (own := R_L) (V := (nI 0)) (P := fun H => lo_ g H ou V.toInt64 ∧ ∃ H1, P H1 ∧ sx_J g E H0 H1 ∧ sx_J g (fun z => z = ou) H1 H) (by decide) rfl (Nat.le_of_ble_eq_true rfl) ?_
  intro p e s m args below meth c Q ls EE hKx ht hh hl hret
  subst hh
  obtain ⟨hx, hb, hml, hown, hts, hG, hK⟩ := id EE
  have hS : sx_S g (fun z => E z ∨ z = ou) (fun z => E z ∨ z = ou) s.heap s.heap [] := sx_S.rf
  have hl : lv_has ls 5 [(0, .ref x), (1, .int v0), (2, .int v1), (3, .ref ou)] := hl
  refine lv_aload_n hx hb d_L_back_0 rfl (lv_at hl 3 rfl) ?_
  refine lv_iconst (v := nI 0) hx hb d_L_back_1 (by decide +kernel) ?_
  refine lv_aload_n hx hb d_L_back_2 rfl (lv_at hl 0 rfl) ?_
  refine lv_iload_n hx hb d_L_back_3 rfl (lv_at hl 1 rfl) ?_
  refine lv_iload_n hx hb d_L_back_4 rfl (lv_at hl 2 rfl) ?_
  refine px_giA (cells' := mc) (slots' := ms) (E' := E) (sx_runVA (As := [.int v0, .int v1]) (rest := [.int (nI 0), .ref ou]) EE hX rfl rfl hM w_L_46 rfl ⟨rfl, rfl⟩ ⟨Nat.le_refl _, Nat.le_refl _⟩ ⟨by show 0 + mc ≤ mc; omega, by show 0 + ms ≤ ms; omega⟩ hl.1 rfl (Nat.le_of_ble_eq_true rfl) d_L_back_5) (fun z h => Or.inl h) hS (Nat.zero_add _) (Nat.zero_add _) (fun H locs hJ hP hS => ?_)
  have l_ou := k_ou.j hJ nE
  refine lv_i2l (v := V.toInt64) hx hb d_L_back_8 rfl ?_
  refine px_out (E := fun z => z = ou) (F := (fun z => E z ∨ z = ou)) (H0 := H) hx hb hG ⟨sx_J.rf, fun z h => Or.inr h, hS.2.2⟩ l_ou rfl d_L_back_9 (fun H2 locs l_ou hs hS2 => ?_)
  refine lv_goto (tgt := 21) hx hb d_L_back_10 (by decide) ?_
  refine lv_iconst (v := nI 0) hx hb d_L_back_21 (by decide +kernel) ?_
  exact hret _ _ _ _ ⟨l_ou, H, hP, hJ, hS2.1⟩ ((hJ.mono (fun z h => Or.inl h)).tr (hS2.1.mono (fun z h => Or.inr h))) hS2.2.2 d_L_back_22
set_option maxHeartbeats 4000000 in
set_option maxRecDepth 100000 in
theorem hx_back_1 {l : Launch} {D : va_G} {g : ClassId → FieldType → Prop} {H0 : Heap} {x ou : Nat} {fs : List Value} {w0 : Int64} {v0 v1 : Int32}  {fr lo : Nat} (hM : MetT l y_K_back (.code y_K_back b_K_back 4 (some .int) :: G_) { frames := fr, cells := 1, slots := 6, locals := lo } (tx_Pc [.ref x, .int v0, .int v1] H0 D g) (tx_T X_I) 1 6 (fun _ => False)) (hX : va_P D classes [(x, .inr (1, fs))] H0) : Met l y_L_back (.codeWith y_L_back b_L_back 5 (some .int) hh_L_back :: G_) { frames := fr + 1, cells := 1, slots := 6, locals := 8 + (4 + 11) + lo } (tx_Pc [.ref x, .int v0, .int v1, .ref ou] H0 D g) (px_Q g (fun _ => False) H0 (nI 1) (fun H => True)) 1 6 (fun _ => False) := by
  refine px_mW (own := R_L) (V := (nI 1)) (P := fun H => True) (by decide) rfl (Nat.le_of_ble_eq_true rfl) ?_
  intro p e s m args below meth c Q ls EE hKx ht hh hl hret
  subst hh
  obtain ⟨hx, hb, hml, hown, hts, hG, hK⟩ := id EE
  have hS : sx_S g (fun _ => False) (fun _ => False) s.heap s.heap [] := sx_S.rf
  have hl : lv_has ls 5 [(0, .ref x), (1, .int v0), (2, .int v1), (3, .ref ou)] := hl
  refine lv_aload_n hx hb d_L_back_0 rfl (lv_at hl 3 rfl) ?_
  refine lv_iconst (v := nI 0) hx hb d_L_back_1 (by decide +kernel) ?_
  refine lv_aload_n hx hb d_L_back_2 rfl (lv_at hl 0 rfl) ?_
  refine lv_iload_n hx hb d_L_back_3 rfl (lv_at hl 1 rfl) ?_
  refine lv_iload_n hx hb d_L_back_4 rfl (lv_at hl 2 rfl) ?_
  obtain ⟨x0, L0, ht1, e1, e2, e3, e4⟩ := px_row ht
  refine tx_catch (X := X_I) (ix := 50) (hpc := 13) (cells' := 1) (slots' := 6) (tx_runV (As := [.int v0, .int v1]) (rest := [.int (nI 0), .ref ou]) EE hKx (fun _ _ => rfl) hX rfl rfl hM w_L_46 rfl ⟨rfl, rfl⟩ ⟨Nat.le_refl _, Nat.le_refl _⟩ ⟨Nat.le_of_ble_eq_true rfl, Nat.le_of_ble_eq_true rfl⟩ hl.1 rfl (Nat.le_of_ble_eq_true rfl) d_L_back_5) hown (hts (.classLink R_L 50 X_I) (by decide +kernel)) ht1 (by simp only [covers, e1, e2]; decide) e4 e3 (by decide) rfl rfl (fun q H1 hsz hk => ?_)
  refine lv_astore (lv' := [(4, .ref q), (0, .ref x), (1, .int v0), (2, .int v1), (3, .ref ou)]) hx hb d_L_back_13 hl (by decide) rfl (fun ls hl => ?_)
  refine lv_iconst (v := nI 1) hx hb d_L_back_15 (by decide +kernel) ?_
  exact hret _ _ _ _ trivial (sx_J.grow hsz hk) (fun q h => by cases h) d_L_back_16
set_option maxHeartbeats 4000000 in
set_option maxRecDepth 100000 in
theorem hx_back_2 {l : Launch} {D : va_G} {g : ClassId → FieldType → Prop} {H0 : Heap} {x ou : Nat} {fs : List Value} {w0 : Int64} {v0 v1 : Int32}  {fr lo : Nat} (hM : MetT l y_K_back (.code y_K_back b_K_back 4 (some .int) :: G_) { frames := fr, cells := 1, slots := 6, locals := lo } (tx_Pc [.ref x, .int v0, .int v1] H0 D g) (tx_T X_S) 1 6 (fun _ => False)) (hX : va_P D classes [(x, .inr (1, fs))] H0) : Met l y_L_back (.codeWith y_L_back b_L_back 5 (some .int) hh_L_back :: G_) { frames := fr + 1, cells := 1, slots := 6, locals := 8 + (4 + 11) + lo } (tx_Pc [.ref x, .int v0, .int v1, .ref ou] H0 D g) (px_Q g (fun _ => False) H0 (nI 2) (fun H => True)) 1 6 (fun _ => False) := by
  refine px_mW (own := R_L) (V := (nI 2)) (P := fun H => True) (by decide) rfl (Nat.le_of_ble_eq_true rfl) ?_
  intro p e s m args below meth c Q ls EE hKx ht hh hl hret
  subst hh
  obtain ⟨hx, hb, hml, hown, hts, hG, hK⟩ := id EE
  have hS : sx_S g (fun _ => False) (fun _ => False) s.heap s.heap [] := sx_S.rf
  have hl : lv_has ls 5 [(0, .ref x), (1, .int v0), (2, .int v1), (3, .ref ou)] := hl
  refine lv_aload_n hx hb d_L_back_0 rfl (lv_at hl 3 rfl) ?_
  refine lv_iconst (v := nI 0) hx hb d_L_back_1 (by decide +kernel) ?_
  refine lv_aload_n hx hb d_L_back_2 rfl (lv_at hl 0 rfl) ?_
  refine lv_iload_n hx hb d_L_back_3 rfl (lv_at hl 1 rfl) ?_
  refine lv_iload_n hx hb d_L_back_4 rfl (lv_at hl 2 rfl) ?_
  obtain ⟨x0, y0, L0, ht1, ⟨e1, e2, e3, e4⟩, f1, f2, f3, f4⟩ := px_row2 ht
  refine tx_catch2 (X := X_S) (ix := 13) (ix1 := 50) (hpc := 17) (cells' := 1) (slots' := 6) (tx_runV (As := [.int v0, .int v1]) (rest := [.int (nI 0), .ref ou]) EE hKx (fun _ _ => rfl) hX rfl rfl hM w_L_46 rfl ⟨rfl, rfl⟩ ⟨Nat.le_refl _, Nat.le_refl _⟩ ⟨Nat.le_of_ble_eq_true rfl, Nat.le_of_ble_eq_true rfl⟩ hl.1 rfl (Nat.le_of_ble_eq_true rfl) d_L_back_5) hKx hown (X1 := X_I) (by decide +kernel) (hts (.classLink R_L 50 X_I) (by decide +kernel)) (hts (.classLink R_L 13 X_S) (by decide +kernel)) ht1 (by simp only [covers, e1, e2]; decide) e4 (by decide) (by simp only [covers, f1, f2]; decide) f4 f3 (by decide) rfl rfl (fun q H1 hsz hk => ?_)
  refine lv_astore (lv' := [(4, .ref q), (0, .ref x), (1, .int v0), (2, .int v1), (3, .ref ou)]) hx hb d_L_back_17 hl (by decide) rfl (fun ls hl => ?_)
  refine lv_iconst (v := nI 2) hx hb d_L_back_19 (by decide +kernel) ?_
  exact hret _ _ _ _ trivial (sx_J.grow hsz hk) (fun q h => by cases h) d_L_back_20
set_option maxHeartbeats 4000000 in
set_option maxRecDepth 100000 in
theorem h_result {l : Launch} {D : va_G} {g : ClassId → FieldType → Prop} {H0 : Heap} {x ou : Nat} {fs : List Value} {w0 : Int64} {v0 : Int32}  {P : Heap → Prop} {E : Nat → Prop} {fr lo mc ms : Nat} {V : Int32} (hM : Met l y_K_result (.code y_K_result b_K_result 2 (some .int) :: G_) { frames := fr, cells := mc, slots := ms, locals := lo } (sx_Pc [.ref x, .int v0] H0 D g) (px_Q g E H0 (V) P) mc ms E) (hX : va_P D classes [(x, .inr (1, fs))] H0) (k_ou : lo_ g H0 ou w0) (nE : ¬ E ou) : Met l y_L_result (.codeWith y_L_result b_L_result 4 (some .int) hh_L_result :: G_) { frames := fr + 1, cells := mc, slots := ms, locals := 8 + (2 + 11) + lo } (tx_Pc [.ref x, .int v0, .ref ou] H0 D g) (px_Q g (fun z => E z ∨ z = ou) H0 (nI 0) (fun H => lo_ g H ou V.toInt64 ∧ ∃ H1, P H1 ∧ sx_J g E H0 H1 ∧ sx_J g (fun z => z = ou) H1 H)) mc ms (fun z => E z ∨ z = ou) := by
  refine px_mW (own := R_L) (V := (nI 0)) (P := fun H => lo_ g H ou V.toInt64 ∧ ∃ H1, P H1 ∧ sx_J g E H0 H1 ∧ sx_J g (fun z => z = ou) H1 H) (by decide) rfl (Nat.le_of_ble_eq_true rfl) ?_
  intro p e s m args below meth c Q ls EE hKx ht hh hl hret
  subst hh
  obtain ⟨hx, hb, hml, hown, hts, hG, hK⟩ := id EE
  have hS : sx_S g (fun z => E z ∨ z = ou) (fun z => E z ∨ z = ou) s.heap s.heap [] := sx_S.rf
  have hl : lv_has ls 4 [(0, .ref x), (1, .int v0), (2, .ref ou)] := hl
  refine lv_aload_n hx hb d_L_result_0 rfl (lv_at hl 2 rfl) ?_
  refine lv_iconst (v := nI 0) hx hb d_L_result_1 (by decide +kernel) ?_
  refine lv_aload_n hx hb d_L_result_2 rfl (lv_at hl 0 rfl) ?_
  refine lv_iload_n hx hb d_L_result_3 rfl (lv_at hl 1 rfl) ?_
  refine px_giA (cells' := mc) (slots' := ms) (E' := E) (sx_runVA (As := [.int v0]) (rest := [.int (nI 0), .ref ou]) EE hX rfl rfl hM w_L_52 rfl ⟨rfl, rfl⟩ ⟨Nat.le_refl _, Nat.le_refl _⟩ ⟨by show 0 + mc ≤ mc; omega, by show 0 + ms ≤ ms; omega⟩ hl.1 rfl (Nat.le_of_ble_eq_true rfl) d_L_result_4) (fun z h => Or.inl h) hS (Nat.zero_add _) (Nat.zero_add _) (fun H locs hJ hP hS => ?_)
  have l_ou := k_ou.j hJ nE
  refine lv_i2l (v := V.toInt64) hx hb d_L_result_7 rfl ?_
  refine px_out (E := fun z => z = ou) (F := (fun z => E z ∨ z = ou)) (H0 := H) hx hb hG ⟨sx_J.rf, fun z h => Or.inr h, hS.2.2⟩ l_ou rfl d_L_result_8 (fun H2 locs l_ou hs hS2 => ?_)
  refine lv_goto (tgt := 15) hx hb d_L_result_9 (by decide) ?_
  refine lv_iconst (v := nI 0) hx hb d_L_result_15 (by decide +kernel) ?_
  exact hret _ _ _ _ ⟨l_ou, H, hP, hJ, hS2.1⟩ ((hJ.mono (fun z h => Or.inl h)).tr (hS2.1.mono (fun z h => Or.inr h))) hS2.2.2 d_L_result_16
set_option maxHeartbeats 4000000 in
set_option maxRecDepth 100000 in
theorem hx_result_1 {l : Launch} {D : va_G} {g : ClassId → FieldType → Prop} {H0 : Heap} {x ou : Nat} {fs : List Value} {w0 : Int64} {v0 : Int32}  {fr lo : Nat} (hM : MetT l y_K_result (.code y_K_result b_K_result 2 (some .int) :: G_) { frames := fr, cells := 1, slots := 6, locals := lo } (tx_Pc [.ref x, .int v0] H0 D g) (tx_T X_I) 1 6 (fun _ => False)) (hX : va_P D classes [(x, .inr (1, fs))] H0) : Met l y_L_result (.codeWith y_L_result b_L_result 4 (some .int) hh_L_result :: G_) { frames := fr + 1, cells := 1, slots := 6, locals := 8 + (2 + 11) + lo } (tx_Pc [.ref x, .int v0, .ref ou] H0 D g) (px_Q g (fun _ => False) H0 (nI 1) (fun H => True)) 1 6 (fun _ => False) := by
  refine px_mW (own := R_L) (V := (nI 1)) (P := fun H => True) (by decide) rfl (Nat.le_of_ble_eq_true rfl) ?_
  intro p e s m args below meth c Q ls EE hKx ht hh hl hret
  subst hh
  obtain ⟨hx, hb, hml, hown, hts, hG, hK⟩ := id EE
  have hS : sx_S g (fun _ => False) (fun _ => False) s.heap s.heap [] := sx_S.rf
  have hl : lv_has ls 4 [(0, .ref x), (1, .int v0), (2, .ref ou)] := hl
  refine lv_aload_n hx hb d_L_result_0 rfl (lv_at hl 2 rfl) ?_
  refine lv_iconst (v := nI 0) hx hb d_L_result_1 (by decide +kernel) ?_
  refine lv_aload_n hx hb d_L_result_2 rfl (lv_at hl 0 rfl) ?_
  refine lv_iload_n hx hb d_L_result_3 rfl (lv_at hl 1 rfl) ?_
  obtain ⟨x0, L0, ht1, e1, e2, e3, e4⟩ := px_row ht
  refine tx_catch (X := X_I) (ix := 50) (hpc := 12) (cells' := 1) (slots' := 6) (tx_runV (As := [.int v0]) (rest := [.int (nI 0), .ref ou]) EE hKx (fun _ _ => rfl) hX rfl rfl hM w_L_52 rfl ⟨rfl, rfl⟩ ⟨Nat.le_refl _, Nat.le_refl _⟩ ⟨Nat.le_of_ble_eq_true rfl, Nat.le_of_ble_eq_true rfl⟩ hl.1 rfl (Nat.le_of_ble_eq_true rfl) d_L_result_4) hown (hts (.classLink R_L 50 X_I) (by decide +kernel)) ht1 (by simp only [covers, e1, e2]; decide) e4 e3 (by decide) rfl rfl (fun q H1 hsz hk => ?_)
  refine lv_astore_n (lv' := [(3, .ref q), (0, .ref x), (1, .int v0), (2, .ref ou)]) hx hb d_L_result_12 rfl hl (by decide) rfl (fun ls hl => ?_)
  refine lv_iconst (v := nI 1) hx hb d_L_result_13 (by decide +kernel) ?_
  exact hret _ _ _ _ trivial (sx_J.grow hsz hk) (fun q h => by cases h) d_L_result_14
