theorem Rw_tr {D : va_G} {g : ClassId → FieldType → Prop} {H0 H H1 : Heap} {X : vM} {ro b n t k k2 q n' : Nat} {f f2 : Nat → Int32} (hz : H0.size ≤ H.size) (hq : q < H.size) (ht : t ≤ n) (hn : 64 ≤ n) (hk : k + k2 ≤ 64) (c1 : t + k ≤ n → q = b ∧ n' = n) (c2 : n < t + k → H0.size ≤ q ∧ n' = 2 * n) (vals : ∀ j, j < t → (mm g H).2 q j = X.2 b j) (news : ∀ j, j < k → (mm g H).2 q (t + j) = f j) (rst : ∀ c, c < H0.size → c ≠ b → (mm g H).1 c = X.1 c ∧ (mm g H).2 c = X.2 c) (h2 : RwP D g H (mm g H) ro q n' (t + k) k2 f2 H1) : RwP D g H0 X ro b n t (k + k2) (cat f k f2) H1 := by
  obtain ⟨q2, n2, r1, r2, r3, d1, d2, v2, w2, s2⟩ := h2
  refine ⟨q2, n2, by rw [show t + (k + k2) = t + k + k2 by omega]; exact r1, r2, r3, fun h => ?_, fun h => ?_, fun j hj => ?_, fun j hj => ?_, fun c hc hcb => ?_⟩
  · obtain ⟨e1, e2⟩ := c1 (by omega)
    obtain ⟨e3, e4⟩ := d1 (by omega)
    exact ⟨e3.trans e1, e4.trans e2⟩
  · by_cases h1 : t + k ≤ n
    · obtain ⟨e1, e2⟩ := c1 h1
      obtain ⟨e3, e4⟩ := d2 (by omega)
      exact ⟨by omega, by omega⟩
    · obtain ⟨e1, e2⟩ := c2 (by omega)
      obtain ⟨e3, e4⟩ := d1 (by omega)
      exact ⟨by omega, by omega⟩
  · rw [v2 j (by omega)]
    exact vals j hj
  · by_cases hjk : j < k
    · rw [cat_l hjk, v2 (t + j) (by omega)]
      exact news j hjk
    · have e : j = k + (j - k) := by omega
      rw [e, cat_r, ← Nat.add_assoc]
      exact w2 (j - k) (by omega)
  · have hcq : c ≠ q := by
      by_cases h1 : t + k ≤ n
      · rw [(c1 h1).1]; exact hcb
      · have := (c2 (by omega)).1
        omega
    have a := s2 c (by omega) hcq
    have b' := rst c hc hcb
    exact ⟨a.1.trans b'.1, a.2.trans b'.2⟩
theorem gC_tr {t k k2 n n' : Nat} (ht : t ≤ n) (hn : 64 ≤ n) (hk : k + k2 ≤ 64) (c1 : t + k ≤ n → n' = n) (c2 : n < t + k → n' = 2 * n) : gC t k n + gC (t + k) k2 n' = gC t (k + k2) n ∧ gS t k n + gS (t + k) k2 n' = gS t (k + k2) n := by
  unfold gC gS
  by_cases h1 : t + k ≤ n
  · have e := c1 h1
    subst e
    constructor <;> (repeat' split) <;> omega
  · have e := c2 (by omega)
    subst e
    constructor <;> (repeat' split) <;> omega
theorem gC_le {t k k' n : Nat} (h : k ≤ k') : gC t k n ≤ gC t k' n ∧ gS t k n ≤ gS t k' n := by
  unfold gC gS
  by_cases h1 : n < t + k
  · rw [if_pos h1, if_pos (by omega), if_pos h1, if_pos (by omega)]
    exact ⟨Nat.le_refl _, Nat.le_refl _⟩
  · rw [if_neg h1, if_neg h1]
    exact ⟨Nat.zero_le _, Nat.zero_le _⟩
/-- the twenty bytes of five numbers -/
def nb20 (v0 v1 v2 v3 v4 : Int32) : Nat → Int32 := cat (cat (cat (cat (nb4 v0) 4 (nb4 v1)) 8 (nb4 v2)) 12 (nb4 v3)) 16 (nb4 v4)
set_option maxHeartbeats 4000000 in
set_option maxRecDepth 100000 in
theorem v_K_requireTape {l : Launch} {D : va_G} {g : ClassId → FieldType → Prop} {H0 : Heap} {X : vM} {x kA re ve ta ma kc rl : Nat} {kq : Nat → Nat → Nat} {sg za : Int32} {bt tl bm ml : Nat} (hX : va_P D classes [(x, .inr (1, [.ref kA, .ref re, .ref ve, .ref (kq 1 99), .ref (kq 2 99), .ref (kq 7 99), .ref ta, .ref ma, .int (nI (kc)), .int (nI (rl)), .int sg, .int za]))] H0) (hT : va_P D classes [(ta, .inr (9, [.ref bt, .int (nI (tl))]))] H0) (hM : va_P D classes [(ma, .inr (9, [.ref bm, .int (nI (ml))]))] H0) (hV : mm g H0 = X) : Met l y_K_requireTape (.code y_K_requireTape b_K_requireTape 2 none :: G_) { frames := 0, cells := 0, slots := 0, locals := 0 } (sx_Pc [.ref x, .int (nI (tl))] H0 D g) (px_Qv g (fun _ => False) H0 (fun H => mm g H = X)) 0 0 (fun _ => False) := by
  refine px_mv (P := fun H => mm g H = X) (own := R_K) (by decide) rfl (Nat.le_of_ble_eq_true rfl) ?_
  intro p e s m args below meth c Q ls EE hl hret
  obtain ⟨hx, hb, hml, hown, hts, hG, hK⟩ := id EE
  have hS : sx_S g (fun _ => False) (fun _ => False) H0 H0 [] := sx_S.rf
  have hl : lv_has ls 2 [(0, .ref x), (1, .int (nI (tl)))] := hl
  refine lv_aload_n hx hb d_K_requireTape_0 rfl (lv_at hl 0 rfl) ?_
  refine sx_get (v := .ref ta) EE hX rfl i_K 6 (by decide) rfl fl_K_54 rfl d_K_requireTape_1 ?_
  refine sx_getN (v := .int (nI (tl))) EE hT rfl i_Ro 1 (by decide) rfl fn_K_76 rfl d_K_requireTape_4 ?_
  refine lv_iload_n hx hb d_K_requireTape_7 rfl (lv_at hl 1 rfl) ?_
  refine lv_icmp_eq (tgt := 21) hx hb d_K_requireTape_8 (by decide) (fun _ => ?_) (fun q => absurd rfl q)
  exact hret _ _ _ _ hV hS d_K_requireTape_21
set_option maxHeartbeats 4000000 in
set_option maxRecDepth 100000 in
theorem v_K_end {l : Launch} {D : va_G} {g : ClassId → FieldType → Prop} {H0 : Heap} {X : vM} {x kA re ve ta ma kc rl : Nat} {kq : Nat → Nat → Nat} {sg za : Int32} {bt tl bm ml : Nat} {v0 : Nat} (hX : va_P D classes [(x, .inr (1, [.ref kA, .ref re, .ref ve, .ref (kq 1 99), .ref (kq 2 99), .ref (kq 7 99), .ref ta, .ref ma, .int (nI (kc)), .int (nI (rl)), .int sg, .int za]))] H0) (hT : va_P D classes [(ta, .inr (9, [.ref bt, .int (nI (tl))]))] H0) (hM : va_P D classes [(ma, .inr (9, [.ref bm, .int (nI (ml))]))] H0) (nxt : x ≠ ta) (nxm : x ≠ ma) (ntm : ta ≠ ma) (hw : v0 ≤ tl) (hw2 : tl ≤ 65536) (hV : mm g H0 = X) : Met l y_K_end (.code y_K_end b_K_end 2 (some .int) :: G_) { frames := 0, cells := 0, slots := 0, locals := 0 } (sx_Pc [.ref x, .int (nI (v0))] H0 D g) (px_Q g (fun z => z = ta) H0 (nI v0) (fun H => mm g H = X ∧ va_P D classes [(ta, .inr (9, [.ref bt, .int (nI (v0))]))] H)) 0 0 (fun z => z = ta) := by
  refine px_mi (own := R_K) (by decide) rfl (Nat.le_of_ble_eq_true rfl) ?_
  intro p e s m args below meth c Q ls EE hl hret
  obtain ⟨hx, hb, hml, hown, hts, hG, hK⟩ := id EE
  have hS : sx_S g (fun z => z = ta) (fun z => z = ta) H0 H0 [] := sx_S.rf
  have hl : lv_has ls 2 [(0, .ref x), (1, .int (nI (v0)))] := hl
  refine lv_iload_n hx hb d_K_end_0 rfl (lv_at hl 1 rfl) ?_
  refine lv_if_lt (tgt := 15) hx hb d_K_end_1 (by decide) (fun q1_0 => absurd (show v0 < 0 by have q1_0 : v0 < 0 := (nI_ltI (a := v0) (b := 0) (by omega) (by omega)).mp q1_0; exact q1_0) (by omega)) (fun _ => ?_)
  refine lv_iload_n hx hb d_K_end_4 rfl (lv_at hl 1 rfl) ?_
  refine lv_aload_n hx hb d_K_end_5 rfl (lv_at hl 0 rfl) ?_
  refine sx_get (v := .ref ta) EE hX rfl i_K 6 (by decide) rfl fl_K_54 rfl d_K_end_6 ?_
  refine sx_getN (v := .int (nI (tl))) EE hT rfl i_Ro 1 (by decide) rfl fn_K_76 rfl d_K_end_9 ?_
  refine lv_icmp_le (tgt := 25) hx hb d_K_end_12 (by decide) (fun _ => ?_) (fun q12_1 => absurd (show v0 ≤ tl by omega) (by have q12_1 : ¬ (v0 ≤ tl) := fun z => q12_1 ((nI_leI (a := v0) (b := tl) (by omega) (by omega)).mpr z); exact q12_1))
  refine lv_aload_n hx hb d_K_end_25 rfl (lv_at hl 0 rfl) ?_
  refine sx_get (v := .ref ta) EE hX rfl i_K 6 (by decide) rfl fl_K_54 rfl d_K_end_26 ?_
  refine lv_iload_n hx hb d_K_end_29 rfl (lv_at hl 1 rfl) ?_
  have h0_ := hT
  refine sx_putN (E := (fun z => z = ta)) (v := .int (nI (v0))) EE hT rfl i_Ro t_Ro tok_Ro n_Ro 1 (by decide) rfl fn_K_76 (ty := t_Ro 1) (by decide +kernel) rfl rfl (Nat.le_of_ble_eq_true rfl) rfl hS d_K_end_30 (fun H locs hT hJ_ hs_ hS => ?_)
  have hT : va_P D classes [(ta, .inr (9, [.ref bt, .int (nI (v0))]))] H := hT
  have hV := (vx_obj hG hK.1 h0_ hT hs_).trans hV
  have hX := hX.one hs_ nxt
  have hM := hM.one hs_ (Ne.symm ntm)
  refine lv_iload_n hx hb d_K_end_33 rfl (lv_at hl 1 rfl) ?_
  exact hret _ _ _ _ ⟨hV, hT⟩ hS d_K_end_34
set_option maxHeartbeats 4000000 in
set_option maxRecDepth 100000 in
theorem v_K_message {l : Launch} {D : va_G} {g : ClassId → FieldType → Prop} {H0 : Heap} {X : vM} {x kA re ve ta ma kc rl : Nat} {kq : Nat → Nat → Nat} {sg za : Int32} {bt tl bm ml : Nat} (hX : va_P D classes [(x, .inr (1, [.ref kA, .ref re, .ref ve, .ref (kq 1 99), .ref (kq 2 99), .ref (kq 7 99), .ref ta, .ref ma, .int (nI (kc)), .int (nI (rl)), .int sg, .int za]))] H0) (hT : va_P D classes [(ta, .inr (9, [.ref bt, .int (nI (tl))]))] H0) (hM : va_P D classes [(ma, .inr (9, [.ref bm, .int (nI (ml))]))] H0) (nxt : x ≠ ta) (nxm : x ≠ ma) (ntm : ta ≠ ma) (hV : mm g H0 = X) : Met l y_K_message (.code y_K_message b_K_message 2 (some .int) :: G_) { frames := 0, cells := 0, slots := 0, locals := 0 } (sx_Pc [.ref x] H0 D g) (px_Q g (fun z => z = x ∨ z = ma) H0 (nI tl) (fun H => mm g H = X ∧ va_P D classes [(x, .inr (1, [.ref kA, .ref re, .ref ve, .ref (kq 1 99), .ref (kq 2 99), .ref (kq 7 99), .ref ma, .ref ta, .int (nI (kc)), .int (nI (rl)), .int sg, .int za]))] H ∧ va_P D classes [(ta, .inr (9, [.ref bt, .int (nI (tl))]))] H ∧ va_P D classes [(ma, .inr (9, [.ref bm, .int (nI (0))]))] H)) 0 0 (fun z => z = x ∨ z = ma) := by
  refine px_mi (own := R_K) (by decide) rfl (Nat.le_of_ble_eq_true rfl) ?_
  intro p e s m args below meth c Q ls EE hl hret
  obtain ⟨hx, hb, hml, hown, hts, hG, hK⟩ := id EE
  have hS : sx_S g (fun z => z = x ∨ z = ma) (fun z => z = x ∨ z = ma) H0 H0 [] := sx_S.rf
  have hl : lv_has ls 2 [(0, .ref x)] := hl
  refine lv_aload_n hx hb d_K_message_0 rfl (lv_at hl 0 rfl) ?_
  refine sx_get (v := .ref ta) EE hX rfl i_K 6 (by decide) rfl fl_K_54 rfl d_K_message_1 ?_
  refine lv_astore_n (lv' := [(1, .ref ta), (0, .ref x)]) hx hb d_K_message_4 rfl hl (by decide) rfl (fun ls hl => ?_)
  refine lv_aload_n hx hb d_K_message_5 rfl (lv_at hl 1 rfl) ?_
  refine lv_aload_n hx hb d_K_message_6 rfl (lv_at hl 1 rfl) ?_
  refine sx_get (v := .ref ma) EE hX rfl i_K 7 (by decide) rfl fl_K_58 rfl d_K_message_7 ?_
  have h0_ := hX
  refine sx_put (E := (fun z => z = x ∨ z = ma)) (v := .ref ma) EE hX rfl i_K t_K tok_K n_K 6 (by decide) rfl fl_K_54 (ty := t_K 6) (by decide +kernel) rfl rfl (Nat.le_of_ble_eq_true rfl) (Or.inl rfl) hS d_K_message_10 (fun H locs hX hJ_ hs_ hS => ?_)
  have hX : va_P D classes [(x, .inr (1, [.ref kA, .ref re, .ref ve, .ref (kq 1 99), .ref (kq 2 99), .ref (kq 7 99), .ref ma, .ref ma, .int (nI (kc)), .int (nI (rl)), .int sg, .int za]))] H := hX
  have hV := (vx_obj hG hK.1 h0_ hX hs_).trans hV
  have hT := hT.one hs_ (Ne.symm nxt)
  have hM := hM.one hs_ (Ne.symm nxm)
  refine lv_aload_n hx hb d_K_message_13 rfl (lv_at hl 1 rfl) ?_
  refine sx_get (v := .ref ma) EE hX rfl i_K 6 (by decide) rfl fl_K_54 rfl d_K_message_14 ?_
  refine lv_iconst (v := nI 0) hx hb d_K_message_17 (by decide +kernel) ?_
  have h0_ := hM
  refine sx_putN (E := (fun z => z = x ∨ z = ma)) (v := .int (nI (0))) EE hM rfl i_Ro t_Ro tok_Ro n_Ro 1 (by decide) rfl fn_K_76 (ty := t_Ro 1) (by decide +kernel) rfl rfl (Nat.le_of_ble_eq_true rfl) (Or.inr rfl) hS d_K_message_18 (fun H locs hM hJ_ hs_ hS => ?_)
  have hM : va_P D classes [(ma, .inr (9, [.ref bm, .int (nI (0))]))] H := hM
  have hV := (vx_obj hG hK.1 h0_ hM hs_).trans hV
  have hX := hX.one hs_ nxm
  have hT := hT.one hs_ ntm
  refine lv_aload_n hx hb d_K_message_21 rfl (lv_at hl 1 rfl) ?_
  refine lv_aload_n hx hb d_K_message_22 rfl (lv_at hl 0 rfl) ?_
  have h0_ := hX
  refine sx_put (E := (fun z => z = x ∨ z = ma)) (v := .ref ta) EE hX rfl i_K t_K tok_K n_K 7 (by decide) rfl fl_K_58 (ty := t_K 7) (by decide +kernel) rfl rfl (Nat.le_of_ble_eq_true rfl) (Or.inl rfl) hS d_K_message_23 (fun H locs hX hJ_ hs_ hS => ?_)
  have hX : va_P D classes [(x, .inr (1, [.ref kA, .ref re, .ref ve, .ref (kq 1 99), .ref (kq 2 99), .ref (kq 7 99), .ref ma, .ref ta, .int (nI (kc)), .int (nI (rl)), .int sg, .int za]))] H := hX
  have hV := (vx_obj hG hK.1 h0_ hX hs_).trans hV
  have hT := hT.one hs_ (Ne.symm nxt)
  have hM := hM.one hs_ (Ne.symm nxm)
  refine lv_aload_n hx hb d_K_message_26 rfl (lv_at hl 1 rfl) ?_
  refine sx_get (v := .ref ta) EE hX rfl i_K 7 (by decide) rfl fl_K_58 rfl d_K_message_27 ?_
  refine sx_getN (v := .int (nI (tl))) EE hT rfl i_Ro 1 (by decide) rfl fn_K_76 rfl d_K_message_30 ?_
  exact hret _ _ _ _ ⟨hV, hX, hT, hM⟩ hS d_K_message_33
set_option maxHeartbeats 4000000 in
set_option maxRecDepth 100000 in
theorem v_K_result {l : Launch} {D : va_G} {g : ClassId → FieldType → Prop} {H0 : Heap} {X : vM} {x kA re ve ta ma kc rl : Nat} {kq : Nat → Nat → Nat} {sg za : Int32} {bt tl bm ml : Nat} {v0 : Nat} (hX : va_P D classes [(x, .inr (1, [.ref kA, .ref re, .ref ve, .ref (kq 1 99), .ref (kq 2 99), .ref (kq 7 99), .ref ta, .ref ma, .int (nI (kc)), .int (nI (rl)), .int sg, .int za]))] H0) (hT : va_P D classes [(ta, .inr (9, [.ref bt, .int (nI (tl))]))] H0) (hM : va_P D classes [(ma, .inr (9, [.ref bm, .int (nI (ml))]))] H0) (f1 : sx_A g .byte H0 re 64) (hw : v0 < rl) (hw2 : rl ≤ 64) (hV : mm g H0 = X) : Met l y_K_result (.code y_K_result b_K_result 2 (some .int) :: G_) { frames := 0, cells := 0, slots := 0, locals := 0 } (sx_Pc [.ref x, .int (nI (v0))] H0 D g) (px_Q g (fun _ => False) H0 ((X.2 re v0) &&& (nI 255)) (fun H => mm g H = X)) 0 0 (fun _ => False) := by
  refine px_mi (own := R_K) (by decide) rfl (Nat.le_of_ble_eq_true rfl) ?_
  intro p e s m args below meth c Q ls EE hl hret
  obtain ⟨hx, hb, hml, hown, hts, hG, hK⟩ := id EE
  have hS : sx_S g (fun _ => False) (fun _ => False) H0 H0 [] := sx_S.rf
  have hl : lv_has ls 2 [(0, .ref x), (1, .int (nI (v0)))] := hl
  refine lv_iload_n hx hb d_K_result_0 rfl (lv_at hl 1 rfl) ?_
  refine lv_if_lt (tgt := 12) hx hb d_K_result_1 (by decide) (fun q1_0 => absurd (show v0 < 0 by have q1_0 : v0 < 0 := (nI_ltI (a := v0) (b := 0) (by omega) (by omega)).mp q1_0; exact q1_0) (by omega)) (fun _ => ?_)
  refine lv_iload_n hx hb d_K_result_4 rfl (lv_at hl 1 rfl) ?_
  refine lv_aload_n hx hb d_K_result_5 rfl (lv_at hl 0 rfl) ?_
  refine sx_get (v := .int (nI (rl))) EE hX rfl i_K 9 (by decide) rfl fl_K_123 rfl d_K_result_6 ?_
  refine lv_icmp_lt (tgt := 22) hx hb d_K_result_9 (by decide) (fun _ => ?_) (fun q9_1 => absurd (show v0 < rl by omega) (by have q9_1 : ¬ (v0 < rl) := fun z => q9_1 ((nI_ltI (a := v0) (b := rl) (by omega) (by omega)).mpr z); exact q9_1))
  refine lv_aload_n hx hb d_K_result_22 rfl (lv_at hl 0 rfl) ?_
  refine sx_get (v := .ref re) EE hX rfl i_K 1 (by decide) rfl fl_K_18 rfl d_K_result_23 ?_
  refine lv_iload_n hx hb d_K_result_26 rfl (lv_at hl 1 rfl) ?_
  refine vx_bald hx hb hG hS hV f1 (by omega) (by decide) d_K_result_27 ?_
  refine lv_sipush (v := nI 255) hx hb d_K_result_28 (by decide +kernel) ?_
  refine lv_iand hx hb d_K_result_31 ?_
  exact hret _ _ _ _ hV hS d_K_result_32
set_option maxHeartbeats 4000000 in
set_option maxRecDepth 100000 in
theorem v_K_count_0 {l : Launch} {D : va_G} {g : ClassId → FieldType → Prop} {H0 : Heap} {X : vM} {x kA re ve ta ma kc rl : Nat} {kq : Nat → Nat → Nat} {sg za : Int32} {bt tl bm ml : Nat} (hX : va_P D classes [(x, .inr (1, [.ref kA, .ref re, .ref ve, .ref (kq 1 99), .ref (kq 2 99), .ref (kq 7 99), .ref ta, .ref ma, .int (nI (kc)), .int (nI (rl)), .int sg, .int za]))] H0) (hT : va_P D classes [(ta, .inr (9, [.ref bt, .int (nI (tl))]))] H0) (hM : va_P D classes [(ma, .inr (9, [.ref bm, .int (nI (ml))]))] H0) (hV : mm g H0 = X) : Met l y_K_count (.code y_K_count b_K_count 2 (some .int) :: G_) { frames := 0, cells := 0, slots := 0, locals := 0 } (sx_Pc [.ref x, .int (nI (0))] H0 D g) (px_Q g (fun _ => False) H0 (nI tl) (fun H => mm g H = X)) 0 0 (fun _ => False) := by
  refine px_mi (own := R_K) (by decide) rfl (Nat.le_of_ble_eq_true rfl) ?_
  intro p e s m args below meth c Q ls EE hl hret
  obtain ⟨hx, hb, hml, hown, hts, hG, hK⟩ := id EE
  have hS : sx_S g (fun _ => False) (fun _ => False) H0 H0 [] := sx_S.rf
  have hl : lv_has ls 2 [(0, .ref x), (1, .int (nI (0)))] := hl
  refine lv_iload_n hx hb d_K_count_0 rfl (lv_at hl 1 rfl) ?_
  refine lv_tableIn (off := 55) (tgt := 56) hx hb d_K_count_1 (by decide +kernel) (by decide +kernel) (by decide +kernel) (by decide) ?_
  refine lv_aload_n hx hb d_K_count_56 rfl (lv_at hl 0 rfl) ?_
  refine sx_get (v := .ref ta) EE hX rfl i_K 6 (by decide) rfl fl_K_54 rfl d_K_count_57 ?_
  refine sx_getN (v := .int (nI (tl))) EE hT rfl i_Ro 1 (by decide) rfl fn_K_76 rfl d_K_count_60 ?_
  exact hret _ _ _ _ hV hS d_K_count_63
set_option maxHeartbeats 4000000 in
set_option maxRecDepth 100000 in
theorem v_K_count_1 {l : Launch} {D : va_G} {g : ClassId → FieldType → Prop} {H0 : Heap} {X : vM} {x kA re ve ta ma kc rl : Nat} {kq : Nat → Nat → Nat} {sg za : Int32} {bt tl bm ml : Nat} (hX : va_P D classes [(x, .inr (1, [.ref kA, .ref re, .ref ve, .ref (kq 1 99), .ref (kq 2 99), .ref (kq 7 99), .ref ta, .ref ma, .int (nI (kc)), .int (nI (rl)), .int sg, .int za]))] H0) (hT : va_P D classes [(ta, .inr (9, [.ref bt, .int (nI (tl))]))] H0) (hM : va_P D classes [(ma, .inr (9, [.ref bm, .int (nI (ml))]))] H0) (hV : mm g H0 = X) : Met l y_K_count (.code y_K_count b_K_count 2 (some .int) :: G_) { frames := 0, cells := 0, slots := 0, locals := 0 } (sx_Pc [.ref x, .int (nI (1))] H0 D g) (px_Q g (fun _ => False) H0 (nI kc) (fun H => mm g H = X)) 0 0 (fun _ => False) := by
  refine px_mi (own := R_K) (by decide) rfl (Nat.le_of_ble_eq_true rfl) ?_
  intro p e s m args below meth c Q ls EE hl hret
  obtain ⟨hx, hb, hml, hown, hts, hG, hK⟩ := id EE
  have hS : sx_S g (fun _ => False) (fun _ => False) H0 H0 [] := sx_S.rf
  have hl : lv_has ls 2 [(0, .ref x), (1, .int (nI (1)))] := hl
  refine lv_iload_n hx hb d_K_count_0 rfl (lv_at hl 1 rfl) ?_
  refine lv_tableIn (off := 63) (tgt := 64) hx hb d_K_count_1 (by decide +kernel) (by decide +kernel) (by decide +kernel) (by decide) ?_
  refine lv_aload_n hx hb d_K_count_64 rfl (lv_at hl 0 rfl) ?_
  refine sx_get (v := .int (nI (kc))) EE hX rfl i_K 8 (by decide) rfl fl_K_88 rfl d_K_count_65 ?_
  exact hret _ _ _ _ hV hS d_K_count_68
set_option maxHeartbeats 4000000 in
set_option maxRecDepth 100000 in
theorem v_K_count_2 {l : Launch} {D : va_G} {g : ClassId → FieldType → Prop} {H0 : Heap} {X : vM} {x kA re ve ta ma kc rl : Nat} {kq : Nat → Nat → Nat} {sg za : Int32} {bt tl bm ml : Nat} (hX : va_P D classes [(x, .inr (1, [.ref kA, .ref re, .ref ve, .ref (kq 1 99), .ref (kq 2 99), .ref (kq 7 99), .ref ta, .ref ma, .int (nI (kc)), .int (nI (rl)), .int sg, .int za]))] H0) (hT : va_P D classes [(ta, .inr (9, [.ref bt, .int (nI (tl))]))] H0) (hM : va_P D classes [(ma, .inr (9, [.ref bm, .int (nI (ml))]))] H0) (hV : mm g H0 = X) : Met l y_K_count (.code y_K_count b_K_count 2 (some .int) :: G_) { frames := 0, cells := 0, slots := 0, locals := 0 } (sx_Pc [.ref x, .int (nI (2))] H0 D g) (px_Q g (fun _ => False) H0 (nI ml) (fun H => mm g H = X)) 0 0 (fun _ => False) := by
  refine px_mi (own := R_K) (by decide) rfl (Nat.le_of_ble_eq_true rfl) ?_
  intro p e s m args below meth c Q ls EE hl hret
  obtain ⟨hx, hb, hml, hown, hts, hG, hK⟩ := id EE
  have hS : sx_S g (fun _ => False) (fun _ => False) H0 H0 [] := sx_S.rf
  have hl : lv_has ls 2 [(0, .ref x), (1, .int (nI (2)))] := hl
  refine lv_iload_n hx hb d_K_count_0 rfl (lv_at hl 1 rfl) ?_
  refine lv_tableIn (off := 68) (tgt := 69) hx hb d_K_count_1 (by decide +kernel) (by decide +kernel) (by decide +kernel) (by decide) ?_
  refine lv_aload_n hx hb d_K_count_69 rfl (lv_at hl 0 rfl) ?_
  refine sx_get (v := .ref ma) EE hX rfl i_K 7 (by decide) rfl fl_K_58 rfl d_K_count_70 ?_
  refine sx_getN (v := .int (nI (ml))) EE hM rfl i_Ro 1 (by decide) rfl fn_K_76 rfl d_K_count_73 ?_
  exact hret _ _ _ _ hV hS d_K_count_76
set_option maxHeartbeats 4000000 in
set_option maxRecDepth 100000 in
theorem v_K_count_3 {l : Launch} {D : va_G} {g : ClassId → FieldType → Prop} {H0 : Heap} {X : vM} {x kA re ve ta ma kc rl : Nat} {kq : Nat → Nat → Nat} {sg za : Int32} {bt tl bm ml : Nat} (hX : va_P D classes [(x, .inr (1, [.ref kA, .ref re, .ref ve, .ref (kq 1 99), .ref (kq 2 99), .ref (kq 7 99), .ref ta, .ref ma, .int (nI (kc)), .int (nI (rl)), .int sg, .int za]))] H0) (hT : va_P D classes [(ta, .inr (9, [.ref bt, .int (nI (tl))]))] H0) (hM : va_P D classes [(ma, .inr (9, [.ref bm, .int (nI (ml))]))] H0) (hV : mm g H0 = X) : Met l y_K_count (.code y_K_count b_K_count 2 (some .int) :: G_) { frames := 0, cells := 0, slots := 0, locals := 0 } (sx_Pc [.ref x, .int (nI (3))] H0 D g) (px_Q g (fun _ => False) H0 (nI rl) (fun H => mm g H = X)) 0 0 (fun _ => False) := by
  refine px_mi (own := R_K) (by decide) rfl (Nat.le_of_ble_eq_true rfl) ?_
  intro p e s m args below meth c Q ls EE hl hret
  obtain ⟨hx, hb, hml, hown, hts, hG, hK⟩ := id EE
  have hS : sx_S g (fun _ => False) (fun _ => False) H0 H0 [] := sx_S.rf
  have hl : lv_has ls 2 [(0, .ref x), (1, .int (nI (3)))] := hl
  refine lv_iload_n hx hb d_K_count_0 rfl (lv_at hl 1 rfl) ?_
  refine lv_tableIn (off := 76) (tgt := 77) hx hb d_K_count_1 (by decide +kernel) (by decide +kernel) (by decide +kernel) (by decide) ?_
  refine lv_aload_n hx hb d_K_count_77 rfl (lv_at hl 0 rfl) ?_
  refine sx_get (v := .int (nI (rl))) EE hX rfl i_K 9 (by decide) rfl fl_K_123 rfl d_K_count_78 ?_
  exact hret _ _ _ _ hV hS d_K_count_81
set_option maxHeartbeats 4000000 in
set_option maxRecDepth 100000 in
theorem v_K_count_4 {l : Launch} {D : va_G} {g : ClassId → FieldType → Prop} {H0 : Heap} {X : vM} {x kA re ve ta ma kc rl : Nat} {kq : Nat → Nat → Nat} {sg za : Int32} {bt tl bm ml : Nat} (hX : va_P D classes [(x, .inr (1, [.ref kA, .ref re, .ref ve, .ref (kq 1 99), .ref (kq 2 99), .ref (kq 7 99), .ref ta, .ref ma, .int (nI (kc)), .int (nI (rl)), .int sg, .int za]))] H0) (hT : va_P D classes [(ta, .inr (9, [.ref bt, .int (nI (tl))]))] H0) (hM : va_P D classes [(ma, .inr (9, [.ref bm, .int (nI (ml))]))] H0) (hV : mm g H0 = X) : Met l y_K_count (.code y_K_count b_K_count 2 (some .int) :: G_) { frames := 0, cells := 0, slots := 0, locals := 0 } (sx_Pc [.ref x, .int (nI (4))] H0 D g) (px_Q g (fun _ => False) H0 (sg) (fun H => mm g H = X)) 0 0 (fun _ => False) := by
  refine px_mi (own := R_K) (by decide) rfl (Nat.le_of_ble_eq_true rfl) ?_
  intro p e s m args below meth c Q ls EE hl hret
  obtain ⟨hx, hb, hml, hown, hts, hG, hK⟩ := id EE
  have hS : sx_S g (fun _ => False) (fun _ => False) H0 H0 [] := sx_S.rf
  have hl : lv_has ls 2 [(0, .ref x), (1, .int (nI (4)))] := hl
  refine lv_iload_n hx hb d_K_count_0 rfl (lv_at hl 1 rfl) ?_
  refine lv_tableIn (off := 81) (tgt := 82) hx hb d_K_count_1 (by decide +kernel) (by decide +kernel) (by decide +kernel) (by decide) ?_
  refine lv_aload_n hx hb d_K_count_82 rfl (lv_at hl 0 rfl) ?_
  refine sx_get (v := .int sg) EE hX rfl i_K 10 (by decide) rfl fl_K_141 rfl d_K_count_83 ?_
  exact hret _ _ _ _ hV hS d_K_count_86
set_option maxHeartbeats 4000000 in
set_option maxRecDepth 100000 in
theorem v_K_count_5 {l : Launch} {D : va_G} {g : ClassId → FieldType → Prop} {H0 : Heap} {X : vM} {x kA re ve ta ma kc rl : Nat} {kq : Nat → Nat → Nat} {sg za : Int32} {bt tl bm ml : Nat} (hX : va_P D classes [(x, .inr (1, [.ref kA, .ref re, .ref ve, .ref (kq 1 99), .ref (kq 2 99), .ref (kq 7 99), .ref ta, .ref ma, .int (nI (kc)), .int (nI (rl)), .int sg, .int za]))] H0) (hT : va_P D classes [(ta, .inr (9, [.ref bt, .int (nI (tl))]))] H0) (hM : va_P D classes [(ma, .inr (9, [.ref bm, .int (nI (ml))]))] H0) (f2 : sx_A g .int H0 ve 4) (hV : mm g H0 = X) : Met l y_K_count (.code y_K_count b_K_count 2 (some .int) :: G_) { frames := 0, cells := 0, slots := 0, locals := 0 } (sx_Pc [.ref x, .int (nI (5))] H0 D g) (px_Q g (fun _ => False) H0 (X.2 ve 0) (fun H => mm g H = X)) 0 0 (fun _ => False) := by
  refine px_mi (own := R_K) (by decide) rfl (Nat.le_of_ble_eq_true rfl) ?_
  intro p e s m args below meth c Q ls EE hl hret
  obtain ⟨hx, hb, hml, hown, hts, hG, hK⟩ := id EE
  have hS : sx_S g (fun _ => False) (fun _ => False) H0 H0 [] := sx_S.rf
  have hl : lv_has ls 2 [(0, .ref x), (1, .int (nI (5)))] := hl
  refine lv_iload_n hx hb d_K_count_0 rfl (lv_at hl 1 rfl) ?_
  refine lv_tableIn (off := 86) (tgt := 87) hx hb d_K_count_1 (by decide +kernel) (by decide +kernel) (by decide +kernel) (by decide) ?_
  refine lv_aload_n hx hb d_K_count_87 rfl (lv_at hl 0 rfl) ?_
  refine sx_get (v := .ref ve) EE hX rfl i_K 2 (by decide) rfl fl_K_22 rfl d_K_count_88 ?_
  refine lv_iload_n hx hb d_K_count_91 rfl (lv_at hl 1 rfl) ?_
  refine lv_iconst (v := nI 5) hx hb d_K_count_92 (by decide +kernel) ?_
  refine lv_isub hx hb d_K_count_93 ?_
  refine sx_ti (y := nI (0)) (pk_sub (by omega)) ?_
  refine vx_iald hx hb hG hS hV f2 (by omega) (by decide) d_K_count_94 ?_
  exact hret _ _ _ _ hV hS d_K_count_95
set_option maxHeartbeats 4000000 in
set_option maxRecDepth 100000 in
theorem v_K_count_6 {l : Launch} {D : va_G} {g : ClassId → FieldType → Prop} {H0 : Heap} {X : vM} {x kA re ve ta ma kc rl : Nat} {kq : Nat → Nat → Nat} {sg za : Int32} {bt tl bm ml : Nat} (hX : va_P D classes [(x, .inr (1, [.ref kA, .ref re, .ref ve, .ref (kq 1 99), .ref (kq 2 99), .ref (kq 7 99), .ref ta, .ref ma, .int (nI (kc)), .int (nI (rl)), .int sg, .int za]))] H0) (hT : va_P D classes [(ta, .inr (9, [.ref bt, .int (nI (tl))]))] H0) (hM : va_P D classes [(ma, .inr (9, [.ref bm, .int (nI (ml))]))] H0) (f2 : sx_A g .int H0 ve 4) (hV : mm g H0 = X) : Met l y_K_count (.code y_K_count b_K_count 2 (some .int) :: G_) { frames := 0, cells := 0, slots := 0, locals := 0 } (sx_Pc [.ref x, .int (nI (6))] H0 D g) (px_Q g (fun _ => False) H0 (X.2 ve 1) (fun H => mm g H = X)) 0 0 (fun _ => False) := by
  refine px_mi (own := R_K) (by decide) rfl (Nat.le_of_ble_eq_true rfl) ?_
  intro p e s m args below meth c Q ls EE hl hret
  obtain ⟨hx, hb, hml, hown, hts, hG, hK⟩ := id EE
  have hS : sx_S g (fun _ => False) (fun _ => False) H0 H0 [] := sx_S.rf
  have hl : lv_has ls 2 [(0, .ref x), (1, .int (nI (6)))] := hl
  refine lv_iload_n hx hb d_K_count_0 rfl (lv_at hl 1 rfl) ?_
  refine lv_tableIn (off := 86) (tgt := 87) hx hb d_K_count_1 (by decide +kernel) (by decide +kernel) (by decide +kernel) (by decide) ?_
  refine lv_aload_n hx hb d_K_count_87 rfl (lv_at hl 0 rfl) ?_
  refine sx_get (v := .ref ve) EE hX rfl i_K 2 (by decide) rfl fl_K_22 rfl d_K_count_88 ?_
  refine lv_iload_n hx hb d_K_count_91 rfl (lv_at hl 1 rfl) ?_
  refine lv_iconst (v := nI 5) hx hb d_K_count_92 (by decide +kernel) ?_
  refine lv_isub hx hb d_K_count_93 ?_
  refine sx_ti (y := nI (1)) (pk_sub (by omega)) ?_
  refine vx_iald hx hb hG hS hV f2 (by omega) (by decide) d_K_count_94 ?_
  exact hret _ _ _ _ hV hS d_K_count_95
set_option maxHeartbeats 4000000 in
set_option maxRecDepth 100000 in
theorem v_K_count_7 {l : Launch} {D : va_G} {g : ClassId → FieldType → Prop} {H0 : Heap} {X : vM} {x kA re ve ta ma kc rl : Nat} {kq : Nat → Nat → Nat} {sg za : Int32} {bt tl bm ml : Nat} (hX : va_P D classes [(x, .inr (1, [.ref kA, .ref re, .ref ve, .ref (kq 1 99), .ref (kq 2 99), .ref (kq 7 99), .ref ta, .ref ma, .int (nI (kc)), .int (nI (rl)), .int sg, .int za]))] H0) (hT : va_P D classes [(ta, .inr (9, [.ref bt, .int (nI (tl))]))] H0) (hM : va_P D classes [(ma, .inr (9, [.ref bm, .int (nI (ml))]))] H0) (f2 : sx_A g .int H0 ve 4) (hV : mm g H0 = X) : Met l y_K_count (.code y_K_count b_K_count 2 (some .int) :: G_) { frames := 0, cells := 0, slots := 0, locals := 0 } (sx_Pc [.ref x, .int (nI (7))] H0 D g) (px_Q g (fun _ => False) H0 (X.2 ve 2) (fun H => mm g H = X)) 0 0 (fun _ => False) := by
  refine px_mi (own := R_K) (by decide) rfl (Nat.le_of_ble_eq_true rfl) ?_
  intro p e s m args below meth c Q ls EE hl hret
  obtain ⟨hx, hb, hml, hown, hts, hG, hK⟩ := id EE
  have hS : sx_S g (fun _ => False) (fun _ => False) H0 H0 [] := sx_S.rf
  have hl : lv_has ls 2 [(0, .ref x), (1, .int (nI (7)))] := hl
  refine lv_iload_n hx hb d_K_count_0 rfl (lv_at hl 1 rfl) ?_
  refine lv_tableIn (off := 86) (tgt := 87) hx hb d_K_count_1 (by decide +kernel) (by decide +kernel) (by decide +kernel) (by decide) ?_
  refine lv_aload_n hx hb d_K_count_87 rfl (lv_at hl 0 rfl) ?_
  refine sx_get (v := .ref ve) EE hX rfl i_K 2 (by decide) rfl fl_K_22 rfl d_K_count_88 ?_
  refine lv_iload_n hx hb d_K_count_91 rfl (lv_at hl 1 rfl) ?_
  refine lv_iconst (v := nI 5) hx hb d_K_count_92 (by decide +kernel) ?_
  refine lv_isub hx hb d_K_count_93 ?_
  refine sx_ti (y := nI (2)) (pk_sub (by omega)) ?_
  refine vx_iald hx hb hG hS hV f2 (by omega) (by decide) d_K_count_94 ?_
  exact hret _ _ _ _ hV hS d_K_count_95
set_option maxHeartbeats 4000000 in
set_option maxRecDepth 100000 in
theorem v_K_count_8 {l : Launch} {D : va_G} {g : ClassId → FieldType → Prop} {H0 : Heap} {X : vM} {x kA re ve ta ma kc rl : Nat} {kq : Nat → Nat → Nat} {sg za : Int32} {bt tl bm ml : Nat} (hX : va_P D classes [(x, .inr (1, [.ref kA, .ref re, .ref ve, .ref (kq 1 99), .ref (kq 2 99), .ref (kq 7 99), .ref ta, .ref ma, .int (nI (kc)), .int (nI (rl)), .int sg, .int za]))] H0) (hT : va_P D classes [(ta, .inr (9, [.ref bt, .int (nI (tl))]))] H0) (hM : va_P D classes [(ma, .inr (9, [.ref bm, .int (nI (ml))]))] H0) (f2 : sx_A g .int H0 ve 4) (hV : mm g H0 = X) : Met l y_K_count (.code y_K_count b_K_count 2 (some .int) :: G_) { frames := 0, cells := 0, slots := 0, locals := 0 } (sx_Pc [.ref x, .int (nI (8))] H0 D g) (px_Q g (fun _ => False) H0 (X.2 ve 3) (fun H => mm g H = X)) 0 0 (fun _ => False) := by
  refine px_mi (own := R_K) (by decide) rfl (Nat.le_of_ble_eq_true rfl) ?_
  intro p e s m args below meth c Q ls EE hl hret
  obtain ⟨hx, hb, hml, hown, hts, hG, hK⟩ := id EE
  have hS : sx_S g (fun _ => False) (fun _ => False) H0 H0 [] := sx_S.rf
  have hl : lv_has ls 2 [(0, .ref x), (1, .int (nI (8)))] := hl
  refine lv_iload_n hx hb d_K_count_0 rfl (lv_at hl 1 rfl) ?_
  refine lv_tableIn (off := 86) (tgt := 87) hx hb d_K_count_1 (by decide +kernel) (by decide +kernel) (by decide +kernel) (by decide) ?_
  refine lv_aload_n hx hb d_K_count_87 rfl (lv_at hl 0 rfl) ?_
  refine sx_get (v := .ref ve) EE hX rfl i_K 2 (by decide) rfl fl_K_22 rfl d_K_count_88 ?_
  refine lv_iload_n hx hb d_K_count_91 rfl (lv_at hl 1 rfl) ?_
  refine lv_iconst (v := nI 5) hx hb d_K_count_92 (by decide +kernel) ?_
  refine lv_isub hx hb d_K_count_93 ?_
  refine sx_ti (y := nI (3)) (pk_sub (by omega)) ?_
  refine vx_iald hx hb hG hS hV f2 (by omega) (by decide) d_K_count_94 ?_
  exact hret _ _ _ _ hV hS d_K_count_95
set_option maxHeartbeats 4000000 in
set_option maxRecDepth 100000 in
theorem v_K_count_9 {l : Launch} {D : va_G} {g : ClassId → FieldType → Prop} {H0 : Heap} {X : vM} {x kA re ve ta ma kc rl : Nat} {kq : Nat → Nat → Nat} {sg za : Int32} {bt tl bm ml : Nat} (hX : va_P D classes [(x, .inr (1, [.ref kA, .ref re, .ref ve, .ref (kq 1 99), .ref (kq 2 99), .ref (kq 7 99), .ref ta, .ref ma, .int (nI (kc)), .int (nI (rl)), .int sg, .int za]))] H0) (hT : va_P D classes [(ta, .inr (9, [.ref bt, .int (nI (tl))]))] H0) (hM : va_P D classes [(ma, .inr (9, [.ref bm, .int (nI (ml))]))] H0) (hV : mm g H0 = X) : Met l y_K_count (.code y_K_count b_K_count 2 (some .int) :: G_) { frames := 0, cells := 0, slots := 0, locals := 0 } (sx_Pc [.ref x, .int (nI (9))] H0 D g) (px_Q g (fun _ => False) H0 za (fun H => mm g H = X)) 0 0 (fun _ => False) := by
  refine px_mi (own := R_K) (by decide) rfl (Nat.le_of_ble_eq_true rfl) ?_
  intro p e s m args below meth c Q ls EE hl hret
  obtain ⟨hx, hb, hml, hown, hts, hG, hK⟩ := id EE
  have hS : sx_S g (fun _ => False) (fun _ => False) H0 H0 [] := sx_S.rf
  have hl : lv_has ls 2 [(0, .ref x), (1, .int (nI (9)))] := hl
  refine lv_iload_n hx hb d_K_count_0 rfl (lv_at hl 1 rfl) ?_
  refine lv_tableIn (off := 95) (tgt := 96) hx hb d_K_count_1 (by decide +kernel) (by decide +kernel) (by decide +kernel) (by decide) ?_
  refine lv_aload_n hx hb d_K_count_96 rfl (lv_at hl 0 rfl) ?_
  refine sx_get (v := .int za) EE hX rfl i_K 11 (by decide) rfl fl_K_134 rfl d_K_count_97 ?_
  exact hret _ _ _ _ hV hS d_K_count_100
set_option maxHeartbeats 4000000 in
set_option maxRecDepth 100000 in
theorem v_K_count_x {l : Launch} {D : va_G} {g : ClassId → FieldType → Prop} {H0 : Heap} {X : vM} {x kA re ve ta ma kc rl : Nat} {kq : Nat → Nat → Nat} {sg za : Int32} {bt tl bm ml : Nat} {v0 : Int32} (hX : va_P D classes [(x, .inr (1, [.ref kA, .ref re, .ref ve, .ref (kq 1 99), .ref (kq 2 99), .ref (kq 7 99), .ref ta, .ref ma, .int (nI (kc)), .int (nI (rl)), .int sg, .int za]))] H0) (hT : va_P D classes [(ta, .inr (9, [.ref bt, .int (nI (tl))]))] H0) (hM : va_P D classes [(ma, .inr (9, [.ref bm, .int (nI (ml))]))] H0) (hw : v0.toInt < 0 ∨ 9 < v0.toInt) (hV : mm g H0 = X) : Met l y_K_count (.code y_K_count b_K_count 2 (some .int) :: G_) { frames := 0, cells := 0, slots := 0, locals := 0 } (sx_Pc [.ref x, .int v0] H0 D g) (px_Q g (fun _ => False) H0 (-1) (fun H => mm g H = X)) 0 0 (fun _ => False) := by
  refine px_mi (own := R_K) (by decide) rfl (Nat.le_of_ble_eq_true rfl) ?_
  intro p e s m args below meth c Q ls EE hl hret
  obtain ⟨hx, hb, hml, hown, hts, hG, hK⟩ := id EE
  have hS : sx_S g (fun _ => False) (fun _ => False) H0 H0 [] := sx_S.rf
  have hl : lv_has ls 2 [(0, .ref x), (1, .int v0)] := hl
  refine lv_iload_n hx hb d_K_count_0 rfl (lv_at hl 1 rfl) ?_
  refine lv_tableOut (tgt := 101) hx hb d_K_count_1 hw (by decide) ?_
  refine lv_iconst (v := (-1)) hx hb d_K_count_101 (by decide +kernel) ?_
  exact hret _ _ _ _ hV hS d_K_count_102
set_option maxHeartbeats 4000000 in
set_option maxRecDepth 100000 in
theorem v_K_feed {l : Launch} {D : va_G} {g : ClassId → FieldType → Prop} {H0 : Heap} {X : vM} {x kA re ve ta ma kc rl : Nat} {kq : Nat → Nat → Nat} {sg za : Int32} {bt nt tl : Nat} {v0 v1 v2 v3 v4 : Int32} (hX : va_P D classes [(x, .inr (1, [.ref kA, .ref re, .ref ve, .ref (kq 1 99), .ref (kq 2 99), .ref (kq 7 99), .ref ta, .ref ma, .int (nI (kc)), .int (nI (rl)), .int sg, .int za]))] H0) (hT : va_P D classes [(ta, .inr (9, [.ref bt, .int (nI (tl))]))] H0) (nxt : x ≠ ta) (fb : sx_A g .byte H0 bt nt) (lb : sx_L H0 bt nt) (ht : tl ≤ nt) (hn : 64 ≤ nt ∧ nt ≤ 65536) (hw : tl + 20 ≤ 65536) (hnp : tl + 20 ≤ nt ∨ 2 * nt ≤ 65536) (hV : mm g H0 = X) : Met l y_K_feed (.code y_K_feed b_K_feed 6 (some .int) :: G_) { frames := 4, cells := gC tl 20 nt, slots := gS tl 20 nt, locals := 220 } (sx_Pc [.ref x, .int v0, .int v1, .int v2, .int v3, .int v4] H0 D g) (px_Q g (fun z => z = ta ∨ z = bt ∨ H0.size ≤ z) H0 (nI (tl + 20)) (RwP D g H0 X ta bt nt tl 20 (nb20 v0 v1 v2 v3 v4))) (gC tl 20 nt) (gS tl 20 nt) (fun z => z = ta ∨ z = bt ∨ H0.size ≤ z) := by
  refine px_miA (own := R_K) (by decide) rfl (Nat.le_of_ble_eq_true rfl) ?_
  intro p e s m args below meth c Q ls EE hl hret
  obtain ⟨hx, hb, hml, hown, hts, hG, hK⟩ := id EE
  have hS : sx_S g (fun z => z = ta ∨ z = bt ∨ H0.size ≤ z) (fun z => z = ta ∨ z = bt ∨ H0.size ≤ z) H0 H0 [] := sx_S.rf
  have hl : lv_has ls 6 [(0, .ref x), (1, .int v0), (2, .int v1), (3, .int v2), (4, .int v3), (5, .int v4)] := hl
  refine lv_aload_n hx hb d_K_feed_0 rfl (lv_at hl 0 rfl) ?_
  refine sx_get (v := .ref ta) EE hX rfl i_K 6 (by decide) rfl fl_K_54 rfl d_K_feed_1 ?_
  refine lv_bipush (v := nI 20) hx hb d_K_feed_4 (by decide +kernel) ?_
  refine px_gi (E' := (fun _ => False)) (V := nI (if tl + 20 ≤ 65536 then 1 else 0)) (P := fun H => mm g H = X) (sx_runV (As := [.int (nI 20)]) (rest := []) EE hT rfl rfl (v_Ro_hasRoomFor hT (by omega) (by omega) hV) w_K_61 rfl ⟨rfl, rfl⟩ ⟨Nat.le_of_ble_eq_true rfl, Nat.le_of_ble_eq_true rfl⟩ ⟨Nat.zero_le _, Nat.zero_le _⟩ hl.1 rfl (Nat.le_of_ble_eq_true rfl) d_K_feed_6) (fun _ h => h.elim) hS (fun H locs hJ hP hS => ?_)
  have hX := hJ.ob id hX
  have hT := hJ.ob id hT
  refine sx_ti (y := nI 1) (by rw [if_pos hw]) ?_
  have hV := hP
  have z1 : H0.size ≤ H.size := hS.1.1
  have fb1 := hS.1.2.2.1 _ _ _ fb
  have lb1 := hS.1.2.2.2 _ _ lb
  refine lv_if_ne (tgt := 22) hx hb d_K_feed_9 (by decide) (fun _ => ?_) (fun q9_0 => absurd (show 1 = 0 by have q9_0 : 1 = 0 := (nI_eq (a := 1) (b := 0) (by omega) (by omega)).mp q9_0; exact q9_0) (by decide))
  refine lv_aload_n hx hb d_K_feed_22 rfl (lv_at hl 0 rfl) ?_
  refine sx_get (v := .ref ta) EE hX rfl i_K 6 (by decide) rfl fl_K_54 rfl d_K_feed_23 ?_
  refine lv_iload_n hx hb d_K_feed_26 rfl (lv_at hl 1 rfl) ?_
  refine px_gvA (cells' := gC tl 4 nt) (slots' := gS tl 4 nt) (sx_runVA (As := [.int v0]) (rest := []) EE hT rfl rfl (v_Ro_appendNumber (X := mm g H) hT fb1 lb1 (by omega) (by omega) rfl) w_K_72 rfl ⟨rfl, rfl⟩ ⟨Nat.le_of_ble_eq_true rfl, Nat.le_of_ble_eq_true rfl⟩ ⟨by show 0 + gC tl 4 nt ≤ gC tl 20 nt; have := gC_le (t := tl) (n := nt) (show 4 ≤ 20 by decide); omega, by show 0 + gS tl 4 nt ≤ gS tl 20 nt; have := gC_le (t := tl) (n := nt) (show 4 ≤ 20 by decide); omega⟩ hl.1 rfl (Nat.le_of_ble_eq_true rfl) d_K_feed_27) (fun z h => by rcases h with h | h | h; exact Or.inl h; exact Or.inr (Or.inl h); exact Or.inr (Or.inr (by omega))) hS (by omega) (by omega) (fun H1 locs hJ hP hS => ?_)
  have hX := hJ.ob (fun h => by rcases h with h | h | h; exact nxt h; exact vx_ne hG hK.1 hX fb1 h.symm; exact absurd (hX 0 _ rfl).lt (Nat.not_lt.mpr h)) hX
  have zz1 : H.size ≤ H1.size := hJ.1
  have hP : RwP D g H0 X ta bt nt tl 4 (nb4 v0) H1 := by
    obtain ⟨q, n, p1, p2, p3, p4, p5, p6, p7, p8⟩ := hP
    rw [hV] at p6 p8
    exact ⟨q, n, p1, p2, p3, p4, fun h => ⟨Nat.le_trans z1 (p5 h).1, (p5 h).2⟩, p6, p7, fun c hc => p8 c (Nat.lt_of_lt_of_le hc z1)⟩
  have zs1 : H0.size ≤ H1.size := hS.1.1
  have hP0 := hP
  obtain ⟨q1, n1, hT, fa1, la1, c1_1, c2_1, vl1, nw1, rs1⟩ := hP
  have gt1 : gC tl 4 nt + gC (tl + 4) 4 n1 = gC tl 8 nt ∧ gS tl 4 nt + gS (tl + 4) 4 n1 = gS tl 8 nt := gC_tr (k := 4) (k2 := 4) ht hn.1 (by decide) (fun h => (c1_1 h).2) (fun h => (c2_1 h).2)
  have eq1 : q1 = ta ∨ q1 = bt ∨ H0.size ≤ q1 := by
    by_cases hc : tl + 4 ≤ nt
    · exact Or.inr (Or.inl (c1_1 hc).1)
    · exact Or.inr (Or.inr (c2_1 (by omega)).1)
  have hn1 : tl + 4 ≤ n1 ∧ 64 ≤ n1 ∧ n1 ≤ 65536 := by
    by_cases hc : tl + 4 ≤ nt
    · have := (c1_1 hc).2
      omega
    · have := (c2_1 (by omega)).2
      omega
  have hT : va_P D classes [(ta, .inr (9, [.ref q1, .int (nI (tl + 4))]))] H1 := hT
  clear hV
  refine lv_aload_n hx hb d_K_feed_30 rfl (lv_at hl 0 rfl) ?_
  refine sx_get (v := .ref ta) EE hX rfl i_K 6 (by decide) rfl fl_K_54 rfl d_K_feed_31 ?_
  refine lv_iload_n hx hb d_K_feed_34 rfl (lv_at hl 2 rfl) ?_
  refine px_gvA (cells' := gC tl 8 nt) (slots' := gS tl 8 nt) (sx_runVA (As := [.int v1]) (rest := []) EE hT rfl rfl (v_Ro_appendNumber (X := mm g H1) hT fa1 la1 (by omega) (by omega) rfl) w_K_72 rfl ⟨rfl, rfl⟩ ⟨Nat.le_of_ble_eq_true rfl, Nat.le_of_ble_eq_true rfl⟩ ⟨by show gC tl 4 nt + gC (tl + 4) 4 n1 ≤ gC tl 20 nt; have := gC_le (t := tl) (n := nt) (show 8 ≤ 20 by decide); have := gt1.1; omega, by show gS tl 4 nt + gS (tl + 4) 4 n1 ≤ gS tl 20 nt; have := gC_le (t := tl) (n := nt) (show 8 ≤ 20 by decide); have := gt1.2; omega⟩ hl.1 rfl (Nat.le_of_ble_eq_true rfl) d_K_feed_35) (fun z h => by rcases h with h | h | h; exact Or.inl h; subst h; exact eq1; exact Or.inr (Or.inr (by omega))) hS gt1.1 gt1.2 (fun H2 locs hJ hP hS => ?_)
  have hX := hJ.ob (fun h => by rcases h with h | h | h; exact nxt h; exact vx_ne hG hK.1 hX fa1 h.symm; exact absurd (hX 0 _ rfl).lt (Nat.not_lt.mpr h)) hX
  have zz2 : H1.size ≤ H2.size := hJ.1
  have hP := Rw_tr zs1 (sx_A.lt fa1) ht hn.1 (by decide) c1_1 c2_1 vl1 nw1 rs1 hP
  have zs2 : H0.size ≤ H2.size := hS.1.1
  have hP0 := hP
  obtain ⟨q2, n2, hT, fa2, la2, c1_2, c2_2, vl2, nw2, rs2⟩ := hP
  have gt2 : gC tl 8 nt + gC (tl + 8) 4 n2 = gC tl 12 nt ∧ gS tl 8 nt + gS (tl + 8) 4 n2 = gS tl 12 nt := gC_tr (k := 8) (k2 := 4) ht hn.1 (by decide) (fun h => (c1_2 h).2) (fun h => (c2_2 h).2)
  have eq2 : q2 = ta ∨ q2 = bt ∨ H0.size ≤ q2 := by
    by_cases hc : tl + 8 ≤ nt
    · exact Or.inr (Or.inl (c1_2 hc).1)
    · exact Or.inr (Or.inr (c2_2 (by omega)).1)
  have hn2 : tl + 8 ≤ n2 ∧ 64 ≤ n2 ∧ n2 ≤ 65536 := by
    by_cases hc : tl + 8 ≤ nt
    · have := (c1_2 hc).2
      omega
    · have := (c2_2 (by omega)).2
      omega
  have hT : va_P D classes [(ta, .inr (9, [.ref q2, .int (nI (tl + 8))]))] H2 := hT
  refine lv_aload_n hx hb d_K_feed_38 rfl (lv_at hl 0 rfl) ?_
  refine sx_get (v := .ref ta) EE hX rfl i_K 6 (by decide) rfl fl_K_54 rfl d_K_feed_39 ?_
  refine lv_iload_n hx hb d_K_feed_42 rfl (lv_at hl 3 rfl) ?_
  refine px_gvA (cells' := gC tl 12 nt) (slots' := gS tl 12 nt) (sx_runVA (As := [.int v2]) (rest := []) EE hT rfl rfl (v_Ro_appendNumber (X := mm g H2) hT fa2 la2 (by omega) (by omega) rfl) w_K_72 rfl ⟨rfl, rfl⟩ ⟨Nat.le_of_ble_eq_true rfl, Nat.le_of_ble_eq_true rfl⟩ ⟨by show gC tl 8 nt + gC (tl + 8) 4 n2 ≤ gC tl 20 nt; have := gC_le (t := tl) (n := nt) (show 12 ≤ 20 by decide); have := gt2.1; omega, by show gS tl 8 nt + gS (tl + 8) 4 n2 ≤ gS tl 20 nt; have := gC_le (t := tl) (n := nt) (show 12 ≤ 20 by decide); have := gt2.2; omega⟩ hl.1 rfl (Nat.le_of_ble_eq_true rfl) d_K_feed_43) (fun z h => by rcases h with h | h | h; exact Or.inl h; subst h; exact eq2; exact Or.inr (Or.inr (by omega))) hS gt2.1 gt2.2 (fun H3 locs hJ hP hS => ?_)
  have hX := hJ.ob (fun h => by rcases h with h | h | h; exact nxt h; exact vx_ne hG hK.1 hX fa2 h.symm; exact absurd (hX 0 _ rfl).lt (Nat.not_lt.mpr h)) hX
  have zz3 : H2.size ≤ H3.size := hJ.1
  have hP := Rw_tr zs2 (sx_A.lt fa2) ht hn.1 (by decide) c1_2 c2_2 vl2 nw2 rs2 hP
  have zs3 : H0.size ≤ H3.size := hS.1.1
  have hP0 := hP
  obtain ⟨q3, n3, hT, fa3, la3, c1_3, c2_3, vl3, nw3, rs3⟩ := hP
  have gt3 : gC tl 12 nt + gC (tl + 12) 4 n3 = gC tl 16 nt ∧ gS tl 12 nt + gS (tl + 12) 4 n3 = gS tl 16 nt := gC_tr (k := 12) (k2 := 4) ht hn.1 (by decide) (fun h => (c1_3 h).2) (fun h => (c2_3 h).2)
  have eq3 : q3 = ta ∨ q3 = bt ∨ H0.size ≤ q3 := by
    by_cases hc : tl + 12 ≤ nt
    · exact Or.inr (Or.inl (c1_3 hc).1)
    · exact Or.inr (Or.inr (c2_3 (by omega)).1)
  have hn3 : tl + 12 ≤ n3 ∧ 64 ≤ n3 ∧ n3 ≤ 65536 := by
    by_cases hc : tl + 12 ≤ nt
    · have := (c1_3 hc).2
      omega
    · have := (c2_3 (by omega)).2
      omega
  have hT : va_P D classes [(ta, .inr (9, [.ref q3, .int (nI (tl + 12))]))] H3 := hT
  refine lv_aload_n hx hb d_K_feed_46 rfl (lv_at hl 0 rfl) ?_
  refine sx_get (v := .ref ta) EE hX rfl i_K 6 (by decide) rfl fl_K_54 rfl d_K_feed_47 ?_
  refine lv_iload hx hb d_K_feed_50 (lv_at hl 4 rfl) ?_
  refine px_gvA (cells' := gC tl 16 nt) (slots' := gS tl 16 nt) (sx_runVA (As := [.int v3]) (rest := []) EE hT rfl rfl (v_Ro_appendNumber (X := mm g H3) hT fa3 la3 (by omega) (by omega) rfl) w_K_72 rfl ⟨rfl, rfl⟩ ⟨Nat.le_of_ble_eq_true rfl, Nat.le_of_ble_eq_true rfl⟩ ⟨by show gC tl 12 nt + gC (tl + 12) 4 n3 ≤ gC tl 20 nt; have := gC_le (t := tl) (n := nt) (show 16 ≤ 20 by decide); have := gt3.1; omega, by show gS tl 12 nt + gS (tl + 12) 4 n3 ≤ gS tl 20 nt; have := gC_le (t := tl) (n := nt) (show 16 ≤ 20 by decide); have := gt3.2; omega⟩ hl.1 rfl (Nat.le_of_ble_eq_true rfl) d_K_feed_52) (fun z h => by rcases h with h | h | h; exact Or.inl h; subst h; exact eq3; exact Or.inr (Or.inr (by omega))) hS gt3.1 gt3.2 (fun H4 locs hJ hP hS => ?_)
  have hX := hJ.ob (fun h => by rcases h with h | h | h; exact nxt h; exact vx_ne hG hK.1 hX fa3 h.symm; exact absurd (hX 0 _ rfl).lt (Nat.not_lt.mpr h)) hX
  have zz4 : H3.size ≤ H4.size := hJ.1
  have hP := Rw_tr zs3 (sx_A.lt fa3) ht hn.1 (by decide) c1_3 c2_3 vl3 nw3 rs3 hP
  have zs4 : H0.size ≤ H4.size := hS.1.1
  have hP0 := hP
  obtain ⟨q4, n4, hT, fa4, la4, c1_4, c2_4, vl4, nw4, rs4⟩ := hP
  have gt4 : gC tl 16 nt + gC (tl + 16) 4 n4 = gC tl 20 nt ∧ gS tl 16 nt + gS (tl + 16) 4 n4 = gS tl 20 nt := gC_tr (k := 16) (k2 := 4) ht hn.1 (by decide) (fun h => (c1_4 h).2) (fun h => (c2_4 h).2)
  have eq4 : q4 = ta ∨ q4 = bt ∨ H0.size ≤ q4 := by
    by_cases hc : tl + 16 ≤ nt
    · exact Or.inr (Or.inl (c1_4 hc).1)
    · exact Or.inr (Or.inr (c2_4 (by omega)).1)
  have hn4 : tl + 16 ≤ n4 ∧ 64 ≤ n4 ∧ n4 ≤ 65536 := by
    by_cases hc : tl + 16 ≤ nt
    · have := (c1_4 hc).2
      omega
    · have := (c2_4 (by omega)).2
      omega
  have hT : va_P D classes [(ta, .inr (9, [.ref q4, .int (nI (tl + 16))]))] H4 := hT
  refine lv_aload_n hx hb d_K_feed_55 rfl (lv_at hl 0 rfl) ?_
  refine sx_get (v := .ref ta) EE hX rfl i_K 6 (by decide) rfl fl_K_54 rfl d_K_feed_56 ?_
  refine lv_iload hx hb d_K_feed_59 (lv_at hl 5 rfl) ?_
  refine px_gvA (cells' := gC tl 20 nt) (slots' := gS tl 20 nt) (sx_runVA (As := [.int v4]) (rest := []) EE hT rfl rfl (v_Ro_appendNumber (X := mm g H4) hT fa4 la4 (by omega) (by omega) rfl) w_K_72 rfl ⟨rfl, rfl⟩ ⟨Nat.le_of_ble_eq_true rfl, Nat.le_of_ble_eq_true rfl⟩ ⟨by show gC tl 16 nt + gC (tl + 16) 4 n4 ≤ gC tl 20 nt; have := gC_le (t := tl) (n := nt) (show 20 ≤ 20 by decide); have := gt4.1; omega, by show gS tl 16 nt + gS (tl + 16) 4 n4 ≤ gS tl 20 nt; have := gC_le (t := tl) (n := nt) (show 20 ≤ 20 by decide); have := gt4.2; omega⟩ hl.1 rfl (Nat.le_of_ble_eq_true rfl) d_K_feed_61) (fun z h => by rcases h with h | h | h; exact Or.inl h; subst h; exact eq4; exact Or.inr (Or.inr (by omega))) hS gt4.1 gt4.2 (fun H5 locs hJ hP hS => ?_)
  have hX := hJ.ob (fun h => by rcases h with h | h | h; exact nxt h; exact vx_ne hG hK.1 hX fa4 h.symm; exact absurd (hX 0 _ rfl).lt (Nat.not_lt.mpr h)) hX
  have zz5 : H4.size ≤ H5.size := hJ.1
  have hP := Rw_tr zs4 (sx_A.lt fa4) ht hn.1 (by decide) c1_4 c2_4 vl4 nw4 rs4 hP
  have zs5 : H0.size ≤ H5.size := hS.1.1
  have hPf := hP
  obtain ⟨q5, n5, hT, -⟩ := hP
  have hT : va_P D classes [(ta, .inr (9, [.ref q5, .int (nI (tl + 20))]))] H5 := hT
  refine lv_aload_n hx hb d_K_feed_64 rfl (lv_at hl 0 rfl) ?_
  refine sx_get (v := .ref ta) EE hX rfl i_K 6 (by decide) rfl fl_K_54 rfl d_K_feed_65 ?_
  refine sx_getN (v := .int (nI (tl + 20))) EE hT rfl i_Ro 1 (by decide) rfl fn_K_76 rfl d_K_feed_68 ?_
  exact hret _ _ _ _ hPf hS d_K_feed_71
