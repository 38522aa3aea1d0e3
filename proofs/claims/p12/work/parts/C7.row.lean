theorem sx_A.lt {g : ClassId → FieldType → Prop} {t : FieldType} {H : Heap} {a n : Nat} (h : sx_A g t H a n) : a < H.size := by
  obtain ⟨cell, h1, -⟩ := h
  exact (Array.getElem?_eq_some_iff.mp h1).1
theorem nb_i8 (y : Int32) : y.toInt8.toInt32.toInt8.toInt32 = y.toInt8.toInt32 := by
  rw [i8_by y]
  exact isB_i8 (isB_by8 _)
theorem st_nb4 (X : vM) (q t : Nat) (v : Int32) : stI (stI (stI (stI X q t ((v >>> ((nI 24) &&& 31)).toInt8.toInt32).toInt8.toInt32) q (t + 1) ((v >>> ((nI 16) &&& 31)).toInt8.toInt32).toInt8.toInt32) q (t + 2) ((v >>> ((nI 8) &&& 31)).toInt8.toInt32).toInt8.toInt32) q (t + 3) (v.toInt8.toInt32).toInt8.toInt32 = stI (stI (stI (stI X q t (nb4 v 0)) q (t + 1) (nb4 v 1)) q (t + 2) (nb4 v 2)) q (t + 3) (nb4 v 3) := by
  have e3 : nb4 v 3 = v.toInt8.toInt32 := by
    unfold nb4
    congr 2
    apply Int32.toBitVec_inj.mp
    show v.toBitVec.sshiftRight' _ = v.toBitVec
    rw [show (nI (8 * (3 - 3)) &&& 31 : Int32).toBitVec.smod 32 = BitVec.ofNat 32 0 from i3_sm 0 (by decide), BitVec.sshiftRight', BitVec.toNat_ofNat, Nat.zero_mod, BitVec.sshiftRight_zero]
  rw [nb_i8, nb_i8, nb_i8, nb_i8, e3]
  rfl
set_option maxHeartbeats 4000000 in
set_option maxRecDepth 100000 in
theorem v_JA_copyOf {l : Launch} {D : va_G} {g : ClassId → FieldType → Prop} {H0 : Heap} {X : vM} {a n k : Nat} (f0 : sx_A g .byte H0 a n) (x0 : sx_L H0 a n) (hnk : n < k) (hk : k ≤ 200000) (hV : mm g H0 = X) : Met l y_JA_copyOf (.code y_JA_copyOf b_JA_copyOf 3 (some (.array .byte)) :: G_) { frames := 1, cells := 1, slots := k, locals := 100 } (sx_Pc [.ref a, .int (nI k)] H0 D g) (px_Qr g (fun z => H0.size ≤ z) H0 (fun r H => r = H0.size ∧ mm g H = cpI X a 0 r 0 n ∧ sx_A g .byte H r k ∧ sx_L H r k)) 1 k (fun z => H0.size ≤ z) := by
  refine px_mrA (own := R_JA) (Or.inr ⟨_, rfl⟩) (by decide) rfl (Nat.le_of_ble_eq_true rfl) ?_
  intro p e s m args below meth c Q ls EE hl hret
  obtain ⟨hx, hb, hml, hown, hts, hG, hK⟩ := id EE
  have hS : sx_S g (fun z => H0.size ≤ z) (fun z => H0.size ≤ z) H0 H0 [] := sx_S.rf
  have hl : lv_has ls 3 [(0, .ref a), (1, .int (nI k))] := hl
  refine lv_iload_n hx hb d_JA_copyOf_0 rfl (lv_at hl 1 rfl) ?_
  refine lv_aload_n hx hb d_JA_copyOf_1 rfl (lv_at hl 0 rfl) ?_
  refine sx_alen hx hb hG hS f0 x0 d_JA_copyOf_2 ?_
  refine lv_icmp_ne (tgt := 14) hx hb d_JA_copyOf_3 (by decide) (fun _ => ?_) (fun q => absurd ((nI_eq (a := k) (b := n) (by omega) (by omega)).mp q) (by omega))
  refine lv_iload_n hx hb d_JA_copyOf_14 rfl (lv_at hl 1 rfl) ?_
  refine vx_newa (cells' := 1) (slots' := k) hx hb hG hts rfl (Or.inr (Or.inl rfl)) (by decide +kernel) (by omega) (by show k * 1 ≤ 536870912; omega) rfl (by omega) (Nat.le_of_ble_eq_true rfl) (Nat.le_refl k) hS hV d_JA_copyOf_15 (fun q H eq hz fa la hJ hk0 hS hV => ?_)
  refine lv_astore_n (lv' := [(2, .ref q), (0, .ref a), (1, .int (nI k))]) hx hb d_JA_copyOf_17 rfl hl (by decide) rfl (fun ls hl => ?_)
  have hJ0 := hS.1
  have hS : sx_S g (fun z => H0.size ≤ z) (fun z => H0.size ≤ z) H H _ := ⟨sx_J.rf, fun _ h => h, hS.2.2⟩
  refine lv_aload_n hx hb d_JA_copyOf_18 rfl (lv_at hl 1 rfl) ?_
  refine lv_iconst (v := nI 0) hx hb d_JA_copyOf_19 (by decide +kernel) ?_
  refine lv_aload_n hx hb d_JA_copyOf_20 rfl (lv_at hl 0 rfl) ?_
  refine lv_iconst (v := nI 0) hx hb d_JA_copyOf_21 (by decide +kernel) ?_
  refine lv_aload_n hx hb d_JA_copyOf_22 rfl (lv_at hl 1 rfl) ?_
  refine sx_alen hx hb hG hS (hJ0.2.2.1 _ _ _ f0) (hJ0.2.2.2 _ _ x0) d_JA_copyOf_23 ?_
  refine lv_iload_n hx hb d_JA_copyOf_24 rfl (lv_at hl 2 rfl) ?_
  refine va_mmin hx hb (by rw [hml]; exact hl.1.symm) hown (hts (.methodLink R_JA 304 Lib.Math.min.name) (by decide +kernel)) (hts (.static Lib.Math.min.name) (by decide +kernel)) (hts (.initialized "java/lang/Math") (by decide +kernel)) (hts _ (G_in ⟨mc_min, rfl⟩)) (Nat.le_of_ble_eq_true rfl) (Nat.le_of_ble_eq_true rfl) (Nat.le_of_ble_eq_true rfl) (Nat.le_refl k) d_JA_copyOf_25 ?_
  refine sx_ti (y := nI n) (nI_min hnk (by omega)) ?_
  refine vx_cpyB hx hb (by rw [hml]; exact hl.1.symm) hown (hts (.methodLink R_JA 150 arraycopyName) (by decide +kernel)) (hts (.native arraycopyName) (by decide +kernel)) (hts (.static arraycopyName) (by decide +kernel)) (hts (.initialized "java/lang/System") (by decide +kernel)) hG hS hV (hJ0.2.2.1 _ _ _ f0) fa (by show H0.size ≤ q; omega) (by omega) (by omega) (by omega) (by omega) (Nat.le_of_ble_eq_true rfl) (Nat.le_of_ble_eq_true rfl) d_JA_copyOf_28 (fun H1 locs X1 eX hS hV => ?_)
  refine lv_aload_n hx hb d_JA_copyOf_31 rfl (lv_at hl 0 rfl) ?_
  refine hret _ _ _ _ _ ⟨eq.symm, ?_, hS.1.2.2.1 _ _ _ fa, hS.1.2.2.2 _ _ la⟩ ⟨hJ0.tr hS.1, hS.2⟩ d_JA_copyOf_32
  rw [hV, ← eX]
set_option maxHeartbeats 4000000 in
set_option maxRecDepth 100000 in
theorem v_Ro_growBy {l : Launch} {D : va_G} {g : ClassId → FieldType → Prop} {H0 : Heap} {X : vM} {ro b n t k : Nat} (hR : va_P D classes [(ro, .inr (9, [.ref b, .int (nI t)]))] H0) (fb : sx_A g .byte H0 b n) (lb : sx_L H0 b n) (ht : t ≤ n) (hn : 0 < n ∧ n ≤ 65536) (hk : k ≤ 64) (hV : mm g H0 = X) : Met l y_Ro_growBy (.code y_Ro_growBy b_Ro_growBy 2 none :: G_) { frames := 2, cells := gC t k n, slots := gS t k n, locals := 130 } (sx_Pc [.ref ro, .int (nI k)] H0 D g) (px_Qv g (fun z => z = ro ∨ H0.size ≤ z) H0 (RwG D g H0 X ro b n t k)) (gC t k n) (gS t k n) (fun z => z = ro ∨ H0.size ≤ z) := by
  by_cases hc : n < t + k
  · rw [show gC t k n = 1 from if_pos hc, show gS t k n = 2 * n from if_pos hc]
    refine px_mvA (own := R_Ro) (by decide) rfl (Nat.le_of_ble_eq_true rfl) ?_
    intro p e s m args below meth c Q ls EE hl hret
    obtain ⟨hx, hb, hml, hown, hts, hG, hK⟩ := id EE
    have hS : sx_S g (fun z => z = ro ∨ H0.size ≤ z) (fun z => z = ro ∨ H0.size ≤ z) H0 H0 [] := sx_S.rf
    have hl : lv_has ls 2 [(0, .ref ro), (1, .int (nI k))] := hl
    refine lv_aload_n hx hb d_Ro_growBy_0 rfl (lv_at hl 0 rfl) ?_
    refine sx_get (v := .int (nI t)) EE hR rfl i_Ro 1 (by decide) rfl fl_Ro_15 rfl d_Ro_growBy_1 ?_
    refine lv_iload_n hx hb d_Ro_growBy_4 rfl (lv_at hl 1 rfl) ?_
    refine lv_iadd hx hb d_Ro_growBy_5 ?_
    refine sx_ti (y := nI (t + k)) (nI_add _ _) ?_
    refine lv_aload_n hx hb d_Ro_growBy_6 rfl (lv_at hl 0 rfl) ?_
    refine sx_get (v := .ref b) EE hR rfl i_Ro 0 (by decide) rfl fl_Ro_11 rfl d_Ro_growBy_7 ?_
    refine sx_alen hx hb hG hS fb lb d_Ro_growBy_10 ?_
    refine lv_icmp_le (tgt := 32) hx hb d_Ro_growBy_11 (by decide) (fun q => absurd ((nI_leI (a := t + k) (b := n) (by omega) (by omega)).mp q) (by omega)) (fun _ => ?_)
    refine lv_aload_n hx hb d_Ro_growBy_14 rfl (lv_at hl 0 rfl) ?_
    refine lv_aload_n hx hb d_Ro_growBy_15 rfl (lv_at hl 0 rfl) ?_
    refine sx_get (v := .ref b) EE hR rfl i_Ro 0 (by decide) rfl fl_Ro_11 rfl d_Ro_growBy_16 ?_
    refine lv_iconst (v := nI 2) hx hb d_Ro_growBy_19 (by decide +kernel) ?_
    refine lv_aload_n hx hb d_Ro_growBy_20 rfl (lv_at hl 0 rfl) ?_
    refine sx_get (v := .ref b) EE hR rfl i_Ro 0 (by decide) rfl fl_Ro_11 rfl d_Ro_growBy_21 ?_
    refine sx_alen hx hb hG hS fb lb d_Ro_growBy_24 ?_
    refine lv_imul hx hb d_Ro_growBy_25 ?_
    refine sx_ti (y := nI (2 * n)) (pk_mul _ _) ?_
    refine px_grA (cells' := 1) (slots' := 2 * n) (sx_runSA (As := [.ref b, .int (nI (2 * n))]) (rest := [.ref ro]) EE (v_JA_copyOf (X := X) fb lb (by omega) (by omega) hV) w_Ro_30 rfl ⟨rfl, rfl⟩ ⟨Nat.le_of_ble_eq_true rfl, Nat.le_of_ble_eq_true rfl⟩ ⟨(Nat.le_of_ble_eq_true rfl), by show 0 + 2 * n ≤ 2 * n; omega⟩ hl.1 rfl (Nat.le_of_ble_eq_true rfl) d_Ro_growBy_26) (fun z h => Or.inr h) hS rfl (by omega) (fun H locs r hJ hP hS => ?_)
    obtain ⟨er, hV1, fa, la⟩ := hP
    subst er
    have hR1 := hJ.ob (fun h => absurd (hR 0 _ rfl).lt (Nat.not_lt.mpr h)) hR
    refine sx_put (v := .ref H0.size) EE hR1 rfl i_Ro t_Ro tok_Ro n_Ro 0 (by decide) rfl fl_Ro_11 (ty := t_Ro 0) (by decide +kernel) rfl rfl (Nat.le_of_ble_eq_true rfl) (Or.inl rfl) hS d_Ro_growBy_29 (fun H1 locs hR2 hJ1 hs hS => ?_)
    have hR2 : va_P D classes [(ro, .inr (9, [.ref H0.size, .int (nI t)]))] H1 := hR2
    have hV2 := (vx_obj hG hK.1 hR1 hR2 hs).trans hV1
    refine hret _ _ _ _ ⟨H0.size, 2 * n, hR2, hJ1.2.2.1 _ _ _ fa, hJ1.2.2.2 _ _ la, fun h => absurd h (by omega), fun _ => ⟨Nat.le_refl _, rfl⟩, fun j hj => ?_, fun cc hcc => ?_⟩ hS d_Ro_growBy_32
    · rw [hV2]
      show (if H0.size = H0.size ∧ 0 ≤ j ∧ j < 0 + n then X.2 b (0 + (j - 0)) else _) = _
      rw [if_pos ⟨rfl, by omega, by omega⟩, Nat.zero_add, Nat.sub_zero]
    · rw [hV2]
      exact ⟨rfl, funext fun j => if_neg (fun z => by omega)⟩
  · rw [show gC t k n = 0 from if_neg hc, show gS t k n = 0 from if_neg hc]
    refine px_mvA (own := R_Ro) (by decide) rfl (Nat.le_of_ble_eq_true rfl) ?_
    intro p e s m args below meth c Q ls EE hl hret
    obtain ⟨hx, hb, hml, hown, hts, hG, hK⟩ := id EE
    have hS : sx_S g (fun z => z = ro ∨ H0.size ≤ z) (fun z => z = ro ∨ H0.size ≤ z) H0 H0 [] := sx_S.rf
    have hl : lv_has ls 2 [(0, .ref ro), (1, .int (nI k))] := hl
    refine lv_aload_n hx hb d_Ro_growBy_0 rfl (lv_at hl 0 rfl) ?_
    refine sx_get (v := .int (nI t)) EE hR rfl i_Ro 1 (by decide) rfl fl_Ro_15 rfl d_Ro_growBy_1 ?_
    refine lv_iload_n hx hb d_Ro_growBy_4 rfl (lv_at hl 1 rfl) ?_
    refine lv_iadd hx hb d_Ro_growBy_5 ?_
    refine sx_ti (y := nI (t + k)) (nI_add _ _) ?_
    refine lv_aload_n hx hb d_Ro_growBy_6 rfl (lv_at hl 0 rfl) ?_
    refine sx_get (v := .ref b) EE hR rfl i_Ro 0 (by decide) rfl fl_Ro_11 rfl d_Ro_growBy_7 ?_
    refine sx_alen hx hb hG hS fb lb d_Ro_growBy_10 ?_
    refine lv_icmp_le (tgt := 32) hx hb d_Ro_growBy_11 (by decide) (fun _ => ?_) (fun q => absurd ((nI_leI (a := t + k) (b := n) (by omega) (by omega)).mpr (by omega)) q)
    refine hret _ _ _ _ ⟨b, n, hR, fb, lb, fun _ => ⟨rfl, rfl⟩, fun h => absurd h hc, fun j hj => ?_, fun cc hcc => ?_⟩ hS d_Ro_growBy_32
    · rw [hV]
    · rw [hV]; exact ⟨rfl, rfl⟩
set_option maxHeartbeats 4000000 in
set_option maxRecDepth 100000 in
theorem v_Ro_appendNumber {l : Launch} {D : va_G} {g : ClassId → FieldType → Prop} {H0 : Heap} {X : vM} {ro b n t : Nat} {v : Int32} (hR : va_P D classes [(ro, .inr (9, [.ref b, .int (nI t)]))] H0) (fb : sx_A g .byte H0 b n) (lb : sx_L H0 b n) (ht : t ≤ n) (hn : 64 ≤ n ∧ n ≤ 65536) (hV : mm g H0 = X) : Met l y_Ro_appendNumber (.code y_Ro_appendNumber b_Ro_appendNumber 2 none :: G_) { frames := 3, cells := gC t 4 n, slots := gS t 4 n, locals := 160 } (sx_Pc [.ref ro, .int v] H0 D g) (px_Qv g (fun z => z = ro ∨ z = b ∨ H0.size ≤ z) H0 (RwP D g H0 X ro b n t 4 (nb4 v))) (gC t 4 n) (gS t 4 n) (fun z => z = ro ∨ z = b ∨ H0.size ≤ z) := by
  refine px_mvA (own := R_Ro) (by decide) rfl (Nat.le_of_ble_eq_true rfl) ?_
  intro p e s m args below meth c Q ls EE hl hret
  obtain ⟨hx, hb, hml, hown, hts, hG, hK⟩ := id EE
  have hS : sx_S g (fun z => z = ro ∨ z = b ∨ H0.size ≤ z) (fun z => z = ro ∨ z = b ∨ H0.size ≤ z) H0 H0 [] := sx_S.rf
  have hl : lv_has ls 2 [(0, .ref ro), (1, .int v)] := hl
  refine lv_aload_n hx hb d_Ro_appendNumber_0 rfl (lv_at hl 0 rfl) ?_
  refine lv_iconst (v := nI 4) hx hb d_Ro_appendNumber_1 (by decide +kernel) ?_
  refine px_gvA (cells' := gC t 4 n) (slots' := gS t 4 n) (sx_runVA (As := [.int (nI 4)]) (rest := []) EE hR rfl rfl (v_Ro_growBy (X := X) (k := 4) hR fb lb ht (by omega) (by omega) hV) w_Ro_20 rfl ⟨rfl, rfl⟩ ⟨Nat.le_of_ble_eq_true rfl, Nat.le_of_ble_eq_true rfl⟩ ⟨by show 0 + gC t 4 n ≤ gC t 4 n; omega, by show 0 + gS t 4 n ≤ gS t 4 n; omega⟩ hl.1 rfl (Nat.le_of_ble_eq_true rfl) d_Ro_appendNumber_2) (fun z h => h.elim Or.inl (fun h => Or.inr (Or.inr h))) hS (by omega) (by omega) (fun H locs hJ hP hS => ?_)
  obtain ⟨q, n', hR, fa, la, c1, c2, vals, rst⟩ := hP
  have hJ0 := hS.1
  have hS : sx_S g (fun z => z = ro ∨ z = b ∨ H0.size ≤ z) (fun z => z = ro ∨ z = b ∨ H0.size ≤ z) H H locs := ⟨sx_J.rf, fun _ h => h, hS.2.2⟩
  have eQ : q = ro ∨ q = b ∨ H0.size ≤ q := by
    by_cases hc : t + 4 ≤ n
    · exact Or.inr (Or.inl (c1 hc).1)
    · exact Or.inr (Or.inr (c2 (by omega)).1)
  have hq4 : t + 4 ≤ n' := by
    by_cases hc : t + 4 ≤ n
    · rw [(c1 hc).2]; exact hc
    · rw [(c2 (by omega)).2]; omega
  have hq5 : n' ≤ 131072 := by
    by_cases hc : t + 4 ≤ n
    · rw [(c1 hc).2]; omega
    · rw [(c2 (by omega)).2]; omega
  obtain ⟨XG, hV⟩ : ∃ XG, mm g H = XG := ⟨_, rfl⟩
  rw [hV] at vals rst
  refine lv_aload_n hx hb d_Ro_appendNumber_5 rfl (lv_at hl 0 rfl) ?_
  refine sx_get (v := .ref q) EE hR rfl i_Ro 0 (by decide) rfl fl_Ro_11 rfl d_Ro_appendNumber_6 ?_
  refine lv_aload_n hx hb d_Ro_appendNumber_9 rfl (lv_at hl 0 rfl) ?_
  refine sx_get (v := .int (nI t)) EE hR rfl i_Ro 1 (by decide) rfl fl_Ro_15 rfl d_Ro_appendNumber_10 ?_
  refine lv_iload_n hx hb d_Ro_appendNumber_13 rfl (lv_at hl 1 rfl) ?_
  refine lv_bipush (v := nI 24) hx hb d_Ro_appendNumber_14 (by decide +kernel) ?_
  refine lv_ishr hx hb d_Ro_appendNumber_16 ?_
  refine lv_i2b hx hb d_Ro_appendNumber_17 rfl ?_
  refine vx_bastJ (j := t) hx hb hG hK.1 hS hV fa (eQ) (by omega) (by omega) d_Ro_appendNumber_18 (fun H locs X0 eX0 hS hV hO => ?_)
  have hR := hO _ _ hR
  refine lv_aload_n hx hb d_Ro_appendNumber_19 rfl (lv_at hl 0 rfl) ?_
  refine sx_get (v := .ref q) EE hR rfl i_Ro 0 (by decide) rfl fl_Ro_11 rfl d_Ro_appendNumber_20 ?_
  refine lv_aload_n hx hb d_Ro_appendNumber_23 rfl (lv_at hl 0 rfl) ?_
  refine sx_get (v := .int (nI t)) EE hR rfl i_Ro 1 (by decide) rfl fl_Ro_15 rfl d_Ro_appendNumber_24 ?_
  refine lv_iconst (v := nI 1) hx hb d_Ro_appendNumber_27 (by decide +kernel) ?_
  refine lv_iadd hx hb d_Ro_appendNumber_28 ?_
  refine sx_ti (y := nI (t + 1)) (nI_add _ _) ?_
  refine lv_iload_n hx hb d_Ro_appendNumber_29 rfl (lv_at hl 1 rfl) ?_
  refine lv_bipush (v := nI 16) hx hb d_Ro_appendNumber_30 (by decide +kernel) ?_
  refine lv_ishr hx hb d_Ro_appendNumber_32 ?_
  refine lv_i2b hx hb d_Ro_appendNumber_33 rfl ?_
  refine vx_bastJ (j := t + 1) hx hb hG hK.1 hS hV fa (eQ) (by omega) (by omega) d_Ro_appendNumber_34 (fun H locs X1 eX1 hS hV hO => ?_)
  have hR := hO _ _ hR
  refine lv_aload_n hx hb d_Ro_appendNumber_35 rfl (lv_at hl 0 rfl) ?_
  refine sx_get (v := .ref q) EE hR rfl i_Ro 0 (by decide) rfl fl_Ro_11 rfl d_Ro_appendNumber_36 ?_
  refine lv_aload_n hx hb d_Ro_appendNumber_39 rfl (lv_at hl 0 rfl) ?_
  refine sx_get (v := .int (nI t)) EE hR rfl i_Ro 1 (by decide) rfl fl_Ro_15 rfl d_Ro_appendNumber_40 ?_
  refine lv_iconst (v := nI 2) hx hb d_Ro_appendNumber_43 (by decide +kernel) ?_
  refine lv_iadd hx hb d_Ro_appendNumber_44 ?_
  refine sx_ti (y := nI (t + 2)) (nI_add _ _) ?_
  refine lv_iload_n hx hb d_Ro_appendNumber_45 rfl (lv_at hl 1 rfl) ?_
  refine lv_bipush (v := nI 8) hx hb d_Ro_appendNumber_46 (by decide +kernel) ?_
  refine lv_ishr hx hb d_Ro_appendNumber_48 ?_
  refine lv_i2b hx hb d_Ro_appendNumber_49 rfl ?_
  refine vx_bastJ (j := t + 2) hx hb hG hK.1 hS hV fa (eQ) (by omega) (by omega) d_Ro_appendNumber_50 (fun H locs X2 eX2 hS hV hO => ?_)
  have hR := hO _ _ hR
  refine lv_aload_n hx hb d_Ro_appendNumber_51 rfl (lv_at hl 0 rfl) ?_
  refine sx_get (v := .ref q) EE hR rfl i_Ro 0 (by decide) rfl fl_Ro_11 rfl d_Ro_appendNumber_52 ?_
  refine lv_aload_n hx hb d_Ro_appendNumber_55 rfl (lv_at hl 0 rfl) ?_
  refine sx_get (v := .int (nI t)) EE hR rfl i_Ro 1 (by decide) rfl fl_Ro_15 rfl d_Ro_appendNumber_56 ?_
  refine lv_iconst (v := nI 3) hx hb d_Ro_appendNumber_59 (by decide +kernel) ?_
  refine lv_iadd hx hb d_Ro_appendNumber_60 ?_
  refine sx_ti (y := nI (t + 3)) (nI_add _ _) ?_
  refine lv_iload_n hx hb d_Ro_appendNumber_61 rfl (lv_at hl 1 rfl) ?_
  refine lv_i2b hx hb d_Ro_appendNumber_62 rfl ?_
  refine vx_bastJ (j := t + 3) hx hb hG hK.1 hS hV fa (eQ) (by omega) (by omega) d_Ro_appendNumber_63 (fun H locs X3 eX3 hS hV hO => ?_)
  have hR := hO _ _ hR
  refine lv_aload_n hx hb d_Ro_appendNumber_64 rfl (lv_at hl 0 rfl) ?_
  refine lv_dup hx hb d_Ro_appendNumber_65 rfl ?_
  refine sx_get (v := .int (nI t)) EE hR rfl i_Ro 1 (by decide) rfl fl_Ro_15 rfl d_Ro_appendNumber_66 ?_
  refine lv_iconst (v := nI 4) hx hb d_Ro_appendNumber_69 (by decide +kernel) ?_
  refine lv_iadd hx hb d_Ro_appendNumber_70 ?_
  refine sx_ti (y := nI (t + 4)) (nI_add _ _) ?_
  refine sx_put (v := .int (nI (t + 4))) EE hR rfl i_Ro t_Ro tok_Ro n_Ro 1 (by decide) rfl fl_Ro_15 (ty := .int) (by decide +kernel) rfl rfl (Nat.le_of_ble_eq_true rfl) (Or.inl rfl) hS d_Ro_appendNumber_71 (fun H1 locs hR2 hJ1 hs hS => ?_)
  have hR2 : va_P D classes [(ro, .inr (9, [.ref q, .int (nI (t + 4))]))] H1 := hR2
  have hV2 := (vx_obj hG hK.1 hR hR2 hs).trans hV
  have e3 : X3 = stI (stI (stI (stI XG q t (nb4 v 0)) q (t + 1) (nb4 v 1)) q (t + 2) (nb4 v 2)) q (t + 3) (nb4 v 3) := by
    rw [← eX3, ← eX2, ← eX1, ← eX0]
    exact st_nb4 XG q t v
  rw [e3] at hV2
  refine hret _ _ _ _ ⟨q, n', hR2, hS.1.2.2.1 _ _ _ fa, hS.1.2.2.2 _ _ la, c1, c2, fun j hj => ?_, fun j hj => ?_, fun cc hcc hcb => ?_⟩ ⟨hJ0.tr hS.1, hS.2⟩ d_Ro_appendNumber_74
  · rw [hV2, ← vals j hj]
    show (if q = q ∧ j = t + 3 then _ else if q = q ∧ j = t + 2 then _ else if q = q ∧ j = t + 1 then _ else if q = q ∧ j = t then _ else XG.2 q j) = _
    rw [if_neg (fun z => by omega), if_neg (fun z => by omega), if_neg (fun z => by omega), if_neg (fun z => by omega)]
  · rw [hV2]
    show (if q = q ∧ t + j = t + 3 then nb4 v 3 else if q = q ∧ t + j = t + 2 then nb4 v 2 else if q = q ∧ t + j = t + 1 then nb4 v 1 else if q = q ∧ t + j = t then nb4 v 0 else XG.2 q (t + j)) = nb4 v j
    rcases (show j = 0 ∨ j = 1 ∨ j = 2 ∨ j = 3 by omega) with rfl | rfl | rfl | rfl
    · rw [if_neg (fun z => by omega), if_neg (fun z => by omega), if_neg (fun z => by omega), if_pos ⟨rfl, rfl⟩]
    · rw [if_neg (fun z => by omega), if_neg (fun z => by omega), if_pos ⟨rfl, rfl⟩]
    · rw [if_neg (fun z => by omega), if_pos ⟨rfl, rfl⟩]
    · rw [if_pos ⟨rfl, rfl⟩]
  · have hq : cc ≠ q := by
      rcases eQ with h | h | h
      · exact absurd h (vx_ne hG hK.1 hR2 (hS.1.2.2.1 _ _ _ fa))
      · rw [h]; exact hcb
      · omega
    rw [hV2, ← (rst cc hcc).1, ← (rst cc hcc).2]
    refine ⟨rfl, funext fun k => ?_⟩
    show (if cc = q ∧ k = t + 3 then _ else if cc = q ∧ k = t + 2 then _ else if cc = q ∧ k = t + 1 then _ else if cc = q ∧ k = t then _ else XG.2 cc k) = _
    rw [if_neg (fun z => hq z.1), if_neg (fun z => hq z.1), if_neg (fun z => hq z.1), if_neg (fun z => hq z.1)]
set_option maxHeartbeats 4000000 in
set_option maxRecDepth 100000 in
theorem v_Ro_append {l : Launch} {D : va_G} {g : ClassId → FieldType → Prop} {H0 : Heap} {X : vM} {ro b n t a N k : Nat} (hR : va_P D classes [(ro, .inr (9, [.ref b, .int (nI t)]))] H0) (fb : sx_A g .byte H0 b n) (lb : sx_L H0 b n) (ht : t ≤ n) (hn : 64 ≤ n ∧ n ≤ 65536) (f0 : sx_A g .byte H0 a N) (hk : k ≤ N) (hk2 : k ≤ 64) (hN : N ≤ 65536) (hab : a ≠ b) (hV : mm g H0 = X) : Met l y_Ro_append (.code y_Ro_append b_Ro_append 3 none :: G_) { frames := 3, cells := gC t k n, slots := gS t k n, locals := 170 } (sx_Pc [.ref ro, .ref a, .int (nI k)] H0 D g) (px_Qv g (fun z => z = ro ∨ z = b ∨ H0.size ≤ z) H0 (RwP D g H0 X ro b n t k (X.2 a))) (gC t k n) (gS t k n) (fun z => z = ro ∨ z = b ∨ H0.size ≤ z) := by
  refine px_mvA (own := R_Ro) (by decide) rfl (Nat.le_of_ble_eq_true rfl) ?_
  intro p e s m args below meth c Q ls EE hl hret
  obtain ⟨hx, hb, hml, hown, hts, hG, hK⟩ := id EE
  have hS : sx_S g (fun z => z = ro ∨ z = b ∨ H0.size ≤ z) (fun z => z = ro ∨ z = b ∨ H0.size ≤ z) H0 H0 [] := sx_S.rf
  have hl : lv_has ls 3 [(0, .ref ro), (1, .ref a), (2, .int (nI k))] := hl
  refine lv_aload_n hx hb d_Ro_append_0 rfl (lv_at hl 0 rfl) ?_
  refine lv_iload_n hx hb d_Ro_append_1 rfl (lv_at hl 2 rfl) ?_
  refine px_gvA (cells' := gC t k n) (slots' := gS t k n) (sx_runVA (As := [.int (nI k)]) (rest := []) EE hR rfl rfl (v_Ro_growBy (X := X) (k := k) hR fb lb ht (by omega) hk2 hV) w_Ro_20 rfl ⟨rfl, rfl⟩ ⟨Nat.le_of_ble_eq_true rfl, Nat.le_of_ble_eq_true rfl⟩ ⟨by show 0 + gC t k n ≤ gC t k n; omega, by show 0 + gS t k n ≤ gS t k n; omega⟩ hl.1 rfl (Nat.le_of_ble_eq_true rfl) d_Ro_append_2) (fun z h => h.elim Or.inl (fun h => Or.inr (Or.inr h))) hS (by omega) (by omega) (fun H locs hJ hP hS => ?_)
  obtain ⟨q, n', hR, fa, la, c1, c2, vals, rst⟩ := hP
  have hJ0 := hS.1
  have al := f0.lt
  have hS : sx_S g (fun z => z = ro ∨ z = b ∨ H0.size ≤ z) (fun z => z = ro ∨ z = b ∨ H0.size ≤ z) H H locs := ⟨sx_J.rf, fun _ h => h, hS.2.2⟩
  have eQ : q = ro ∨ q = b ∨ H0.size ≤ q := by
    by_cases hc : t + k ≤ n
    · exact Or.inr (Or.inl (c1 hc).1)
    · exact Or.inr (Or.inr (c2 (by omega)).1)
  have hq4 : t + k ≤ n' := by
    by_cases hc : t + k ≤ n
    · rw [(c1 hc).2]; exact hc
    · rw [(c2 (by omega)).2]; omega
  have hq5 : n' ≤ 131072 := by
    by_cases hc : t + k ≤ n
    · rw [(c1 hc).2]; omega
    · rw [(c2 (by omega)).2]; omega
  obtain ⟨XG, hV⟩ : ∃ XG, mm g H = XG := ⟨_, rfl⟩
  rw [hV] at vals rst
  refine lv_aload_n hx hb d_Ro_append_5 rfl (lv_at hl 1 rfl) ?_
  refine lv_iconst (v := nI 0) hx hb d_Ro_append_6 (by decide +kernel) ?_
  refine lv_aload_n hx hb d_Ro_append_7 rfl (lv_at hl 0 rfl) ?_
  refine sx_get (v := .ref q) EE hR rfl i_Ro 0 (by decide) rfl fl_Ro_11 rfl d_Ro_append_8 ?_
  refine lv_aload_n hx hb d_Ro_append_11 rfl (lv_at hl 0 rfl) ?_
  refine sx_get (v := .int (nI t)) EE hR rfl i_Ro 1 (by decide) rfl fl_Ro_15 rfl d_Ro_append_12 ?_
  refine lv_iload_n hx hb d_Ro_append_15 rfl (lv_at hl 2 rfl) ?_
  refine vx_cpyBJ hx hb (by rw [hml]; exact hl.1.symm) hown (hts (.methodLink R_Ro 24 arraycopyName) (by decide +kernel)) (hts (.native arraycopyName) (by decide +kernel)) (hts (.static arraycopyName) (by decide +kernel)) (hts (.initialized "java/lang/System") (by decide +kernel)) hG hK.1 hS hV (hJ0.2.2.1 _ _ _ f0) fa eQ (by omega) (by omega) (by omega) (by omega) (Nat.le_of_ble_eq_true rfl) (Nat.le_of_ble_eq_true rfl) d_Ro_append_16 (fun H locs X1 eX1 hS hV hO => ?_)
  have hR := hO _ _ hR
  refine lv_aload_n hx hb d_Ro_append_19 rfl (lv_at hl 0 rfl) ?_
  refine lv_dup hx hb d_Ro_append_20 rfl ?_
  refine sx_get (v := .int (nI t)) EE hR rfl i_Ro 1 (by decide) rfl fl_Ro_15 rfl d_Ro_append_21 ?_
  refine lv_iload_n hx hb d_Ro_append_24 rfl (lv_at hl 2 rfl) ?_
  refine lv_iadd hx hb d_Ro_append_25 ?_
  refine sx_ti (y := nI (t + k)) (nI_add _ _) ?_
  refine sx_put (v := .int (nI (t + k))) EE hR rfl i_Ro t_Ro tok_Ro n_Ro 1 (by decide) rfl fl_Ro_15 (ty := .int) (by decide +kernel) rfl rfl (Nat.le_of_ble_eq_true rfl) (Or.inl rfl) hS d_Ro_append_26 (fun H1 locs hR2 hJ1 hs hS => ?_)
  have hR2 : va_P D classes [(ro, .inr (9, [.ref q, .int (nI (t + k))]))] H1 := hR2
  have hV2 := (vx_obj hG hK.1 hR hR2 hs).trans hV
  rw [← eX1] at hV2
  have hqn : ∀ cc, cc < H0.size → cc ≠ b → cc ≠ q := fun cc hcc hcb => by
    rcases eQ with h | h | h
    · exact absurd h (vx_ne hG hK.1 hR2 (hS.1.2.2.1 _ _ _ fa))
    · rw [h]; exact hcb
    · omega
  refine hret _ _ _ _ ⟨q, n', hR2, hS.1.2.2.1 _ _ _ fa, hS.1.2.2.2 _ _ la, c1, c2, fun j hj => ?_, fun j hj => ?_, fun cc hcc hcb => ?_⟩ ⟨hJ0.tr hS.1, hS.2⟩ d_Ro_append_29
  · rw [hV2, ← vals j hj]
    exact if_neg (fun z => by omega)
  · rw [hV2]
    show (if q = q ∧ t ≤ t + j ∧ t + j < t + k then XG.2 a (0 + (t + j - t)) else _) = _
    rw [if_pos ⟨rfl, by omega, by omega⟩, Nat.zero_add, Nat.add_sub_cancel_left, (rst a al).2]
  · rw [hV2, ← (rst cc hcc).1, ← (rst cc hcc).2]
    exact ⟨rfl, funext fun j => if_neg (fun z => hqn cc hcc hcb z.1)⟩
set_option maxHeartbeats 4000000 in
set_option maxRecDepth 100000 in
theorem v_Ro_hasRoomFor {l : Launch} {D : va_G} {g : ClassId → FieldType → Prop} {H0 : Heap} {X : vM} {ro b t k : Nat} (hR : va_P D classes [(ro, .inr (9, [.ref b, .int (nI t)]))] H0) (ht : t ≤ 65536) (hk : k ≤ 64) (hV : mm g H0 = X) : Met l y_Ro_hasRoomFor (.code y_Ro_hasRoomFor b_Ro_hasRoomFor 2 (some .boolean) :: G_) { frames := 0, cells := 0, slots := 0, locals := 0 } (sx_Pc [.ref ro, .int (nI k)] H0 D g) (px_Q g (fun _ => False) H0 (nI (if t + k ≤ 65536 then 1 else 0)) (fun H => mm g H = X)) 0 0 (fun _ => False) := by
  refine px_mz (own := R_Ro) (P := fun H => mm g H = X) (by split <;> omega) (by decide) rfl (Nat.le_of_ble_eq_true rfl) ?_
  intro p e s m args below meth c Q ls EE hl hret
  obtain ⟨hx, hb, hml, hown, hts, hG, hK⟩ := id EE
  have hS : sx_S g (fun _ => False) (fun _ => False) H0 H0 [] := sx_S.rf
  have hl : lv_has ls 2 [(0, .ref ro), (1, .int (nI k))] := hl
  refine lv_aload_n hx hb d_Ro_hasRoomFor_0 rfl (lv_at hl 0 rfl) ?_
  refine sx_get (v := .int (nI t)) EE hR rfl i_Ro 1 (by decide) rfl fl_Ro_15 rfl d_Ro_hasRoomFor_1 ?_
  refine lv_iload_n hx hb d_Ro_hasRoomFor_4 rfl (lv_at hl 1 rfl) ?_
  refine lv_iadd hx hb d_Ro_hasRoomFor_5 ?_
  refine sx_ti (y := nI (t + k)) (nI_add _ _) ?_
  refine lv_ldc (v := (nI 65536)) hx hb hown (hts (.constant R_Ro 19 (nI 65536)) (by decide +kernel)) d_Ro_hasRoomFor_6 ?_
  by_cases hc : t + k ≤ 65536
  · rw [if_pos hc] at hret
    refine lv_icmp_gt (tgt := 15) hx hb d_Ro_hasRoomFor_8 (by decide) (fun q => absurd ((nI_ltI (a := 65536) (b := t + k) (by omega) (by omega)).mp q) (by omega)) (fun _ => ?_)
    refine lv_iconst (v := nI 1) hx hb d_Ro_hasRoomFor_11 (by decide +kernel) ?_
    refine lv_goto (tgt := 16) hx hb d_Ro_hasRoomFor_12 (by decide) ?_
    exact hret _ _ _ _ hV hS d_Ro_hasRoomFor_16
  · rw [if_neg hc] at hret
    refine lv_icmp_gt (tgt := 15) hx hb d_Ro_hasRoomFor_8 (by decide) (fun _ => ?_) (fun q => absurd ((nI_ltI (a := 65536) (b := t + k) (by omega) (by omega)).mpr (by omega)) q)
    refine lv_iconst (v := nI 0) hx hb d_Ro_hasRoomFor_15 (by decide +kernel) ?_
    exact hret _ _ _ _ hV hS d_Ro_hasRoomFor_16
