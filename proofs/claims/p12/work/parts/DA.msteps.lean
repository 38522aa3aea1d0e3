section MSU
variable {l : Launch} {D : va_G} {g : ClassId → FieldType → Prop} {o : Nat} {r : Nat → Nat} {th : Int32} {tl ml rl kc : Nat} {tp ms rs : Nat → Int32} {ks : Nat → Nat → Int32} {H H1 : Heap}

theorem nb20_at (v0 v1 v2 v3 v4 : Int32) : ∀ i, i < 20 → nb20 v0 v1 v2 v3 v4 i = ((if 4 ≤ i then (if 8 ≤ i then (if 12 ≤ i then (if 16 ≤ i then v4 else v3) else v2) else v1) else v0) >>> ((nI (8 * (3 - (i % 4)))) &&& 31)).toInt8.toInt32 := fun i hi => by
  unfold nb20 cat nb4
  by_cases h1 : i < 4
  · rw [if_pos (show i < 16 by omega), if_pos (show i < 12 by omega), if_pos (show i < 8 by omega), if_pos h1, if_neg (show ¬ 4 ≤ i by omega), show i % 4 = i by omega]
  · by_cases h2 : i < 8
    · rw [if_pos (show i < 16 by omega), if_pos (show i < 12 by omega), if_pos h2, if_neg h1, if_pos (show 4 ≤ i by omega), if_neg (show ¬ 8 ≤ i by omega), show i % 4 = i - 4 by omega]
    · by_cases h3 : i < 12
      · rw [if_pos (show i < 16 by omega), if_pos h3, if_neg h2, if_pos (show 4 ≤ i by omega), if_pos (show 8 ≤ i by omega), if_neg (show ¬ 12 ≤ i by omega), show i % 4 = i - 8 by omega]
      · by_cases h4 : i < 16
        · rw [if_pos h4, if_neg h3, if_pos (show 4 ≤ i by omega), if_pos (show 8 ≤ i by omega), if_pos (show 12 ≤ i by omega), if_neg (show ¬ 16 ≤ i by omega), show i % 4 = i - 12 by omega]
        · rw [if_neg h4, if_pos (show 4 ≤ i by omega), if_pos (show 8 ≤ i by omega), if_pos (show 12 ≤ i by omega), if_pos (show 16 ≤ i by omega), show i % 4 = i - 16 by omega]
theorem mi_ne (hI : MInj r) {i j : Nat} (hi : i ∈ mIx) (hj : j ∈ mIx) (h : i ≠ j) : r i ≠ r j := fun e => h (hI i hi j hj e)
theorem fd_24 (hI : MInj r) {X : vM} {tp : Nat} {v0 v1 v2 v3 v4 : Int32} : lpU 1 (LL_M_feed_24 v4 v3 v2 v1 v0 r tp) 20 0 X = flI X (r 1) tp 20 (fun k => ((if 4 ≤ (k - tp) then (if 8 ≤ (k - tp) then (if 12 ≤ (k - tp) then (if 16 ≤ (k - tp) then v4 else v3) else v2) else v1) else v0) >>> ((nI (8 * (3 - ((k - tp) % 4)))) &&& 31)).toInt8.toInt32) := by
  have h := lp_g (a := r 1) (b := r 2) (o := tp) (mi_ne hI (i := 2) (j := 1) (by decide) (by decide) (by decide)) (fun i _ => ((if 4 ≤ i then (if 8 ≤ i then (if 12 ≤ i then (if 16 ≤ i then v4 else v3) else v2) else v1) else v0) >>> ((nI (8 * (3 - (i % 4)))) &&& 31)).toInt8.toInt32) (LL_M_feed_24 v4 v3 v2 v1 v0 r tp) (fun i Y => by
    rw [← i8_i8]
    rfl) 20 0 X
  exact h
theorem n_feed_a (h : MS D g o r th tl ml rl kc tp ms rs ks H) (ok : Aok tl ml rl kc tp ms rs ks) (hI : MInj r) {u0 u1 u2 u3 u4 : Int32} (hw : tl + 20 ≤ 65536) : DStep l D g y_M_feed b_M_feed 8 (some .int) [.ref o, .int u0, .int u1, .int u2, .int u3, .int u4] H (nI (tl + 20)) (mE o r) (fun H1 => MS D g o r (nI 0) (tl + 20) ml rl kc (cat tp tl (nb20 u0 u1 u2 u3 u4)) ms rs ks H1) := by
  have hm := v_M_feed_a (l := l) (E := mE o r) (X := mm g H) (v0 := u0) (v1 := u1) (v2 := u2) (v3 := u3) (v4 := u4) h.1 (Or.inl rfl) h.2.1 mm_W ok.1 ok.2.1 ok.2.2.1 ok.2.2.2.1 (by omega) rfl
  refine ⟨mE o r, fun H1 => mm g H1 = lpU 1 (LL_M_feed_24 u4 u3 u2 u1 u0 r tl) 20 0 (mm g H) ∧ va_P D classes [(o, .inr (0, mo_fs r (mi (nI 0) (nI (tl + 20)) (nI ml) (nI rl) (nI kc))))] H1, _, _, ?_, ?_, hm, fun z h => h, fun H1 hP hJ => ?_⟩
  · exact Nat.le_of_ble_eq_true rfl
  · exact Nat.le_of_ble_eq_true rfl
  obtain ⟨hV, hP⟩ := hP
  rw [fd_24 hI] at hV
  have hN : onN r [1] (mm g H) (mm g H1) := by
    rw [hV]
    exact fl_on (List.mem_cons_self)
  exact h.upd hI hJ hN rfl hP (fun j hj => by
    rw [hV]
    by_cases hc : j < tl
    · rw [fl_lo hc, cat_l hc]
      exact h.2.2.2.1 j hc
    · rw [fl_at _ _ _ _ _ (by omega) hj, show j = tl + (j - tl) by omega, cat_r, nb20_at _ _ _ _ _ _ (by omega), show tl + (j - tl) - tl = j - tl by omega]) (fun j hj => by rw [(hN.at hI 2 rfl).2]; exact h.2.2.2.2.1 j hj) (fun k hk j hj => by rw [(hN.at hI 4 rfl).2]; exact h.2.2.2.2.2.1 k hk j hj) (fun j hj => by rw [(hN.at hI 3 rfl).2]; exact h.2.2.2.2.2.2 j hj)
theorem n_key_a (h : MS D g o r th tl ml rl kc tp ms rs ks H) (ok : Aok tl ml rl kc tp ms rs ks) (hI : MInj r) (ht : tl = 32) (hw : kc < 100) : DStep l D g y_M_key b_M_key 2 (some .int) [.ref o] H (nI kc) (mE o r) (fun H1 => MS D g o r (nI 0) 0 ml rl (kc + 1) tp ms rs (upS ks kc tp) H1) := by
  subst ht
  have hm := v_M_key_a (l := l) (E := mE o r) (X := mm g H) h.1 (Or.inl rfl) h.2.1 mm_W ok.2.1 ok.2.2.1 ok.2.2.2.1 hw rfl
  refine ⟨mE o r, fun H1 => mm g H1 = lpU 1 (LL_M_key_37 r kc) 32 0 (mm g H) ∧ va_P D classes [(o, .inr (0, mo_fs r (mi (nI 0) (nI 0) (nI ml) (nI rl) (nI (kc + 1)))))] H1, _, _, ?_, ?_, hm, fun z h => h, fun H1 hP hJ => ?_⟩
  · exact Nat.le_of_ble_eq_true rfl
  · exact Nat.le_of_ble_eq_true rfl
  obtain ⟨hV, hP⟩ := hP
  rw [lp_cp (X := mm g H) (a := r 4) (b := r 1) (o := 32 * kc) (p := 0) (n := 32) (LL_M_key_37 r kc) (fun i Y => by rw [Nat.zero_add]; rfl) (mi_ne hI (i := 1) (j := 4) (by decide) (by decide) (by decide)) (fun i hi => by rw [Nat.zero_add, h.2.2.2.1 i hi]; exact ok.2.2.2.2.1 i hi)] at hV
  have hN : onN r [4] (mm g H) (mm g H1) := by
    rw [hV]
    exact fl_on (List.mem_cons_self)
  exact h.upd hI hJ hN rfl hP (fun j hj => absurd hj (Nat.not_lt_zero j)) (fun j hj => by rw [(hN.at hI 2 rfl).2]; exact h.2.2.2.2.1 j hj) (fun k hk j hj => by
    rw [hV]
    by_cases e : k = kc
    · subst e
      rw [fl_at _ _ _ _ _ (by omega) (by omega), show 0 + (32 * k + j - 32 * k) = j by omega, h.2.2.2.1 j hj]
      exact (congrFun (show upS ks k tp k = tp from if_pos rfl) j).symm
    · rw [fl_lo (by omega), h.2.2.2.2.2.1 k (by omega) j hj]
      exact (congrFun (show upS ks kc tp k = ks k from if_neg e) j).symm) (fun j hj => by rw [(hN.at hI 3 rfl).2]; exact h.2.2.2.2.2.2 j hj)
theorem n_message (h : MS D g o r th tl ml rl kc tp ms rs ks H) (ok : Aok tl ml rl kc tp ms rs ks) (hI : MInj r)  : DStep l D g y_M_message b_M_message 2 (some .int) [.ref o] H (nI tl) (mE o r) (fun H1 => MS D g o r (nI 0) 0 tl rl kc tp tp rs ks H1) := by
  have hm := v_M_message (l := l) (E := mE o r) (X := mm g H) h.1 (Or.inl rfl) h.2.1 mm_W ok.1 ok.2.1 ok.2.2.1 ok.2.2.2.1 rfl
  refine ⟨mE o r, fun H1 => mm g H1 = lpU 1 (LL_M_message_7 r) (tl - 0) 0 (mm g H) ∧ va_P D classes [(o, .inr (0, mo_fs r (mi (nI 0) (nI 0) (nI tl) (nI rl) (nI kc))))] H1, _, _, ?_, ?_, hm, fun z h => h, fun H1 hP hJ => ?_⟩
  · exact Nat.le_of_ble_eq_true rfl
  · exact Nat.le_of_ble_eq_true rfl
  obtain ⟨hV, hP⟩ := hP
  rw [Nat.sub_zero, lp_cp (X := mm g H) (a := r 2) (b := r 1) (o := 0) (p := 0) (n := tl) (LL_M_message_7 r) (fun i Y => by rw [Nat.zero_add]; rfl) (mi_ne hI (i := 1) (j := 2) (by decide) (by decide) (by decide)) (fun i hi => by rw [Nat.zero_add, h.2.2.2.1 i hi]; exact ok.2.2.2.2.1 i hi)] at hV
  have hN : onN r [2] (mm g H) (mm g H1) := by
    rw [hV]
    exact fl_on (List.mem_cons_self)
  exact h.upd hI hJ hN rfl hP (fun j hj => absurd hj (Nat.not_lt_zero j)) (fun j hj => by
    rw [hV, fl_at _ _ _ _ _ (Nat.zero_le _) (by omega), Nat.zero_add, Nat.sub_zero]
    exact h.2.2.2.1 j hj) (fun k hk j hj => by rw [(hN.at hI 4 rfl).2]; exact h.2.2.2.2.2.1 k hk j hj) (fun j hj => by rw [(hN.at hI 3 rfl).2]; exact h.2.2.2.2.2.2 j hj)
theorem x8 (a b : Int32) : ((a ^^^ b).toInt8.toInt32).toInt8.toInt32 = (a ^^^ b.toInt8.toInt32).toInt8.toInt32 := by
  rw [i8_i8]
  simp
theorem x80 {a : Int32} (h : isB a) : ((a ^^^ (nI 0)).toInt8.toInt32).toInt8.toInt32 = a := by
  rw [i8_i8, show a ^^^ (nI 0) = a from by
    show a ^^^ (0 : Int32) = a
    simp]
  exact isB_i8 h
theorem n_back_a (h : MS D g o r th tl ml rl kc tp ms rs ks H) (ok : Aok tl ml rl kc tp ms rs ks) (hI : MInj r) {u0 u1 : Int32} (hw : ¬ u0 < (-1 : Int32)) (hw2 : u0 < nI rl) (hw3 : tl + rl ≤ 65536) : DStep l D g y_M_back b_M_back 4 (some .int) [.ref o, .int u0, .int u1] H (nI (tl + rl)) (mE o r) (fun H1 => MS D g o r (nI 0) (tl + rl) ml rl kc (cat tp tl (fun j => if nI j = u0 then ((rs j) ^^^ (u1.toInt8.toInt32)).toInt8.toInt32 else rs j)) ms rs ks H1) := by
  have hm := v_M_back_a (l := l) (E := mE o r) (X := mm g H) (v0 := u0) (v1 := u1) h.1 (Or.inl rfl) h.2.1 mm_W ok.1 ok.2.1 ok.2.2.1 ok.2.2.2.1 hw hw2 hw3 rfl
  refine ⟨mE o r, fun H1 => mm g H1 = lpU 1 (LL_M_back_46 u0 u1 r tl) (rl - 0) 0 (mm g H) ∧ va_P D classes [(o, .inr (0, mo_fs r (mi (nI 0) (nI (tl + rl)) (nI ml) (nI rl) (nI kc))))] H1, _, _, ?_, ?_, hm, fun z h => h, fun H1 hP hJ => ?_⟩
  · exact Nat.le_of_ble_eq_true rfl
  · exact Nat.le_of_ble_eq_true rfl
  obtain ⟨hV, hP⟩ := hP
  rw [Nat.sub_zero, lp_g (a := r 1) (b := r 3) (o := tl) (mi_ne hI (i := 3) (j := 1) (by decide) (by decide) (by decide)) (fun i f => (((f i) ^^^ (if nI i = u0 then u1 else nI 0)).toInt8.toInt32).toInt8.toInt32) (LL_M_back_46 u0 u1 r tl) (fun _ _ => rfl) rl 0 (mm g H), Nat.add_zero] at hV
  have hN : onN r [1] (mm g H) (mm g H1) := by
    rw [hV]
    exact fl_on (List.mem_cons_self)
  exact h.upd hI hJ hN rfl hP (fun j hj => by
    rw [hV]
    by_cases hc : j < tl
    · rw [fl_lo hc, cat_l hc]
      exact h.2.2.2.1 j hc
    · rw [fl_at _ _ _ _ _ (by omega) hj, show j = tl + (j - tl) by omega, cat_r, show tl + (j - tl) - tl = j - tl by omega, h.2.2.2.2.2.2 _ (by omega)]
      by_cases hu : nI (j - tl) = u0
      · rw [if_pos hu, x8]
        exact (if_pos hu).symm
      · rw [if_neg hu, x80 (ok.2.2.2.2.2.2.1 _ (by omega))]
        exact (if_neg hu).symm) (fun j hj => by rw [(hN.at hI 2 rfl).2]; exact h.2.2.2.2.1 j hj) (fun k hk j hj => by rw [(hN.at hI 4 rfl).2]; exact h.2.2.2.2.2.1 k hk j hj) (fun j hj => by rw [(hN.at hI 3 rfl).2]; exact h.2.2.2.2.2.2 j hj)
theorem n_open_a (h : MS D g o r th tl ml rl kc tp ms rs ks H) (ok : Aok tl ml rl kc tp ms rs ks) (hI : MInj r) {k : Nat} (hk : k < kc) : DStepV l D g y_M_open b_M_open 4 [.ref o, .int (nI k), .int (nI 0)] H (mE o r) (fun H1 => MS D g o r (nI 0) tl ml 32 kc tp ms (xB (ks k) 9) ks H1) := by
  have hm := v_M_open_a (l := l) (E := mE o r) (X := mm g H) (v0 := k) h.1 (Or.inl rfl) h.2.1 mm_W ok.1 ok.2.1 ok.2.2.1 ok.2.2.2.1 hk rfl
  refine ⟨mE o r, fun H1 => mm g H1 = LF_M_open_a (mm g H) r k tl ml rl kc ∧ va_P D classes [(o, .inr (0, mo_fs r (mi (nI 0) (nI tl) (nI ml) (nI 32) (nI kc))))] H1, _, _, ?_, ?_, hm, fun z h => h, fun H1 hP hJ => ?_⟩
  · exact Nat.le_of_ble_eq_true rfl
  · exact Nat.le_of_ble_eq_true rfl
  obtain ⟨hV, hP⟩ := hP
  have mv := m_open_a (X := mm g H) (v := k) (tp := tl) (ms := ml) (rs := rl) (kc := kc) hI h.2.2.1
  have hN : onN r obW (mm g H) (mm g H1) := by
    rw [hV]
    exact mv.1
  exact h.upd hI hJ hN rfl hP (fun j hj => by rw [(hN.at hI 1 rfl).2]; exact h.2.2.2.1 j hj) (fun j hj => by rw [(hN.at hI 2 rfl).2]; exact h.2.2.2.2.1 j hj) (fun k hk j hj => by rw [(hN.at hI 4 rfl).2]; exact h.2.2.2.2.2.1 k hk j hj) (fun j hj => by rw [hV, mv.2 j hj, xB_ext (f' := ks k) (fun i hi => h.2.2.2.2.2.1 k hk i hi)])
theorem n_open_b (h : MS D g o r th tl ml rl kc tp ms rs ks H) (ok : Aok tl ml rl kc tp ms rs ks) (hI : MInj r) {k : Nat} (hk : k < kc) : DStepV l D g y_M_open b_M_open 4 [.ref o, .int (nI k), .int (nI 1)] H (mE o r) (fun H1 => MS D g o r (nI 0) tl ml 32 kc tp ms (byN (edP (ks k))) ks H1) := by
  have hm := v_M_open_b (l := l) (E := mE o r) (X := mm g H) (v0 := k) h.1 (Or.inl rfl) h.2.1 mm_W ok.1 ok.2.1 ok.2.2.1 ok.2.2.2.1 hk rfl
  refine ⟨mE o r, fun H1 => mm g H1 = LF_M_open_b (mm g H) r k tl ml rl kc ∧ va_P D classes [(o, .inr (0, mo_fs r (mi (nI 0) (nI tl) (nI ml) (nI 32) (nI kc))))] H1, _, _, ?_, ?_, hm, fun z h => h, fun H1 hP hJ => ?_⟩
  · exact Nat.le_of_ble_eq_true rfl
  · exact Nat.le_of_ble_eq_true rfl
  obtain ⟨hV, hP⟩ := hP
  have mv := m_open_b (X := mm g H) (v := k) (tp := tl) (ms := ml) (rs := rl) (kc := kc) hI h.2.2.1 (fun i hi => by rw [h.2.2.2.2.2.1 k hk i hi]; exact ok.2.2.2.2.2.2.2 k hk i hi)
  have hN : onN r (3 :: opW) (mm g H) (mm g H1) := by
    rw [hV]
    exact mv.1
  exact h.upd hI hJ hN rfl hP (fun j hj => by rw [(hN.at hI 1 rfl).2]; exact h.2.2.2.1 j hj) (fun j hj => by rw [(hN.at hI 2 rfl).2]; exact h.2.2.2.2.1 j hj) (fun k hk j hj => by rw [(hN.at hI 4 rfl).2]; exact h.2.2.2.2.2.1 k hk j hj) (fun j hj => by rw [hV, mv.2 j hj, edP_ext (f' := ks k) (fun i hi => h.2.2.2.2.2.1 k hk i hi)])
theorem n_sign_a (h : MS D g o r th tl ml rl kc tp ms rs ks H) (ok : Aok tl ml rl kc tp ms rs ks) (hI : MInj r) {k : Nat} (hk : k < kc) : DStepV l D g y_M_sign b_M_sign 3 [.ref o, .int (nI k)] H (mE o r) (fun H1 => MS D g o r (nI 0) tl ml 64 kc tp ms (sgB (ks k) ms ml) ks H1) := by
  have hm := v_M_sign_a (l := l) (E := mE o r) (X := mm g H) (v0 := k) h.1 (Or.inl rfl) h.2.1 mm_W ok.1 ok.2.1 ok.2.2.1 ok.2.2.2.1 hk rfl
  refine ⟨mE o r, fun H1 => mm g H1 = LF_M_sign_a (mm g H) r k tl ml rl kc ∧ va_P D classes [(o, .inr (0, mo_fs r (mi (nI 0) (nI tl) (nI ml) (nI 64) (nI kc))))] H1, _, _, ?_, ?_, hm, fun z h => h, fun H1 hP hJ => ?_⟩
  · exact Nat.le_of_ble_eq_true rfl
  · exact Nat.le_of_ble_eq_true rfl
  obtain ⟨hV, hP⟩ := hP
  have mv := m_sign (X := mm g H) (v := k) (tp := tl) (m := ml) (rs := rl) (kc := kc) hI h.2.2.1 (fun i hi => by rw [h.2.2.2.2.2.1 k hk i hi]; exact ok.2.2.2.2.2.2.2 k hk i hi) (fun i hi => by rw [h.2.2.2.2.1 i hi]; exact ok.2.2.2.2.2.1 i hi)
  rw [siR_ext (f' := ks k) (M' := ms) (fun i hi => h.2.2.2.2.2.1 k hk i hi) h.2.2.2.2.1, siS_ext (f' := ks k) (M' := ms) (fun i hi => h.2.2.2.2.2.1 k hk i hi) h.2.2.2.2.1] at mv
  have hN : onN r sgW (mm g H) (mm g H1) := by
    rw [hV]
    exact mv.1
  exact h.upd hI hJ hN rfl hP (fun j hj => by rw [(hN.at hI 1 rfl).2]; exact h.2.2.2.1 j hj) (fun j hj => by rw [(hN.at hI 2 rfl).2]; exact h.2.2.2.2.1 j hj) (fun k hk j hj => by rw [(hN.at hI 4 rfl).2]; exact h.2.2.2.2.2.1 k hk j hj) (fun j hj => by
    rw [hV]
    unfold sgB
    by_cases hc2 : j < 32
    · rw [cat_l hc2]
      exact mv.2.1 j hc2
    · rw [show j = 32 + (j - 32) by omega, cat_r]
      exact mv.2.2 (j - 32) (by omega))
theorem n_agree_a (h : MS D g o r th tl ml rl kc tp ms rs ks H) (ok : Aok tl ml rl kc tp ms rs ks) (hI : MInj r) {k : Nat} (hk : k < kc) (ht : tl = 32) : DStep l D g y_M_agree b_M_agree 3 (some .boolean) [.ref o, .int (nI k)] H (nI (!agZ (ks k) (leN tp 32)).toNat) (mE o r) (fun H1 => MS D g o r (nI 0) 0 ml 32 kc tp ms (xB (ks k) (leN tp 32)) ks H1) := by
  subst ht
  have mv := m_agree (X := mm g H) (v := k) (ms := ml) (rs := rl) (kc := kc) hI h.2.2.1 (fun i hi => by rw [h.2.2.2.1 i hi]; exact ok.2.2.2.2.1 i hi)
  have e3 : (LF_M_agree_a (mm g H) r k ml rl kc).2 = !agZ (ks k) (leN tp 32) := by
    rw [mv.2.2, leN_ext (f := (mm g H).2 (r 1)) (g := tp) 32 h.2.2.2.1]
    exact congrArg not (agZ_ext (fun i hi => h.2.2.2.2.2.1 k hk i hi))
  rw [leN_ext (f := (mm g H).2 (r 1)) (g := tp) 32 h.2.2.2.1, xB_ext (f' := ks k) (fun i hi => h.2.2.2.2.2.1 k hk i hi)] at mv
  rw [← e3]
  have hm := v_M_agree_a (l := l) (E := mE o r) (X := mm g H) (v0 := k) h.1 (Or.inl rfl) h.2.1 mm_W ok.2.1 ok.2.2.1 ok.2.2.2.1 hk rfl
  refine ⟨mE o r, fun H1 => mm g H1 = (LF_M_agree_a (mm g H) r k ml rl kc).1 ∧ va_P D classes [(o, .inr (0, mo_fs r (mi (nI 0) (nI 0) (nI ml) (nI 32) (nI kc))))] H1, _, _, ?_, ?_, hm, fun z h => h, fun H1 hP hJ => ?_⟩
  · exact Nat.le_of_ble_eq_true rfl
  · exact Nat.le_of_ble_eq_true rfl
  obtain ⟨hV, hP⟩ := hP
  have hN : onN r (9 :: obW) (mm g H) (mm g H1) := by
    rw [hV]
    exact mv.1
  exact h.upd hI hJ hN rfl hP (fun j hj => absurd hj (Nat.not_lt_zero j)) (fun j hj => by rw [(hN.at hI 2 rfl).2]; exact h.2.2.2.2.1 j hj) (fun k hk j hj => by rw [(hN.at hI 4 rfl).2]; exact h.2.2.2.2.2.1 k hk j hj) (fun j hj => by rw [hV]; exact mv.2.1 j hj)
theorem mW_ix : ∀ k ∈ mW, k ∈ mIx ∧ 5 ≤ k := by decide +kernel
theorem mW_n (hI : MInj r) {i : Nat} (hi : i ∈ mIx) (h5 : i < 5) : r i ∉ mW.map r := fun hm => by
  obtain ⟨k, hk, e⟩ := List.mem_map.mp hm
  have h1 := mW_ix k hk
  have := hI k h1.1 i hi e
  omega
theorem pc_3 (hI : MInj r) {X : vM} {a b c : Nat} : (LF_M_point_c X r a b c).1.2 (r 3) = X.2 (r 3) := by
  have h1 : onP (fun z => z ∈ mW.map r) X (LF_M_point_c X r a b c).1 := by
    unfold LF_M_point_c
    refine onP.tr ?_ (on_M_decode (hK_W r))
    exact onP.u (fun i Y => onP.si (hK_W r 35 rfl) onP.rf) _ _ _
  exact (h1 (r 3) (mW_n hI (by decide) (by decide))).2
theorem on_M_verified {K : Nat → Prop} (hK : ∀ k, mvar k = true → K (r k)) {X : vM} {nm : Nat} : onP K X (LF_M_verified X r nm).1 := by
  have u1 : onP K X (lpU 1 (LL_M_verified_2 r) 16 0 X) := onP.u (fun i Y => onP.sl (hK 31 rfl) onP.rf) _ _ _
  unfold LF_M_verified
  simp only []
  split
  · have u2 : onP K X (LF_M_decode (lpU 1 (LL_M_verified_73 r) 32 0 (lpU 1 (LL_M_verified_2 r) 16 0 X)) r).1 := by
      refine onP.tr ?_ (on_M_decode hK)
      exact u1.tr (onP.u (fun i Y => onP.si (hK 35 rfl) onP.rf) _ _ _)
    split
    · have hz : ∀ Z : vM, (Sum.elim (fun r => r) (fun (_ : Unit) => (Z, nI 0)) (lpE 1 (LL_M_verified_267 Z r) 32 0 ())).1 = Z := fun Z => by
        rcases vr_l Z r 32 0 with ⟨Y, e⟩ | e <;> rw [e] <;> rfl
      rw [hz]
      refine onP.tr ?_ (on_M_encode (hK 37 rfl))
      refine onP.tr ?_ (on_M_add hK (hK 18 rfl) (hK 19 rfl))
      refine onP.tr ?_ (on_M_fromBase hK)
      refine onP.tr ?_ (on_M_copy (hK 23 rfl))
      refine onP.tr ?_ (on_M_copy (hK 22 rfl))
      refine onP.tr ?_ (on_M_multiply hK)
      refine onP.tr ?_ (on_M_minus (hK 20 rfl))
      refine onP.tr ?_ (on_M_set (hK 26 rfl))
      refine onP.tr ?_ (on_M_hashNumber hK (hK 33 rfl))
      refine onP.tr ?_ (on_M_hashMessage hK)
      refine onP.tr u2 (onP.u (fun i Y => onP.si (hK 38 rfl) (onP.si (hK 38 rfl) onP.rf)) _ _ _)
    · exact u2
  · exact u1
theorem n_point_a (h : MS D g o r th tl ml rl kc tp ms rs ks H) (ok : Aok tl ml rl kc tp ms rs ks) (hI : MInj r) (ht : tl = 32) (hz : ptB tp = true) : DStep l D g y_M_point b_M_point 2 (some .boolean) [.ref o] H (nI 1) (mE o r) (fun H1 => MS D g o r (nI 0) 0 ml 32 kc tp ms (dxB tp) ks H1) := by
  subst ht
  have mv := m_point (X := mm g H) (ms := ml) (rs := rl) (kc := kc) hI h.2.2.1 (fun i hi => by rw [h.2.2.2.1 i hi]; exact ok.2.2.2.2.1 i hi)
  have hw : (LF_M_decode (lpU 1 (LL_M_point_23 r) 32 0 (mm g H)) r).2 = true := by
    rw [mv.1]
    exact (ptB_ext h.2.2.2.1).trans hz
  have hm := v_M_point_a (l := l) (E := mE o r) (X := mm g H) h.1 (Or.inl rfl) h.2.1 mm_W ok.2.1 ok.2.2.1 ok.2.2.2.1 hw rfl
  refine ⟨mE o r, fun H1 => mm g H1 = (LF_M_point_a (mm g H) r ml rl kc).1 ∧ va_P D classes [(o, .inr (0, mo_fs r (mi (nI 0) (nI 0) (nI ml) (nI 32) (nI kc))))] H1, _, _, ?_, ?_, hm, fun z h => h, fun H1 hP hJ => ?_⟩
  · exact Nat.le_of_ble_eq_true rfl
  · exact Nat.le_of_ble_eq_true rfl
  obtain ⟨hV, hP⟩ := hP
  have hN : onN r poW (mm g H) (mm g H1) := by
    rw [hV]
    exact mv.2.2.1
  exact h.upd hI hJ hN rfl hP (fun j hj => absurd hj (Nat.not_lt_zero j)) (fun j hj => by rw [(hN.at hI 2 rfl).2]; exact h.2.2.2.2.1 j hj) (fun k hk j hj => by rw [(hN.at hI 4 rfl).2]; exact h.2.2.2.2.2.1 k hk j hj) (fun j hj => by rw [hV, mv.2.2.2 hw j hj]; exact congrFun (dxB_ext h.2.2.2.1) j)
theorem n_point_c (h : MS D g o r th tl ml rl kc tp ms rs ks H) (ok : Aok tl ml rl kc tp ms rs ks) (hI : MInj r) (ht : tl = 32) (hz : ptB tp = false) : DStep l D g y_M_point b_M_point 2 (some .boolean) [.ref o] H (nI 0) (mE o r) (fun H1 => MS D g o r (nI 0) 0 ml rl kc tp ms rs ks H1) := by
  subst ht
  have mv := m_point (X := mm g H) (ms := ml) (rs := rl) (kc := kc) hI h.2.2.1 (fun i hi => by rw [h.2.2.2.1 i hi]; exact ok.2.2.2.2.1 i hi)
  have hw : (LF_M_decode (lpU 1 (LL_M_point_23 r) 32 0 (mm g H)) r).2 = false := by
    rw [mv.1]
    exact (ptB_ext h.2.2.2.1).trans hz
  have hm := v_M_point_c (l := l) (E := mE o r) (X := mm g H) h.1 (Or.inl rfl) h.2.1 mm_W ok.2.1 ok.2.2.1 ok.2.2.2.1 hw rfl
  refine ⟨mE o r, fun H1 => mm g H1 = (LF_M_point_c (mm g H) r ml rl kc).1 ∧ va_P D classes [(o, .inr (0, mo_fs r (mi (nI 0) (nI 0) (nI ml) (nI rl) (nI kc))))] H1, _, _, ?_, ?_, hm, fun z h => h, fun H1 hP hJ => ?_⟩
  · exact Nat.le_of_ble_eq_true rfl
  · exact Nat.le_of_ble_eq_true rfl
  obtain ⟨hV, hP⟩ := hP
  have hN : onN r poW (mm g H) (mm g H1) := by
    rw [hV]
    exact mv.2.1
  exact h.upd hI hJ hN rfl hP (fun j hj => absurd hj (Nat.not_lt_zero j)) (fun j hj => by rw [(hN.at hI 2 rfl).2]; exact h.2.2.2.2.1 j hj) (fun k hk j hj => by rw [(hN.at hI 4 rfl).2]; exact h.2.2.2.2.2.1 k hk j hj) (fun j hj => by rw [hV, pc_3 hI]; exact h.2.2.2.2.2.2 j hj)
theorem n_verify_a (h : MS D g o r th tl ml rl kc tp ms rs ks H) (ok : Aok tl ml rl kc tp ms rs ks) (hI : MInj r) (ht : tl = 96) : DStep l D g y_M_verify b_M_verify 2 (some .int) [.ref o] H ((LF_M_verify_a (mm g H) r ml rl kc).2) (mE o r) (fun H1 => MS D g o r (nI 0) 0 ml rl kc tp ms rs ks H1) := by
  subst ht
  have hm := v_M_verify_a (l := l) (E := mE o r) (X := mm g H) h.1 (Or.inl rfl) h.2.1 mm_W ok.2.1 ok.2.2.1 ok.2.2.2.1 rfl
  refine ⟨mE o r, fun H1 => mm g H1 = (LF_M_verify_a (mm g H) r ml rl kc).1 ∧ va_P D classes [(o, .inr (0, mo_fs r (mi (nI 0) (nI 0) (nI ml) (nI rl) (nI kc))))] H1, _, _, ?_, ?_, hm, fun z h => h, fun H1 hP hJ => ?_⟩
  · exact Nat.le_of_ble_eq_true rfl
  · exact Nat.le_of_ble_eq_true rfl
  obtain ⟨hV, hP⟩ := hP
  have hN : onN r mW (mm g H) (mm g H1) := by
    rw [hV]
    exact (onP.si (hK_W r 9 rfl) (on_M_verified (hK_W r)) : onP (fun z => z ∈ mW.map r) _ _)
  exact h.upd hI hJ hN rfl hP (fun j hj => absurd hj (Nat.not_lt_zero j)) (fun j hj => by rw [(hN.at hI 2 rfl).2]; exact h.2.2.2.2.1 j hj) (fun k hk j hj => by rw [(hN.at hI 4 rfl).2]; exact h.2.2.2.2.2.1 k hk j hj) (fun j hj => by rw [(hN.at hI 3 rfl).2]; exact h.2.2.2.2.2.2 j hj)
theorem n_count (h : MS D g o r th tl ml rl kc tp ms rs ks H) (ok : Aok tl ml rl kc tp ms rs ks) (hI : MInj r) (u : Int32) : ∃ V, DStep l D g y_M_count b_M_count 2 (some .int) [.ref o, .int u] H V (mE o r) (fun H1 => MS D g o r (nI 0) tl ml rl kc tp ms rs ks H1) := by
  have go : ∀ {V : Int32} {fr lo : Nat}, fr ≤ 100 → lo ≤ 20000 → Met l y_M_count (.code y_M_count b_M_count 2 (some .int) :: G_) { frames := fr, cells := 0, slots := 0, locals := lo } (sx_Pc [.ref o, .int u] H D g) (px_Q g (mE o r) H V (fun H1 => mm g H1 = mm g H ∧ va_P D classes [(o, .inr (0, mo_fs r (mi (nI 0) (nI tl) (nI ml) (nI rl) (nI kc))))] H1)) 0 0 (mE o r) → ∃ V, DStep l D g y_M_count b_M_count 2 (some .int) [.ref o, .int u] H V (mE o r) (fun H1 => MS D g o r (nI 0) tl ml rl kc tp ms rs ks H1) := fun {V fr lo} h1 h2 hm => ⟨V, _, _, fr, lo, h1, h2, hm, fun z h => h, fun H1 hP hJ => h.thr hJ hP.1 hP.2⟩
  by_cases h0 : u.toInt < 0
  · exact go (by decide) (by decide) (v_M_count_e (X := mm g H) (v0 := u) h.1 (Or.inl rfl) h.2.1 mm_W ok.1 ok.2.1 ok.2.2.1 ok.2.2.2.1 h0 (Int32.le_iff_toInt_le.mpr (by rw [nI_toInt (by decide)]; omega)) rfl)
  · by_cases h9 : 9 < u.toInt
    · exact go (by decide) (by decide) (v_M_count_f (X := mm g H) (v0 := u) h.1 (Or.inl rfl) h.2.1 mm_W ok.1 ok.2.1 ok.2.2.1 ok.2.2.2.1 (by omega) (fun z => by have := Int32.le_iff_toInt_le.mp z; rw [nI_toInt (by decide)] at this; omega) (Int32.le_iff_toInt_le.mpr (by rw [nI_toInt (by decide)]; omega)) rfl)
    · have hu : ∃ n : Nat, n < 10 ∧ u = nI n := ⟨u.toInt.toNat, by omega, Int32.toInt_inj.mp (by rw [nI_toInt (by omega)]; omega)⟩
      obtain ⟨n, hn, rfl⟩ := hu
      by_cases h4 : 4 ≤ n
      · exact go (by decide) (by decide) (v_M_count_d (X := mm g H) (v0 := n) h.1 (Or.inl rfl) h.2.1 mm_W ok.1 ok.2.1 ok.2.2.1 ok.2.2.2.1 ⟨h4, by omega⟩ rfl)
      · rcases (show n = 0 ∨ n = 1 ∨ n = 2 ∨ n = 3 by omega) with rfl | rfl | rfl | rfl
        · exact go (by decide) (by decide) (v_M_count_0 (X := mm g H) h.1 (Or.inl rfl) h.2.1 mm_W ok.1 ok.2.1 ok.2.2.1 ok.2.2.2.1 rfl)
        · exact go (by decide) (by decide) (v_M_count_1 (X := mm g H) h.1 (Or.inl rfl) h.2.1 mm_W ok.1 ok.2.1 ok.2.2.1 ok.2.2.2.1 rfl)
        · exact go (by decide) (by decide) (v_M_count_2 (X := mm g H) h.1 (Or.inl rfl) h.2.1 mm_W ok.1 ok.2.1 ok.2.2.1 ok.2.2.2.1 rfl)
        · exact go (by decide) (by decide) (v_M_count_3 (X := mm g H) h.1 (Or.inl rfl) h.2.1 mm_W ok.1 ok.2.1 ok.2.2.1 ok.2.2.2.1 rfl)
end MSU
